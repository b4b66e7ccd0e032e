theorem dX6_letter_0 : decode mX6_letter.2.1 0 = .ok (.iload_n 1, 1) := by decide +kernel
theorem dX6_letter_1 : decode mX6_letter.2.1 1 = .ok (.bipush 32, 2) := by decide +kernel
theorem dX6_letter_3 : decode mX6_letter.2.1 3 = .ok (.if_icmp .lt 9, 3) := by decide +kernel
theorem dX6_letter_6 : decode mX6_letter.2.1 6 = .ok (.iload_n 1, 1) := by decide +kernel
theorem dX6_letter_7 : decode mX6_letter.2.1 7 = .ok (.bipush 126, 2) := by decide +kernel
theorem dX6_letter_9 : decode mX6_letter.2.1 9 = .ok (.if_icmp .le 7, 3) := by decide +kernel
theorem dX6_letter_12 : decode mX6_letter.2.1 12 = .ok (.sipush (-1002), 3) := by decide +kernel
theorem dX6_letter_15 : decode mX6_letter.2.1 15 = .ok (.ireturn, 1) := by decide +kernel
theorem dX6_letter_16 : decode mX6_letter.2.1 16 = .ok (.aload_n 0, 1) := by decide +kernel
theorem dX6_letter_17 : decode mX6_letter.2.1 17 = .ok (.getfield 10, 3) := by decide +kernel
theorem dX6_letter_20 : decode mX6_letter.2.1 20 = .ok (.iload_n 1, 1) := by decide +kernel
theorem dX6_letter_21 : decode mX6_letter.2.1 21 = .ok (.invokevirtual 61, 3) := by decide +kernel
theorem dX6_letter_24 : decode mX6_letter.2.1 24 = .ok (.ifCond .eq 13, 3) := by decide +kernel
theorem dX6_letter_27 : decode mX6_letter.2.1 27 = .ok (.aload_n 0, 1) := by decide +kernel
theorem dX6_letter_28 : decode mX6_letter.2.1 28 = .ok (.getfield 10, 3) := by decide +kernel
theorem dX6_letter_31 : decode mX6_letter.2.1 31 = .ok (.getfield 65, 3) := by decide +kernel
theorem dX6_letter_34 : decode mX6_letter.2.1 34 = .ok (.goto 6, 3) := by decide +kernel
theorem dX6_letter_37 : decode mX6_letter.2.1 37 = .ok (.sipush (-1004), 3) := by decide +kernel
theorem dX6_letter_40 : decode mX6_letter.2.1 40 = .ok (.ireturn, 1) := by decide +kernel
theorem dX6_blank_0 : decode mX6_blank.2.1 0 = .ok (.aload_n 0, 1) := by decide +kernel
theorem dX6_blank_1 : decode mX6_blank.2.1 1 = .ok (.getfield 10, 3) := by decide +kernel
theorem dX6_blank_4 : decode mX6_blank.2.1 4 = .ok (.getfield 65, 3) := by decide +kernel
theorem dX6_blank_7 : decode mX6_blank.2.1 7 = .ok (.istore_n 1, 1) := by decide +kernel
theorem dX6_blank_8 : decode mX6_blank.2.1 8 = .ok (.aload_n 0, 1) := by decide +kernel
theorem dX6_blank_9 : decode mX6_blank.2.1 9 = .ok (.getfield 10, 3) := by decide +kernel
theorem dX6_blank_12 : decode mX6_blank.2.1 12 = .ok (.invokevirtual 68, 3) := by decide +kernel
theorem dX6_blank_15 : decode mX6_blank.2.1 15 = .ok (.iload_n 1, 1) := by decide +kernel
theorem dX6_blank_16 : decode mX6_blank.2.1 16 = .ok (.ireturn, 1) := by decide +kernel
theorem dX6_fault_0 : decode mX6_fault.2.1 0 = .ok (.aload_n 0, 1) := by decide +kernel
theorem dX6_fault_1 : decode mX6_fault.2.1 1 = .ok (.getfield 19, 3) := by decide +kernel
theorem dX6_fault_4 : decode mX6_fault.2.1 4 = .ok (.aload_n 0, 1) := by decide +kernel
theorem dX6_fault_5 : decode mX6_fault.2.1 5 = .ok (.getfield 10, 3) := by decide +kernel
theorem dX6_fault_8 : decode mX6_fault.2.1 8 = .ok (.aload_n 0, 1) := by decide +kernel
theorem dX6_fault_9 : decode mX6_fault.2.1 9 = .ok (.getfield 26, 3) := by decide +kernel
theorem dX6_fault_12 : decode mX6_fault.2.1 12 = .ok (.getfield 71, 3) := by decide +kernel
theorem dX6_fault_15 : decode mX6_fault.2.1 15 = .ok (.invokevirtual 74, 3) := by decide +kernel
theorem dX6_fault_18 : decode mX6_fault.2.1 18 = .ok (.ireturn, 1) := by decide +kernel
theorem dX6_type_0 : decode mX6_type.2.1 0 = .ok (.aload_n 0, 1) := by decide +kernel
theorem dX6_type_1 : decode mX6_type.2.1 1 = .ok (.getfield 19, 3) := by decide +kernel
theorem dX6_type_4 : decode mX6_type.2.1 4 = .ok (.aload_n 0, 1) := by decide +kernel
theorem dX6_type_5 : decode mX6_type.2.1 5 = .ok (.getfield 10, 3) := by decide +kernel
theorem dX6_type_8 : decode mX6_type.2.1 8 = .ok (.aload_n 0, 1) := by decide +kernel
theorem dX6_type_9 : decode mX6_type.2.1 9 = .ok (.getfield 26, 3) := by decide +kernel
theorem dX6_type_12 : decode mX6_type.2.1 12 = .ok (.getfield 71, 3) := by decide +kernel
theorem dX6_type_15 : decode mX6_type.2.1 15 = .ok (.invokevirtual 74, 3) := by decide +kernel
theorem dX6_type_18 : decode mX6_type.2.1 18 = .ok (.aload_n 0, 1) := by decide +kernel
theorem dX6_type_19 : decode mX6_type.2.1 19 = .ok (.getfield 10, 3) := by decide +kernel
theorem dX6_type_22 : decode mX6_type.2.1 22 = .ok (.getfield 65, 3) := by decide +kernel
theorem dX6_type_25 : decode mX6_type.2.1 25 = .ok (.if_icmp .lt 13, 3) := by decide +kernel
theorem dX6_type_28 : decode mX6_type.2.1 28 = .ok (.aload_n 0, 1) := by decide +kernel
theorem dX6_type_29 : decode mX6_type.2.1 29 = .ok (.getfield 19, 3) := by decide +kernel
theorem dX6_type_32 : decode mX6_type.2.1 32 = .ok (.invokevirtual 78, 3) := by decide +kernel
theorem dX6_type_35 : decode mX6_type.2.1 35 = .ok (.ifCond .ne 7, 3) := by decide +kernel
theorem dX6_type_38 : decode mX6_type.2.1 38 = .ok (.sipush (-1003), 3) := by decide +kernel
theorem dX6_type_41 : decode mX6_type.2.1 41 = .ok (.ireturn, 1) := by decide +kernel
theorem dX6_type_42 : decode mX6_type.2.1 42 = .ok (.aload_n 0, 1) := by decide +kernel
theorem dX6_type_43 : decode mX6_type.2.1 43 = .ok (.getfield 26, 3) := by decide +kernel
theorem dX6_type_46 : decode mX6_type.2.1 46 = .ok (.aload_n 0, 1) := by decide +kernel
theorem dX6_type_47 : decode mX6_type.2.1 47 = .ok (.getfield 19, 3) := by decide +kernel
theorem dX6_type_50 : decode mX6_type.2.1 50 = .ok (.invokevirtual 82, 3) := by decide +kernel
theorem dX6_type_53 : decode mX6_type.2.1 53 = .ok (.ifCond .ne 7, 3) := by decide +kernel
theorem dX6_type_56 : decode mX6_type.2.1 56 = .ok (.sipush (-1004), 3) := by decide +kernel
theorem dX6_type_59 : decode mX6_type.2.1 59 = .ok (.ireturn, 1) := by decide +kernel
theorem dX6_type_60 : decode mX6_type.2.1 60 = .ok (.aload_n 0, 1) := by decide +kernel
theorem dX6_type_61 : decode mX6_type.2.1 61 = .ok (.getfield 26, 3) := by decide +kernel
theorem dX6_type_64 : decode mX6_type.2.1 64 = .ok (.aload_n 0, 1) := by decide +kernel
theorem dX6_type_65 : decode mX6_type.2.1 65 = .ok (.getfield 19, 3) := by decide +kernel
theorem dX6_type_68 : decode mX6_type.2.1 68 = .ok (.invokevirtual 86, 3) := by decide +kernel
theorem dX6_type_71 : decode mX6_type.2.1 71 = .ok (.istore_n 1, 1) := by decide +kernel
theorem dX6_type_72 : decode mX6_type.2.1 72 = .ok (.aload_n 0, 1) := by decide +kernel
theorem dX6_type_73 : decode mX6_type.2.1 73 = .ok (.getfield 10, 3) := by decide +kernel
theorem dX6_type_76 : decode mX6_type.2.1 76 = .ok (.invokevirtual 68, 3) := by decide +kernel
theorem dX6_type_79 : decode mX6_type.2.1 79 = .ok (.aload_n 0, 1) := by decide +kernel
theorem dX6_type_80 : decode mX6_type.2.1 80 = .ok (.getfield 49, 3) := by decide +kernel
theorem dX6_type_83 : decode mX6_type.2.1 83 = .ok (.invokevirtual 90, 3) := by decide +kernel
theorem dX6_type_86 : decode mX6_type.2.1 86 = .ok (.iload_n 1, 1) := by decide +kernel
theorem dX6_type_87 : decode mX6_type.2.1 87 = .ok (.ireturn, 1) := by decide +kernel
theorem dX6_drop_0 : decode mX6_drop.2.1 0 = .ok (.aload_n 0, 1) := by decide +kernel
theorem dX6_drop_1 : decode mX6_drop.2.1 1 = .ok (.getfield 26, 3) := by decide +kernel
theorem dX6_drop_4 : decode mX6_drop.2.1 4 = .ok (.getfield 71, 3) := by decide +kernel
theorem dX6_drop_7 : decode mX6_drop.2.1 7 = .ok (.ifCond .eq 13, 3) := by decide +kernel
theorem dX6_drop_10 : decode mX6_drop.2.1 10 = .ok (.aload_n 0, 1) := by decide +kernel
theorem dX6_drop_11 : decode mX6_drop.2.1 11 = .ok (.getfield 26, 3) := by decide +kernel
theorem dX6_drop_14 : decode mX6_drop.2.1 14 = .ok (.invokevirtual 93, 3) := by decide +kernel
theorem dX6_drop_17 : decode mX6_drop.2.1 17 = .ok (.ifCond .eq 7, 3) := by decide +kernel
theorem dX6_drop_20 : decode mX6_drop.2.1 20 = .ok (.sipush (-1003), 3) := by decide +kernel
theorem dX6_drop_23 : decode mX6_drop.2.1 23 = .ok (.ireturn, 1) := by decide +kernel
theorem dX6_drop_24 : decode mX6_drop.2.1 24 = .ok (.aload_n 0, 1) := by decide +kernel
theorem dX6_drop_25 : decode mX6_drop.2.1 25 = .ok (.getfield 26, 3) := by decide +kernel
theorem dX6_drop_28 : decode mX6_drop.2.1 28 = .ok (.invokevirtual 96, 3) := by decide +kernel
theorem dX6_drop_31 : decode mX6_drop.2.1 31 = .ok (.aload_n 0, 1) := by decide +kernel
theorem dX6_drop_32 : decode mX6_drop.2.1 32 = .ok (.getfield 49, 3) := by decide +kernel
theorem dX6_drop_35 : decode mX6_drop.2.1 35 = .ok (.invokevirtual 90, 3) := by decide +kernel
theorem dX6_drop_38 : decode mX6_drop.2.1 38 = .ok (.aload_n 0, 1) := by decide +kernel
theorem dX6_drop_39 : decode mX6_drop.2.1 39 = .ok (.getfield 26, 3) := by decide +kernel
theorem dX6_drop_42 : decode mX6_drop.2.1 42 = .ok (.getfield 71, 3) := by decide +kernel
theorem dX6_drop_45 : decode mX6_drop.2.1 45 = .ok (.ireturn, 1) := by decide +kernel
theorem dX6_hollow_0 : decode mX6_hollow.2.1 0 = .ok (.aload_n 0, 1) := by decide +kernel
theorem dX6_hollow_1 : decode mX6_hollow.2.1 1 = .ok (.getfield 26, 3) := by decide +kernel
theorem dX6_hollow_4 : decode mX6_hollow.2.1 4 = .ok (.iload_n 1, 1) := by decide +kernel
theorem dX6_hollow_5 : decode mX6_hollow.2.1 5 = .ok (.invokevirtual 99, 3) := by decide +kernel
theorem dX6_hollow_8 : decode mX6_hollow.2.1 8 = .ok (.ifCond .ne 7, 3) := by decide +kernel
theorem dX6_hollow_11 : decode mX6_hollow.2.1 11 = .ok (.sipush (-1001), 3) := by decide +kernel
theorem dX6_hollow_14 : decode mX6_hollow.2.1 14 = .ok (.ireturn, 1) := by decide +kernel
theorem dX6_hollow_15 : decode mX6_hollow.2.1 15 = .ok (.aload_n 0, 1) := by decide +kernel
theorem dX6_hollow_16 : decode mX6_hollow.2.1 16 = .ok (.getfield 26, 3) := by decide +kernel
theorem dX6_hollow_19 : decode mX6_hollow.2.1 19 = .ok (.iload_n 1, 1) := by decide +kernel
theorem dX6_hollow_20 : decode mX6_hollow.2.1 20 = .ok (.invokevirtual 102, 3) := by decide +kernel
theorem dX6_hollow_23 : decode mX6_hollow.2.1 23 = .ok (.istore_n 3, 1) := by decide +kernel
theorem dX6_hollow_24 : decode mX6_hollow.2.1 24 = .ok (.aload_n 0, 1) := by decide +kernel
theorem dX6_hollow_25 : decode mX6_hollow.2.1 25 = .ok (.getfield 26, 3) := by decide +kernel
theorem dX6_hollow_28 : decode mX6_hollow.2.1 28 = .ok (.iload_n 1, 1) := by decide +kernel
theorem dX6_hollow_29 : decode mX6_hollow.2.1 29 = .ok (.iload_n 2, 1) := by decide +kernel
theorem dX6_hollow_30 : decode mX6_hollow.2.1 30 = .ok (.invokevirtual 105, 3) := by decide +kernel
theorem dX6_hollow_33 : decode mX6_hollow.2.1 33 = .ok (.aload_n 0, 1) := by decide +kernel
theorem dX6_hollow_34 : decode mX6_hollow.2.1 34 = .ok (.getfield 49, 3) := by decide +kernel
theorem dX6_hollow_37 : decode mX6_hollow.2.1 37 = .ok (.invokevirtual 90, 3) := by decide +kernel
theorem dX6_hollow_40 : decode mX6_hollow.2.1 40 = .ok (.iload_n 3, 1) := by decide +kernel
theorem dX6_hollow_41 : decode mX6_hollow.2.1 41 = .ok (.ifCond .eq 7, 3) := by decide +kernel
theorem dX6_hollow_44 : decode mX6_hollow.2.1 44 = .ok (.iconst 1, 1) := by decide +kernel
theorem dX6_hollow_45 : decode mX6_hollow.2.1 45 = .ok (.goto 4, 3) := by decide +kernel
theorem dX6_hollow_48 : decode mX6_hollow.2.1 48 = .ok (.iconst 0, 1) := by decide +kernel
theorem dX6_hollow_49 : decode mX6_hollow.2.1 49 = .ok (.ireturn, 1) := by decide +kernel
theorem dX6_of_0 : decode mX6_of.2.1 0 = .ok (.aload_n 0, 1) := by decide +kernel
theorem dX6_of_1 : decode mX6_of.2.1 1 = .ok (.getfield 26, 3) := by decide +kernel
theorem dX6_of_4 : decode mX6_of.2.1 4 = .ok (.iload_n 1, 1) := by decide +kernel
theorem dX6_of_5 : decode mX6_of.2.1 5 = .ok (.invokevirtual 99, 3) := by decide +kernel
theorem dX6_of_8 : decode mX6_of.2.1 8 = .ok (.ifCond .ne 7, 3) := by decide +kernel
theorem dX6_of_11 : decode mX6_of.2.1 11 = .ok (.sipush (-1001), 3) := by decide +kernel
theorem dX6_of_14 : decode mX6_of.2.1 14 = .ok (.ireturn, 1) := by decide +kernel
theorem dX6_of_15 : decode mX6_of.2.1 15 = .ok (.iload_n 2, 1) := by decide +kernel
theorem dX6_of_16 : decode mX6_of.2.1 16 = .ok (.tableswitch 122 0 6 #[44, 53, 70, 82, 91, 104, 113], 44) := by decide +kernel
theorem dX6_of_60 : decode mX6_of.2.1 60 = .ok (.aload_n 0, 1) := by decide +kernel
theorem dX6_of_61 : decode mX6_of.2.1 61 = .ok (.getfield 26, 3) := by decide +kernel
theorem dX6_of_64 : decode mX6_of.2.1 64 = .ok (.iload_n 1, 1) := by decide +kernel
theorem dX6_of_65 : decode mX6_of.2.1 65 = .ok (.invokevirtual 109, 3) := by decide +kernel
theorem dX6_of_68 : decode mX6_of.2.1 68 = .ok (.ireturn, 1) := by decide +kernel
theorem dX6_of_69 : decode mX6_of.2.1 69 = .ok (.aload_n 0, 1) := by decide +kernel
theorem dX6_of_70 : decode mX6_of.2.1 70 = .ok (.getfield 26, 3) := by decide +kernel
theorem dX6_of_73 : decode mX6_of.2.1 73 = .ok (.iload_n 1, 1) := by decide +kernel
theorem dX6_of_74 : decode mX6_of.2.1 74 = .ok (.invokevirtual 102, 3) := by decide +kernel
theorem dX6_of_77 : decode mX6_of.2.1 77 = .ok (.ifCond .eq 7, 3) := by decide +kernel
theorem dX6_of_80 : decode mX6_of.2.1 80 = .ok (.iconst 1, 1) := by decide +kernel
theorem dX6_of_81 : decode mX6_of.2.1 81 = .ok (.goto 4, 3) := by decide +kernel
theorem dX6_of_84 : decode mX6_of.2.1 84 = .ok (.iconst 0, 1) := by decide +kernel
theorem dX6_of_85 : decode mX6_of.2.1 85 = .ok (.ireturn, 1) := by decide +kernel
theorem dX6_of_86 : decode mX6_of.2.1 86 = .ok (.aload_n 0, 1) := by decide +kernel
theorem dX6_of_87 : decode mX6_of.2.1 87 = .ok (.getfield 26, 3) := by decide +kernel
theorem dX6_of_90 : decode mX6_of.2.1 90 = .ok (.iload_n 1, 1) := by decide +kernel
theorem dX6_of_91 : decode mX6_of.2.1 91 = .ok (.iconst 0, 1) := by decide +kernel
theorem dX6_of_92 : decode mX6_of.2.1 92 = .ok (.bipush 6, 2) := by decide +kernel
theorem dX6_of_94 : decode mX6_of.2.1 94 = .ok (.invokevirtual 113, 3) := by decide +kernel
theorem dX6_of_97 : decode mX6_of.2.1 97 = .ok (.ireturn, 1) := by decide +kernel
theorem dX6_of_98 : decode mX6_of.2.1 98 = .ok (.aload_n 0, 1) := by decide +kernel
theorem dX6_of_99 : decode mX6_of.2.1 99 = .ok (.getfield 26, 3) := by decide +kernel
theorem dX6_of_102 : decode mX6_of.2.1 102 = .ok (.iload_n 1, 1) := by decide +kernel
theorem dX6_of_103 : decode mX6_of.2.1 103 = .ok (.invokevirtual 117, 3) := by decide +kernel
theorem dX6_of_106 : decode mX6_of.2.1 106 = .ok (.ireturn, 1) := by decide +kernel
theorem dX6_of_107 : decode mX6_of.2.1 107 = .ok (.aload_n 0, 1) := by decide +kernel
theorem dX6_of_108 : decode mX6_of.2.1 108 = .ok (.getfield 26, 3) := by decide +kernel
theorem dX6_of_111 : decode mX6_of.2.1 111 = .ok (.iload_n 1, 1) := by decide +kernel
theorem dX6_of_112 : decode mX6_of.2.1 112 = .ok (.bipush 6, 2) := by decide +kernel
theorem dX6_of_114 : decode mX6_of.2.1 114 = .ok (.bipush 12, 2) := by decide +kernel
theorem dX6_of_116 : decode mX6_of.2.1 116 = .ok (.invokevirtual 113, 3) := by decide +kernel
theorem dX6_of_119 : decode mX6_of.2.1 119 = .ok (.ireturn, 1) := by decide +kernel
theorem dX6_of_120 : decode mX6_of.2.1 120 = .ok (.aload_n 0, 1) := by decide +kernel
theorem dX6_of_121 : decode mX6_of.2.1 121 = .ok (.getfield 26, 3) := by decide +kernel
theorem dX6_of_124 : decode mX6_of.2.1 124 = .ok (.iload_n 1, 1) := by decide +kernel
theorem dX6_of_125 : decode mX6_of.2.1 125 = .ok (.invokevirtual 120, 3) := by decide +kernel
theorem dX6_of_128 : decode mX6_of.2.1 128 = .ok (.ireturn, 1) := by decide +kernel
theorem dX6_of_129 : decode mX6_of.2.1 129 = .ok (.aload_n 0, 1) := by decide +kernel
theorem dX6_of_130 : decode mX6_of.2.1 130 = .ok (.getfield 26, 3) := by decide +kernel
theorem dX6_of_133 : decode mX6_of.2.1 133 = .ok (.iload_n 1, 1) := by decide +kernel
theorem dX6_of_134 : decode mX6_of.2.1 134 = .ok (.invokevirtual 123, 3) := by decide +kernel
theorem dX6_of_137 : decode mX6_of.2.1 137 = .ok (.ireturn, 1) := by decide +kernel
theorem dX6_of_138 : decode mX6_of.2.1 138 = .ok (.sipush (-1002), 3) := by decide +kernel
theorem dX6_of_141 : decode mX6_of.2.1 141 = .ok (.ireturn, 1) := by decide +kernel
theorem dX6_has_0 : decode mX6_has.2.1 0 = .ok (.aload_n 0, 1) := by decide +kernel
theorem dX6_has_1 : decode mX6_has.2.1 1 = .ok (.getfield 26, 3) := by decide +kernel
theorem dX6_has_4 : decode mX6_has.2.1 4 = .ok (.iload_n 1, 1) := by decide +kernel
theorem dX6_has_5 : decode mX6_has.2.1 5 = .ok (.invokevirtual 99, 3) := by decide +kernel
theorem dX6_has_8 : decode mX6_has.2.1 8 = .ok (.ifCond .eq 10, 3) := by decide +kernel
theorem dX6_has_11 : decode mX6_has.2.1 11 = .ok (.iload_n 2, 1) := by decide +kernel
theorem dX6_has_12 : decode mX6_has.2.1 12 = .ok (.invokestatic 126, 3) := by decide +kernel
theorem dX6_has_15 : decode mX6_has.2.1 15 = .ok (.ifCond .ne 7, 3) := by decide +kernel
theorem dX6_has_18 : decode mX6_has.2.1 18 = .ok (.sipush (-1001), 3) := by decide +kernel
theorem dX6_has_21 : decode mX6_has.2.1 21 = .ok (.ireturn, 1) := by decide +kernel
theorem dX6_has_22 : decode mX6_has.2.1 22 = .ok (.aload_n 0, 1) := by decide +kernel
theorem dX6_has_23 : decode mX6_has.2.1 23 = .ok (.getfield 26, 3) := by decide +kernel
theorem dX6_has_26 : decode mX6_has.2.1 26 = .ok (.iload_n 1, 1) := by decide +kernel
theorem dX6_has_27 : decode mX6_has.2.1 27 = .ok (.iload_n 2, 1) := by decide +kernel
theorem dX6_has_28 : decode mX6_has.2.1 28 = .ok (.invokevirtual 129, 3) := by decide +kernel
theorem dX6_has_31 : decode mX6_has.2.1 31 = .ok (.ireturn, 1) := by decide +kernel
theorem dX6_answer_0 : decode mX6_answer.2.1 0 = .ok (.aload_n 0, 1) := by decide +kernel
theorem dX6_answer_1 : decode mX6_answer.2.1 1 = .ok (.getfield 26, 3) := by decide +kernel
theorem dX6_answer_4 : decode mX6_answer.2.1 4 = .ok (.iload_n 1, 1) := by decide +kernel
theorem dX6_answer_5 : decode mX6_answer.2.1 5 = .ok (.invokevirtual 99, 3) := by decide +kernel
theorem dX6_answer_8 : decode mX6_answer.2.1 8 = .ok (.ifCond .eq 10, 3) := by decide +kernel
theorem dX6_answer_11 : decode mX6_answer.2.1 11 = .ok (.iload_n 2, 1) := by decide +kernel
theorem dX6_answer_12 : decode mX6_answer.2.1 12 = .ok (.invokestatic 133, 3) := by decide +kernel
theorem dX6_answer_15 : decode mX6_answer.2.1 15 = .ok (.ifCond .ne 7, 3) := by decide +kernel
theorem dX6_answer_18 : decode mX6_answer.2.1 18 = .ok (.sipush (-1001), 3) := by decide +kernel
theorem dX6_answer_21 : decode mX6_answer.2.1 21 = .ok (.ireturn, 1) := by decide +kernel
theorem dX6_answer_22 : decode mX6_answer.2.1 22 = .ok (.iload_n 3, 1) := by decide +kernel
theorem dX6_answer_23 : decode mX6_answer.2.1 23 = .ok (.ifCond .lt 8, 3) := by decide +kernel
theorem dX6_answer_26 : decode mX6_answer.2.1 26 = .ok (.iload_n 3, 1) := by decide +kernel
theorem dX6_answer_27 : decode mX6_answer.2.1 27 = .ok (.iconst 1, 1) := by decide +kernel
theorem dX6_answer_28 : decode mX6_answer.2.1 28 = .ok (.if_icmp .le 7, 3) := by decide +kernel
theorem dX6_answer_31 : decode mX6_answer.2.1 31 = .ok (.sipush (-1002), 3) := by decide +kernel
theorem dX6_answer_34 : decode mX6_answer.2.1 34 = .ok (.ireturn, 1) := by decide +kernel
theorem dX6_answer_35 : decode mX6_answer.2.1 35 = .ok (.aload_n 0, 1) := by decide +kernel
theorem dX6_answer_36 : decode mX6_answer.2.1 36 = .ok (.getfield 26, 3) := by decide +kernel
theorem dX6_answer_39 : decode mX6_answer.2.1 39 = .ok (.iload_n 1, 1) := by decide +kernel
theorem dX6_answer_40 : decode mX6_answer.2.1 40 = .ok (.iload_n 2, 1) := by decide +kernel
theorem dX6_answer_41 : decode mX6_answer.2.1 41 = .ok (.invokevirtual 136, 3) := by decide +kernel
theorem dX6_answer_44 : decode mX6_answer.2.1 44 = .ok (.istore 4, 2) := by decide +kernel
theorem dX6_answer_46 : decode mX6_answer.2.1 46 = .ok (.iload_n 3, 1) := by decide +kernel
theorem dX6_answer_47 : decode mX6_answer.2.1 47 = .ok (.iconst 1, 1) := by decide +kernel
theorem dX6_answer_48 : decode mX6_answer.2.1 48 = .ok (.if_icmp .eq 9, 3) := by decide +kernel
theorem dX6_answer_51 : decode mX6_answer.2.1 51 = .ok (.iload 4, 2) := by decide +kernel
theorem dX6_answer_53 : decode mX6_answer.2.1 53 = .ok (.iconst (-1), 1) := by decide +kernel
theorem dX6_answer_54 : decode mX6_answer.2.1 54 = .ok (.if_icmp .ne 8, 3) := by decide +kernel
theorem dX6_answer_57 : decode mX6_answer.2.1 57 = .ok (.iload 4, 2) := by decide +kernel
theorem dX6_answer_59 : decode mX6_answer.2.1 59 = .ok (.goto 13, 3) := by decide +kernel
theorem dX6_answer_62 : decode mX6_answer.2.1 62 = .ok (.aload_n 0, 1) := by decide +kernel
theorem dX6_answer_63 : decode mX6_answer.2.1 63 = .ok (.getfield 26, 3) := by decide +kernel
theorem dX6_answer_66 : decode mX6_answer.2.1 66 = .ok (.iload 4, 2) := by decide +kernel
theorem dX6_answer_68 : decode mX6_answer.2.1 68 = .ok (.iload_n 2, 1) := by decide +kernel
theorem dX6_answer_69 : decode mX6_answer.2.1 69 = .ok (.invokevirtual 129, 3) := by decide +kernel
theorem dX6_answer_72 : decode mX6_answer.2.1 72 = .ok (.ireturn, 1) := by decide +kernel
theorem dX6_body_0 : decode mX6_body.2.1 0 = .ok (.aload_n 0, 1) := by decide +kernel
theorem dX6_body_1 : decode mX6_body.2.1 1 = .ok (.getfield 26, 3) := by decide +kernel
theorem dX6_body_4 : decode mX6_body.2.1 4 = .ok (.iload_n 1, 1) := by decide +kernel
theorem dX6_body_5 : decode mX6_body.2.1 5 = .ok (.invokevirtual 139, 3) := by decide +kernel
theorem dX6_body_8 : decode mX6_body.2.1 8 = .ok (.ifCond .ne 7, 3) := by decide +kernel
theorem dX6_body_11 : decode mX6_body.2.1 11 = .ok (.sipush (-1001), 3) := by decide +kernel
theorem dX6_body_14 : decode mX6_body.2.1 14 = .ok (.ireturn, 1) := by decide +kernel
theorem dX6_body_15 : decode mX6_body.2.1 15 = .ok (.iload_n 2, 1) := by decide +kernel
theorem dX6_body_16 : decode mX6_body.2.1 16 = .ok (.ifCond .ne 12, 3) := by decide +kernel
theorem dX6_body_19 : decode mX6_body.2.1 19 = .ok (.aload_n 0, 1) := by decide +kernel
theorem dX6_body_20 : decode mX6_body.2.1 20 = .ok (.getfield 26, 3) := by decide +kernel
theorem dX6_body_23 : decode mX6_body.2.1 23 = .ok (.iload_n 1, 1) := by decide +kernel
theorem dX6_body_24 : decode mX6_body.2.1 24 = .ok (.invokevirtual 142, 3) := by decide +kernel
theorem dX6_body_27 : decode mX6_body.2.1 27 = .ok (.ireturn, 1) := by decide +kernel
theorem dX6_body_28 : decode mX6_body.2.1 28 = .ok (.iload_n 2, 1) := by decide +kernel
theorem dX6_body_29 : decode mX6_body.2.1 29 = .ok (.bipush 10, 2) := by decide +kernel
theorem dX6_body_31 : decode mX6_body.2.1 31 = .ok (.if_icmp .lt 9, 3) := by decide +kernel
theorem dX6_body_34 : decode mX6_body.2.1 34 = .ok (.iload_n 2, 1) := by decide +kernel
theorem dX6_body_35 : decode mX6_body.2.1 35 = .ok (.bipush 16, 2) := by decide +kernel
theorem dX6_body_37 : decode mX6_body.2.1 37 = .ok (.if_icmp .lt 7, 3) := by decide +kernel
theorem dX6_body_40 : decode mX6_body.2.1 40 = .ok (.sipush (-1002), 3) := by decide +kernel
theorem dX6_body_43 : decode mX6_body.2.1 43 = .ok (.ireturn, 1) := by decide +kernel
theorem dX6_body_44 : decode mX6_body.2.1 44 = .ok (.aload_n 0, 1) := by decide +kernel
theorem dX6_body_45 : decode mX6_body.2.1 45 = .ok (.getfield 26, 3) := by decide +kernel
theorem dX6_body_48 : decode mX6_body.2.1 48 = .ok (.iload_n 1, 1) := by decide +kernel
theorem dX6_body_49 : decode mX6_body.2.1 49 = .ok (.iload_n 2, 1) := by decide +kernel
theorem dX6_body_50 : decode mX6_body.2.1 50 = .ok (.bipush 10, 2) := by decide +kernel
theorem dX6_body_52 : decode mX6_body.2.1 52 = .ok (.isub, 1) := by decide +kernel
theorem dX6_body_53 : decode mX6_body.2.1 53 = .ok (.invokevirtual 145, 3) := by decide +kernel
theorem dX6_body_56 : decode mX6_body.2.1 56 = .ok (.ireturn, 1) := by decide +kernel
theorem dX6_trace_0 : decode mX6_trace.2.1 0 = .ok (.aload_n 0, 1) := by decide +kernel
theorem dX6_trace_1 : decode mX6_trace.2.1 1 = .ok (.getfield 26, 3) := by decide +kernel
theorem dX6_trace_4 : decode mX6_trace.2.1 4 = .ok (.iload_n 1, 1) := by decide +kernel
theorem dX6_trace_5 : decode mX6_trace.2.1 5 = .ok (.invokevirtual 99, 3) := by decide +kernel
theorem dX6_trace_8 : decode mX6_trace.2.1 8 = .ok (.ifCond .eq 10, 3) := by decide +kernel
theorem dX6_trace_11 : decode mX6_trace.2.1 11 = .ok (.iload_n 2, 1) := by decide +kernel
theorem dX6_trace_12 : decode mX6_trace.2.1 12 = .ok (.invokestatic 133, 3) := by decide +kernel
theorem dX6_trace_15 : decode mX6_trace.2.1 15 = .ok (.ifCond .ne 7, 3) := by decide +kernel
theorem dX6_trace_18 : decode mX6_trace.2.1 18 = .ok (.sipush (-1001), 3) := by decide +kernel
theorem dX6_trace_21 : decode mX6_trace.2.1 21 = .ok (.ireturn, 1) := by decide +kernel
theorem dX6_trace_22 : decode mX6_trace.2.1 22 = .ok (.iload_n 3, 1) := by decide +kernel
theorem dX6_trace_23 : decode mX6_trace.2.1 23 = .ok (.ifCond .lt 8, 3) := by decide +kernel
theorem dX6_trace_26 : decode mX6_trace.2.1 26 = .ok (.iload_n 3, 1) := by decide +kernel
theorem dX6_trace_27 : decode mX6_trace.2.1 27 = .ok (.iconst 1, 1) := by decide +kernel
theorem dX6_trace_28 : decode mX6_trace.2.1 28 = .ok (.if_icmp .le 7, 3) := by decide +kernel
theorem dX6_trace_31 : decode mX6_trace.2.1 31 = .ok (.sipush (-1002), 3) := by decide +kernel
theorem dX6_trace_34 : decode mX6_trace.2.1 34 = .ok (.ireturn, 1) := by decide +kernel
theorem dX6_trace_35 : decode mX6_trace.2.1 35 = .ok (.aload_n 0, 1) := by decide +kernel
theorem dX6_trace_36 : decode mX6_trace.2.1 36 = .ok (.getfield 40, 3) := by decide +kernel
theorem dX6_trace_39 : decode mX6_trace.2.1 39 = .ok (.invokevirtual 148, 3) := by decide +kernel
theorem dX6_trace_42 : decode mX6_trace.2.1 42 = .ok (.iload_n 3, 1) := by decide +kernel
theorem dX6_trace_43 : decode mX6_trace.2.1 43 = .ok (.ifCond .ne 15, 3) := by decide +kernel
theorem dX6_trace_46 : decode mX6_trace.2.1 46 = .ok (.aload_n 0, 1) := by decide +kernel
theorem dX6_trace_47 : decode mX6_trace.2.1 47 = .ok (.getfield 40, 3) := by decide +kernel
theorem dX6_trace_50 : decode mX6_trace.2.1 50 = .ok (.iload_n 1, 1) := by decide +kernel
theorem dX6_trace_51 : decode mX6_trace.2.1 51 = .ok (.iload_n 2, 1) := by decide +kernel
theorem dX6_trace_52 : decode mX6_trace.2.1 52 = .ok (.invokevirtual 151, 3) := by decide +kernel
theorem dX6_trace_55 : decode mX6_trace.2.1 55 = .ok (.goto 12, 3) := by decide +kernel
theorem dX6_trace_58 : decode mX6_trace.2.1 58 = .ok (.aload_n 0, 1) := by decide +kernel
theorem dX6_trace_59 : decode mX6_trace.2.1 59 = .ok (.getfield 40, 3) := by decide +kernel
theorem dX6_trace_62 : decode mX6_trace.2.1 62 = .ok (.iload_n 1, 1) := by decide +kernel
theorem dX6_trace_63 : decode mX6_trace.2.1 63 = .ok (.iload_n 2, 1) := by decide +kernel
theorem dX6_trace_64 : decode mX6_trace.2.1 64 = .ok (.invokevirtual 154, 3) := by decide +kernel
theorem dX6_trace_67 : decode mX6_trace.2.1 67 = .ok (.ireturn, 1) := by decide +kernel
theorem dX6_event_0 : decode mX6_event.2.1 0 = .ok (.aload_n 0, 1) := by decide +kernel
theorem dX6_event_1 : decode mX6_event.2.1 1 = .ok (.getfield 26, 3) := by decide +kernel
theorem dX6_event_4 : decode mX6_event.2.1 4 = .ok (.iload_n 1, 1) := by decide +kernel
theorem dX6_event_5 : decode mX6_event.2.1 5 = .ok (.invokevirtual 99, 3) := by decide +kernel
theorem dX6_event_8 : decode mX6_event.2.1 8 = .ok (.ifCond .eq 10, 3) := by decide +kernel
theorem dX6_event_11 : decode mX6_event.2.1 11 = .ok (.iload_n 2, 1) := by decide +kernel
theorem dX6_event_12 : decode mX6_event.2.1 12 = .ok (.invokestatic 133, 3) := by decide +kernel
theorem dX6_event_15 : decode mX6_event.2.1 15 = .ok (.ifCond .ne 7, 3) := by decide +kernel
theorem dX6_event_18 : decode mX6_event.2.1 18 = .ok (.sipush (-1001), 3) := by decide +kernel
theorem dX6_event_21 : decode mX6_event.2.1 21 = .ok (.ireturn, 1) := by decide +kernel
theorem dX6_event_22 : decode mX6_event.2.1 22 = .ok (.aload_n 0, 1) := by decide +kernel
theorem dX6_event_23 : decode mX6_event.2.1 23 = .ok (.getfield 40, 3) := by decide +kernel
theorem dX6_event_26 : decode mX6_event.2.1 26 = .ok (.invokevirtual 148, 3) := by decide +kernel
theorem dX6_event_29 : decode mX6_event.2.1 29 = .ok (.iload_n 3, 1) := by decide +kernel
theorem dX6_event_30 : decode mX6_event.2.1 30 = .ok (.ifCond .lt 16, 3) := by decide +kernel
theorem dX6_event_33 : decode mX6_event.2.1 33 = .ok (.iload_n 3, 1) := by decide +kernel
theorem dX6_event_34 : decode mX6_event.2.1 34 = .ok (.aload_n 0, 1) := by decide +kernel
theorem dX6_event_35 : decode mX6_event.2.1 35 = .ok (.getfield 40, 3) := by decide +kernel
theorem dX6_event_38 : decode mX6_event.2.1 38 = .ok (.iload_n 1, 1) := by decide +kernel
theorem dX6_event_39 : decode mX6_event.2.1 39 = .ok (.iload_n 2, 1) := by decide +kernel
theorem dX6_event_40 : decode mX6_event.2.1 40 = .ok (.invokevirtual 151, 3) := by decide +kernel
theorem dX6_event_43 : decode mX6_event.2.1 43 = .ok (.if_icmp .lt 7, 3) := by decide +kernel
theorem dX6_event_46 : decode mX6_event.2.1 46 = .ok (.sipush (-1001), 3) := by decide +kernel
theorem dX6_event_49 : decode mX6_event.2.1 49 = .ok (.ireturn, 1) := by decide +kernel
theorem dX6_event_50 : decode mX6_event.2.1 50 = .ok (.iload 4, 2) := by decide +kernel
theorem dX6_event_52 : decode mX6_event.2.1 52 = .ok (.ifCond .lt 9, 3) := by decide +kernel
theorem dX6_event_55 : decode mX6_event.2.1 55 = .ok (.iload 4, 2) := by decide +kernel
theorem dX6_event_57 : decode mX6_event.2.1 57 = .ok (.iconst 1, 1) := by decide +kernel
theorem dX6_event_58 : decode mX6_event.2.1 58 = .ok (.if_icmp .le 7, 3) := by decide +kernel
theorem dX6_event_61 : decode mX6_event.2.1 61 = .ok (.sipush (-1002), 3) := by decide +kernel
theorem dX6_event_64 : decode mX6_event.2.1 64 = .ok (.ireturn, 1) := by decide +kernel
theorem dX6_event_65 : decode mX6_event.2.1 65 = .ok (.aload_n 0, 1) := by decide +kernel
theorem dX6_event_66 : decode mX6_event.2.1 66 = .ok (.getfield 40, 3) := by decide +kernel
theorem dX6_event_69 : decode mX6_event.2.1 69 = .ok (.iload_n 1, 1) := by decide +kernel
theorem dX6_event_70 : decode mX6_event.2.1 70 = .ok (.iload_n 2, 1) := by decide +kernel
theorem dX6_event_71 : decode mX6_event.2.1 71 = .ok (.iload_n 3, 1) := by decide +kernel
theorem dX6_event_72 : decode mX6_event.2.1 72 = .ok (.invokevirtual 157, 3) := by decide +kernel
theorem dX6_event_75 : decode mX6_event.2.1 75 = .ok (.istore 5, 2) := by decide +kernel
theorem dX6_event_77 : decode mX6_event.2.1 77 = .ok (.iload 4, 2) := by decide +kernel
theorem dX6_event_79 : decode mX6_event.2.1 79 = .ok (.ifCond .ne 10, 3) := by decide +kernel
theorem dX6_event_82 : decode mX6_event.2.1 82 = .ok (.iload 5, 2) := by decide +kernel
theorem dX6_event_84 : decode mX6_event.2.1 84 = .ok (.iconst 4, 1) := by decide +kernel
theorem dX6_event_85 : decode mX6_event.2.1 85 = .ok (.irem, 1) := by decide +kernel
theorem dX6_event_86 : decode mX6_event.2.1 86 = .ok (.goto 7, 3) := by decide +kernel
theorem dX6_event_89 : decode mX6_event.2.1 89 = .ok (.iload 5, 2) := by decide +kernel
theorem dX6_event_91 : decode mX6_event.2.1 91 = .ok (.iconst 4, 1) := by decide +kernel
theorem dX6_event_92 : decode mX6_event.2.1 92 = .ok (.idiv, 1) := by decide +kernel
theorem dX6_event_93 : decode mX6_event.2.1 93 = .ok (.ireturn, 1) := by decide +kernel
theorem dX6_why_0 : decode mX6_why.2.1 0 = .ok (.aload_n 0, 1) := by decide +kernel
theorem dX6_why_1 : decode mX6_why.2.1 1 = .ok (.getfield 26, 3) := by decide +kernel
theorem dX6_why_4 : decode mX6_why.2.1 4 = .ok (.iload_n 1, 1) := by decide +kernel
theorem dX6_why_5 : decode mX6_why.2.1 5 = .ok (.invokevirtual 99, 3) := by decide +kernel
theorem dX6_why_8 : decode mX6_why.2.1 8 = .ok (.ifCond .eq 10, 3) := by decide +kernel
theorem dX6_why_11 : decode mX6_why.2.1 11 = .ok (.iload_n 2, 1) := by decide +kernel
theorem dX6_why_12 : decode mX6_why.2.1 12 = .ok (.invokestatic 126, 3) := by decide +kernel
theorem dX6_why_15 : decode mX6_why.2.1 15 = .ok (.ifCond .ne 7, 3) := by decide +kernel
theorem dX6_why_18 : decode mX6_why.2.1 18 = .ok (.sipush (-1001), 3) := by decide +kernel
theorem dX6_why_21 : decode mX6_why.2.1 21 = .ok (.ireturn, 1) := by decide +kernel
theorem dX6_why_22 : decode mX6_why.2.1 22 = .ok (.aload_n 0, 1) := by decide +kernel
theorem dX6_why_23 : decode mX6_why.2.1 23 = .ok (.getfield 49, 3) := by decide +kernel
theorem dX6_why_26 : decode mX6_why.2.1 26 = .ok (.iload_n 1, 1) := by decide +kernel
theorem dX6_why_27 : decode mX6_why.2.1 27 = .ok (.iload_n 2, 1) := by decide +kernel
theorem dX6_why_28 : decode mX6_why.2.1 28 = .ok (.iload_n 3, 1) := by decide +kernel
theorem dX6_why_29 : decode mX6_why.2.1 29 = .ok (.invokevirtual 160, 3) := by decide +kernel
theorem dX6_why_32 : decode mX6_why.2.1 32 = .ok (.ireturn, 1) := by decide +kernel
theorem dX6_where_0 : decode mX6_where.2.1 0 = .ok (.aload_n 0, 1) := by decide +kernel
theorem dX6_where_1 : decode mX6_where.2.1 1 = .ok (.getfield 26, 3) := by decide +kernel
theorem dX6_where_4 : decode mX6_where.2.1 4 = .ok (.iload_n 1, 1) := by decide +kernel
theorem dX6_where_5 : decode mX6_where.2.1 5 = .ok (.invokevirtual 99, 3) := by decide +kernel
theorem dX6_where_8 : decode mX6_where.2.1 8 = .ok (.ifCond .eq 10, 3) := by decide +kernel
theorem dX6_where_11 : decode mX6_where.2.1 11 = .ok (.iload_n 2, 1) := by decide +kernel
theorem dX6_where_12 : decode mX6_where.2.1 12 = .ok (.invokestatic 126, 3) := by decide +kernel
theorem dX6_where_15 : decode mX6_where.2.1 15 = .ok (.ifCond .ne 7, 3) := by decide +kernel
theorem dX6_where_18 : decode mX6_where.2.1 18 = .ok (.sipush (-1001), 3) := by decide +kernel
theorem dX6_where_21 : decode mX6_where.2.1 21 = .ok (.ireturn, 1) := by decide +kernel
theorem dX6_where_22 : decode mX6_where.2.1 22 = .ok (.aload_n 0, 1) := by decide +kernel
theorem dX6_where_23 : decode mX6_where.2.1 23 = .ok (.getfield 49, 3) := by decide +kernel
theorem dX6_where_26 : decode mX6_where.2.1 26 = .ok (.iload_n 1, 1) := by decide +kernel
theorem dX6_where_27 : decode mX6_where.2.1 27 = .ok (.iload_n 2, 1) := by decide +kernel
theorem dX6_where_28 : decode mX6_where.2.1 28 = .ok (.iload_n 3, 1) := by decide +kernel
theorem dX6_where_29 : decode mX6_where.2.1 29 = .ok (.invokevirtual 160, 3) := by decide +kernel
theorem dX6_where_32 : decode mX6_where.2.1 32 = .ok (.pop, 1) := by decide +kernel
theorem dX6_where_33 : decode mX6_where.2.1 33 = .ok (.aload_n 0, 1) := by decide +kernel
theorem dX6_where_34 : decode mX6_where.2.1 34 = .ok (.getfield 49, 3) := by decide +kernel
theorem dX6_where_37 : decode mX6_where.2.1 37 = .ok (.getfield 164, 3) := by decide +kernel
theorem dX6_where_40 : decode mX6_where.2.1 40 = .ok (.ireturn, 1) := by decide +kernel
theorem dX6_move_0 : decode mX6_move.2.1 0 = .ok (.aload_n 0, 1) := by decide +kernel
theorem dX6_move_1 : decode mX6_move.2.1 1 = .ok (.getfield 26, 3) := by decide +kernel
theorem dX6_move_4 : decode mX6_move.2.1 4 = .ok (.iload_n 1, 1) := by decide +kernel
theorem dX6_move_5 : decode mX6_move.2.1 5 = .ok (.invokevirtual 99, 3) := by decide +kernel
theorem dX6_move_8 : decode mX6_move.2.1 8 = .ok (.ifCond .eq 10, 3) := by decide +kernel
theorem dX6_move_11 : decode mX6_move.2.1 11 = .ok (.iload_n 2, 1) := by decide +kernel
theorem dX6_move_12 : decode mX6_move.2.1 12 = .ok (.invokestatic 126, 3) := by decide +kernel
theorem dX6_move_15 : decode mX6_move.2.1 15 = .ok (.ifCond .ne 7, 3) := by decide +kernel
theorem dX6_move_18 : decode mX6_move.2.1 18 = .ok (.sipush (-1001), 3) := by decide +kernel
theorem dX6_move_21 : decode mX6_move.2.1 21 = .ok (.ireturn, 1) := by decide +kernel
theorem dX6_move_22 : decode mX6_move.2.1 22 = .ok (.aload_n 0, 1) := by decide +kernel
theorem dX6_move_23 : decode mX6_move.2.1 23 = .ok (.getfield 49, 3) := by decide +kernel
theorem dX6_move_26 : decode mX6_move.2.1 26 = .ok (.iload_n 1, 1) := by decide +kernel
theorem dX6_move_27 : decode mX6_move.2.1 27 = .ok (.iload_n 2, 1) := by decide +kernel
theorem dX6_move_28 : decode mX6_move.2.1 28 = .ok (.iload_n 3, 1) := by decide +kernel
theorem dX6_move_29 : decode mX6_move.2.1 29 = .ok (.invokevirtual 160, 3) := by decide +kernel
theorem dX6_move_32 : decode mX6_move.2.1 32 = .ok (.ifCond .eq 7, 3) := by decide +kernel
theorem dX6_move_35 : decode mX6_move.2.1 35 = .ok (.sipush (-1003), 3) := by decide +kernel
theorem dX6_move_38 : decode mX6_move.2.1 38 = .ok (.ireturn, 1) := by decide +kernel
theorem dX6_move_39 : decode mX6_move.2.1 39 = .ok (.aload_n 0, 1) := by decide +kernel
theorem dX6_move_40 : decode mX6_move.2.1 40 = .ok (.getfield 49, 3) := by decide +kernel
theorem dX6_move_43 : decode mX6_move.2.1 43 = .ok (.iload_n 1, 1) := by decide +kernel
theorem dX6_move_44 : decode mX6_move.2.1 44 = .ok (.iload_n 2, 1) := by decide +kernel
theorem dX6_move_45 : decode mX6_move.2.1 45 = .ok (.iload_n 3, 1) := by decide +kernel
theorem dX6_move_46 : decode mX6_move.2.1 46 = .ok (.invokevirtual 167, 3) := by decide +kernel
theorem dX6_move_49 : decode mX6_move.2.1 49 = .ok (.ifCond .eq 13, 3) := by decide +kernel
theorem dX6_move_52 : decode mX6_move.2.1 52 = .ok (.aload_n 0, 1) := by decide +kernel
theorem dX6_move_53 : decode mX6_move.2.1 53 = .ok (.getfield 49, 3) := by decide +kernel
theorem dX6_move_56 : decode mX6_move.2.1 56 = .ok (.getfield 171, 3) := by decide +kernel
theorem dX6_move_59 : decode mX6_move.2.1 59 = .ok (.goto 6, 3) := by decide +kernel
theorem dX6_move_62 : decode mX6_move.2.1 62 = .ok (.sipush (-1004), 3) := by decide +kernel
theorem dX6_move_65 : decode mX6_move.2.1 65 = .ok (.ireturn, 1) := by decide +kernel
theorem dX6_undo_0 : decode mX6_undo.2.1 0 = .ok (.aload_n 0, 1) := by decide +kernel
theorem dX6_undo_1 : decode mX6_undo.2.1 1 = .ok (.getfield 49, 3) := by decide +kernel
theorem dX6_undo_4 : decode mX6_undo.2.1 4 = .ok (.invokevirtual 174, 3) := by decide +kernel
theorem dX6_undo_7 : decode mX6_undo.2.1 7 = .ok (.ifCond .eq 13, 3) := by decide +kernel
theorem dX6_undo_10 : decode mX6_undo.2.1 10 = .ok (.aload_n 0, 1) := by decide +kernel
theorem dX6_undo_11 : decode mX6_undo.2.1 11 = .ok (.getfield 49, 3) := by decide +kernel
theorem dX6_undo_14 : decode mX6_undo.2.1 14 = .ok (.getfield 171, 3) := by decide +kernel
theorem dX6_undo_17 : decode mX6_undo.2.1 17 = .ok (.goto 6, 3) := by decide +kernel
theorem dX6_undo_20 : decode mX6_undo.2.1 20 = .ok (.sipush (-1003), 3) := by decide +kernel
theorem dX6_undo_23 : decode mX6_undo.2.1 23 = .ok (.ireturn, 1) := by decide +kernel
theorem dX6_moves_0 : decode mX6_moves.2.1 0 = .ok (.iload_n 1, 1) := by decide +kernel
theorem dX6_moves_1 : decode mX6_moves.2.1 1 = .ok (.ifCond .lt 8, 3) := by decide +kernel
theorem dX6_moves_4 : decode mX6_moves.2.1 4 = .ok (.iload_n 1, 1) := by decide +kernel
theorem dX6_moves_5 : decode mX6_moves.2.1 5 = .ok (.iconst 2, 1) := by decide +kernel
theorem dX6_moves_6 : decode mX6_moves.2.1 6 = .ok (.if_icmp .le 7, 3) := by decide +kernel
theorem dX6_moves_9 : decode mX6_moves.2.1 9 = .ok (.sipush (-1002), 3) := by decide +kernel
theorem dX6_moves_12 : decode mX6_moves.2.1 12 = .ok (.ireturn, 1) := by decide +kernel
theorem dX6_moves_13 : decode mX6_moves.2.1 13 = .ok (.aload_n 0, 1) := by decide +kernel
theorem dX6_moves_14 : decode mX6_moves.2.1 14 = .ok (.getfield 49, 3) := by decide +kernel
theorem dX6_moves_17 : decode mX6_moves.2.1 17 = .ok (.invokevirtual 177, 3) := by decide +kernel
theorem dX6_moves_20 : decode mX6_moves.2.1 20 = .ok (.iload_n 1, 1) := by decide +kernel
theorem dX6_moves_21 : decode mX6_moves.2.1 21 = .ok (.ifCond .ne 13, 3) := by decide +kernel
theorem dX6_moves_24 : decode mX6_moves.2.1 24 = .ok (.aload_n 0, 1) := by decide +kernel
theorem dX6_moves_25 : decode mX6_moves.2.1 25 = .ok (.getfield 49, 3) := by decide +kernel
theorem dX6_moves_28 : decode mX6_moves.2.1 28 = .ok (.getfield 178, 3) := by decide +kernel
theorem dX6_moves_31 : decode mX6_moves.2.1 31 = .ok (.goto 25, 3) := by decide +kernel
theorem dX6_moves_34 : decode mX6_moves.2.1 34 = .ok (.iload_n 1, 1) := by decide +kernel
theorem dX6_moves_35 : decode mX6_moves.2.1 35 = .ok (.iconst 1, 1) := by decide +kernel
theorem dX6_moves_36 : decode mX6_moves.2.1 36 = .ok (.if_icmp .ne 13, 3) := by decide +kernel
theorem dX6_moves_39 : decode mX6_moves.2.1 39 = .ok (.aload_n 0, 1) := by decide +kernel
theorem dX6_moves_40 : decode mX6_moves.2.1 40 = .ok (.getfield 49, 3) := by decide +kernel
theorem dX6_moves_43 : decode mX6_moves.2.1 43 = .ok (.getfield 181, 3) := by decide +kernel
theorem dX6_moves_46 : decode mX6_moves.2.1 46 = .ok (.goto 10, 3) := by decide +kernel
theorem dX6_moves_49 : decode mX6_moves.2.1 49 = .ok (.aload_n 0, 1) := by decide +kernel
theorem dX6_moves_50 : decode mX6_moves.2.1 50 = .ok (.getfield 49, 3) := by decide +kernel
theorem dX6_moves_53 : decode mX6_moves.2.1 53 = .ok (.getfield 184, 3) := by decide +kernel
theorem dX6_moves_56 : decode mX6_moves.2.1 56 = .ok (.ireturn, 1) := by decide +kernel
theorem dX6_contract_0 : decode mX6_contract.2.1 0 = .ok (.iload_n 1, 1) := by decide +kernel
theorem dX6_contract_1 : decode mX6_contract.2.1 1 = .ok (.iconst 1, 1) := by decide +kernel
theorem dX6_contract_2 : decode mX6_contract.2.1 2 = .ok (.if_icmp .lt 9, 3) := by decide +kernel
theorem dX6_contract_5 : decode mX6_contract.2.1 5 = .ok (.iload_n 1, 1) := by decide +kernel
theorem dX6_contract_6 : decode mX6_contract.2.1 6 = .ok (.bipush 64, 2) := by decide +kernel
theorem dX6_contract_8 : decode mX6_contract.2.1 8 = .ok (.if_icmp .lt 7, 3) := by decide +kernel
theorem dX6_contract_11 : decode mX6_contract.2.1 11 = .ok (.sipush (-1002), 3) := by decide +kernel
theorem dX6_contract_14 : decode mX6_contract.2.1 14 = .ok (.ireturn, 1) := by decide +kernel
theorem dX6_contract_15 : decode mX6_contract.2.1 15 = .ok (.aload_n 0, 1) := by decide +kernel
theorem dX6_contract_16 : decode mX6_contract.2.1 16 = .ok (.getfield 57, 3) := by decide +kernel
theorem dX6_contract_19 : decode mX6_contract.2.1 19 = .ok (.bipush 6, 2) := by decide +kernel
theorem dX6_contract_21 : decode mX6_contract.2.1 21 = .ok (.if_icmp .lt 7, 3) := by decide +kernel
theorem dX6_contract_24 : decode mX6_contract.2.1 24 = .ok (.sipush (-1004), 3) := by decide +kernel
theorem dX6_contract_27 : decode mX6_contract.2.1 27 = .ok (.ireturn, 1) := by decide +kernel
theorem dX6_contract_28 : decode mX6_contract.2.1 28 = .ok (.aload_n 0, 1) := by decide +kernel
theorem dX6_contract_29 : decode mX6_contract.2.1 29 = .ok (.getfield 53, 3) := by decide +kernel
theorem dX6_contract_32 : decode mX6_contract.2.1 32 = .ok (.aload_n 0, 1) := by decide +kernel
theorem dX6_contract_33 : decode mX6_contract.2.1 33 = .ok (.getfield 57, 3) := by decide +kernel
theorem dX6_contract_36 : decode mX6_contract.2.1 36 = .ok (.iload_n 1, 1) := by decide +kernel
theorem dX6_contract_37 : decode mX6_contract.2.1 37 = .ok (.iastore, 1) := by decide +kernel
theorem dX6_contract_38 : decode mX6_contract.2.1 38 = .ok (.aload_n 0, 1) := by decide +kernel
theorem dX6_contract_39 : decode mX6_contract.2.1 39 = .ok (.dup, 1) := by decide +kernel
theorem dX6_contract_40 : decode mX6_contract.2.1 40 = .ok (.getfield 57, 3) := by decide +kernel
theorem dX6_contract_43 : decode mX6_contract.2.1 43 = .ok (.iconst 1, 1) := by decide +kernel
theorem dX6_contract_44 : decode mX6_contract.2.1 44 = .ok (.iadd, 1) := by decide +kernel
theorem dX6_contract_45 : decode mX6_contract.2.1 45 = .ok (.putfield 57, 3) := by decide +kernel
theorem dX6_contract_48 : decode mX6_contract.2.1 48 = .ok (.aload_n 0, 1) := by decide +kernel
theorem dX6_contract_49 : decode mX6_contract.2.1 49 = .ok (.getfield 57, 3) := by decide +kernel
theorem dX6_contract_52 : decode mX6_contract.2.1 52 = .ok (.iconst 1, 1) := by decide +kernel
theorem dX6_contract_53 : decode mX6_contract.2.1 53 = .ok (.isub, 1) := by decide +kernel
theorem dX6_contract_54 : decode mX6_contract.2.1 54 = .ok (.ireturn, 1) := by decide +kernel
theorem dX6_fit_0 : decode mX6_fit.2.1 0 = .ok (.iload_n 1, 1) := by decide +kernel
theorem dX6_fit_1 : decode mX6_fit.2.1 1 = .ok (.ifCond .lt 17, 3) := by decide +kernel
theorem dX6_fit_4 : decode mX6_fit.2.1 4 = .ok (.iload_n 1, 1) := by decide +kernel
theorem dX6_fit_5 : decode mX6_fit.2.1 5 = .ok (.aload_n 0, 1) := by decide +kernel
theorem dX6_fit_6 : decode mX6_fit.2.1 6 = .ok (.getfield 57, 3) := by decide +kernel
theorem dX6_fit_9 : decode mX6_fit.2.1 9 = .ok (.if_icmp .ge 9, 3) := by decide +kernel
theorem dX6_fit_12 : decode mX6_fit.2.1 12 = .ok (.iload_n 1, 1) := by decide +kernel
theorem dX6_fit_13 : decode mX6_fit.2.1 13 = .ok (.bipush 6, 2) := by decide +kernel
theorem dX6_fit_15 : decode mX6_fit.2.1 15 = .ok (.if_icmp .lt 7, 3) := by decide +kernel
theorem dX6_fit_18 : decode mX6_fit.2.1 18 = .ok (.sipush (-1001), 3) := by decide +kernel
theorem dX6_fit_21 : decode mX6_fit.2.1 21 = .ok (.ireturn, 1) := by decide +kernel
theorem dX6_fit_22 : decode mX6_fit.2.1 22 = .ok (.aload_n 0, 1) := by decide +kernel
theorem dX6_fit_23 : decode mX6_fit.2.1 23 = .ok (.getfield 53, 3) := by decide +kernel
theorem dX6_fit_26 : decode mX6_fit.2.1 26 = .ok (.iload_n 1, 1) := by decide +kernel
theorem dX6_fit_27 : decode mX6_fit.2.1 27 = .ok (.iaload, 1) := by decide +kernel
theorem dX6_fit_28 : decode mX6_fit.2.1 28 = .ok (.istore_n 3, 1) := by decide +kernel
theorem dX6_fit_29 : decode mX6_fit.2.1 29 = .ok (.iload_n 2, 1) := by decide +kernel
theorem dX6_fit_30 : decode mX6_fit.2.1 30 = .ok (.tableswitch 40 0 2 #[26, 28, 34], 26) := by decide +kernel
theorem dX6_fit_56 : decode mX6_fit.2.1 56 = .ok (.iload_n 3, 1) := by decide +kernel
theorem dX6_fit_57 : decode mX6_fit.2.1 57 = .ok (.ireturn, 1) := by decide +kernel
theorem dX6_fit_58 : decode mX6_fit.2.1 58 = .ok (.aload_n 0, 1) := by decide +kernel
theorem dX6_fit_59 : decode mX6_fit.2.1 59 = .ok (.iload_n 3, 1) := by decide +kernel
theorem dX6_fit_60 : decode mX6_fit.2.1 60 = .ok (.invokevirtual 187, 3) := by decide +kernel
theorem dX6_fit_63 : decode mX6_fit.2.1 63 = .ok (.ireturn, 1) := by decide +kernel
theorem dX6_fit_64 : decode mX6_fit.2.1 64 = .ok (.aload_n 0, 1) := by decide +kernel
theorem dX6_fit_65 : decode mX6_fit.2.1 65 = .ok (.iload_n 3, 1) := by decide +kernel
theorem dX6_fit_66 : decode mX6_fit.2.1 66 = .ok (.invokevirtual 190, 3) := by decide +kernel
theorem dX6_fit_69 : decode mX6_fit.2.1 69 = .ok (.ireturn, 1) := by decide +kernel
theorem dX6_fit_70 : decode mX6_fit.2.1 70 = .ok (.sipush (-1002), 3) := by decide +kernel
theorem dX6_fit_73 : decode mX6_fit.2.1 73 = .ok (.ireturn, 1) := by decide +kernel
theorem dX6_common_0 : decode mX6_common.2.1 0 = .ok (.iload_n 1, 1) := by decide +kernel
theorem dX6_common_1 : decode mX6_common.2.1 1 = .ok (.iconst 1, 1) := by decide +kernel
theorem dX6_common_2 : decode mX6_common.2.1 2 = .ok (.if_icmp .lt 16, 3) := by decide +kernel
theorem dX6_common_5 : decode mX6_common.2.1 5 = .ok (.iload_n 1, 1) := by decide +kernel
theorem dX6_common_6 : decode mX6_common.2.1 6 = .ok (.iconst 1, 1) := by decide +kernel
theorem dX6_common_7 : decode mX6_common.2.1 7 = .ok (.aload_n 0, 1) := by decide +kernel
theorem dX6_common_8 : decode mX6_common.2.1 8 = .ok (.getfield 26, 3) := by decide +kernel
theorem dX6_common_11 : decode mX6_common.2.1 11 = .ok (.getfield 71, 3) := by decide +kernel
theorem dX6_common_14 : decode mX6_common.2.1 14 = .ok (.ishl, 1) := by decide +kernel
theorem dX6_common_15 : decode mX6_common.2.1 15 = .ok (.if_icmp .lt 7, 3) := by decide +kernel
theorem dX6_common_18 : decode mX6_common.2.1 18 = .ok (.sipush (-1002), 3) := by decide +kernel
theorem dX6_common_21 : decode mX6_common.2.1 21 = .ok (.ireturn, 1) := by decide +kernel
theorem dX6_common_22 : decode mX6_common.2.1 22 = .ok (.bipush 63, 2) := by decide +kernel
theorem dX6_common_24 : decode mX6_common.2.1 24 = .ok (.istore_n 2, 1) := by decide +kernel
theorem dX6_common_25 : decode mX6_common.2.1 25 = .ok (.iconst 0, 1) := by decide +kernel
theorem dX6_common_26 : decode mX6_common.2.1 26 = .ok (.istore_n 3, 1) := by decide +kernel
theorem dX6_common_27 : decode mX6_common.2.1 27 = .ok (.iload_n 3, 1) := by decide +kernel
theorem dX6_common_28 : decode mX6_common.2.1 28 = .ok (.aload_n 0, 1) := by decide +kernel
theorem dX6_common_29 : decode mX6_common.2.1 29 = .ok (.getfield 26, 3) := by decide +kernel
theorem dX6_common_32 : decode mX6_common.2.1 32 = .ok (.getfield 71, 3) := by decide +kernel
theorem dX6_common_35 : decode mX6_common.2.1 35 = .ok (.if_icmp .ge 28, 3) := by decide +kernel
theorem dX6_common_38 : decode mX6_common.2.1 38 = .ok (.iload_n 1, 1) := by decide +kernel
theorem dX6_common_39 : decode mX6_common.2.1 39 = .ok (.iload_n 3, 1) := by decide +kernel
theorem dX6_common_40 : decode mX6_common.2.1 40 = .ok (.ishr, 1) := by decide +kernel
theorem dX6_common_41 : decode mX6_common.2.1 41 = .ok (.iconst 1, 1) := by decide +kernel
theorem dX6_common_42 : decode mX6_common.2.1 42 = .ok (.iand, 1) := by decide +kernel
theorem dX6_common_43 : decode mX6_common.2.1 43 = .ok (.ifCond .eq 14, 3) := by decide +kernel
theorem dX6_common_46 : decode mX6_common.2.1 46 = .ok (.iload_n 2, 1) := by decide +kernel
theorem dX6_common_47 : decode mX6_common.2.1 47 = .ok (.aload_n 0, 1) := by decide +kernel
theorem dX6_common_48 : decode mX6_common.2.1 48 = .ok (.getfield 26, 3) := by decide +kernel
theorem dX6_common_51 : decode mX6_common.2.1 51 = .ok (.iload_n 3, 1) := by decide +kernel
theorem dX6_common_52 : decode mX6_common.2.1 52 = .ok (.invokevirtual 120, 3) := by decide +kernel
theorem dX6_common_55 : decode mX6_common.2.1 55 = .ok (.iand, 1) := by decide +kernel
theorem dX6_common_56 : decode mX6_common.2.1 56 = .ok (.istore_n 2, 1) := by decide +kernel
theorem dX6_common_57 : decode mX6_common.2.1 57 = .ok (.iinc 3 1, 3) := by decide +kernel
theorem dX6_common_60 : decode mX6_common.2.1 60 = .ok (.goto (-33), 3) := by decide +kernel
theorem dX6_common_63 : decode mX6_common.2.1 63 = .ok (.iload_n 2, 1) := by decide +kernel
theorem dX6_common_64 : decode mX6_common.2.1 64 = .ok (.ireturn, 1) := by decide +kernel
theorem dX6_dead_0 : decode mX6_dead.2.1 0 = .ok (.aload_n 0, 1) := by decide +kernel
theorem dX6_dead_1 : decode mX6_dead.2.1 1 = .ok (.getfield 26, 3) := by decide +kernel
theorem dX6_dead_4 : decode mX6_dead.2.1 4 = .ok (.iload_n 1, 1) := by decide +kernel
theorem dX6_dead_5 : decode mX6_dead.2.1 5 = .ok (.invokevirtual 139, 3) := by decide +kernel
theorem dX6_dead_8 : decode mX6_dead.2.1 8 = .ok (.ifCond .ne 7, 3) := by decide +kernel
theorem dX6_dead_11 : decode mX6_dead.2.1 11 = .ok (.sipush (-1001), 3) := by decide +kernel
theorem dX6_dead_14 : decode mX6_dead.2.1 14 = .ok (.ireturn, 1) := by decide +kernel
theorem dX6_dead_15 : decode mX6_dead.2.1 15 = .ok (.aload_n 0, 1) := by decide +kernel
theorem dX6_dead_16 : decode mX6_dead.2.1 16 = .ok (.getfield 40, 3) := by decide +kernel
theorem dX6_dead_19 : decode mX6_dead.2.1 19 = .ok (.invokevirtual 148, 3) := by decide +kernel
theorem dX6_dead_22 : decode mX6_dead.2.1 22 = .ok (.aload_n 0, 1) := by decide +kernel
theorem dX6_dead_23 : decode mX6_dead.2.1 23 = .ok (.getfield 40, 3) := by decide +kernel
theorem dX6_dead_26 : decode mX6_dead.2.1 26 = .ok (.iload_n 1, 1) := by decide +kernel
theorem dX6_dead_27 : decode mX6_dead.2.1 27 = .ok (.invokevirtual 193, 3) := by decide +kernel
theorem dX6_dead_30 : decode mX6_dead.2.1 30 = .ok (.ifCond .eq 7, 3) := by decide +kernel
theorem dX6_dead_33 : decode mX6_dead.2.1 33 = .ok (.iconst 0, 1) := by decide +kernel
theorem dX6_dead_34 : decode mX6_dead.2.1 34 = .ok (.goto 4, 3) := by decide +kernel
theorem dX6_dead_37 : decode mX6_dead.2.1 37 = .ok (.iconst 1, 1) := by decide +kernel
theorem dX6_dead_38 : decode mX6_dead.2.1 38 = .ok (.ireturn, 1) := by decide +kernel
theorem dX6_count_0 : decode mX6_count.2.1 0 = .ok (.iload_n 1, 1) := by decide +kernel
theorem dX6_count_1 : decode mX6_count.2.1 1 = .ok (.tableswitch 142 0 8 #[51, 59, 67, 75, 83, 88, 96, 104, 127], 51) := by decide +kernel
theorem dX6_count_52 : decode mX6_count.2.1 52 = .ok (.aload_n 0, 1) := by decide +kernel
theorem dX6_count_53 : decode mX6_count.2.1 53 = .ok (.getfield 10, 3) := by decide +kernel
theorem dX6_count_56 : decode mX6_count.2.1 56 = .ok (.getfield 65, 3) := by decide +kernel
theorem dX6_count_59 : decode mX6_count.2.1 59 = .ok (.ireturn, 1) := by decide +kernel
theorem dX6_count_60 : decode mX6_count.2.1 60 = .ok (.aload_n 0, 1) := by decide +kernel
theorem dX6_count_61 : decode mX6_count.2.1 61 = .ok (.getfield 26, 3) := by decide +kernel
theorem dX6_count_64 : decode mX6_count.2.1 64 = .ok (.getfield 71, 3) := by decide +kernel
theorem dX6_count_67 : decode mX6_count.2.1 67 = .ok (.ireturn, 1) := by decide +kernel
theorem dX6_count_68 : decode mX6_count.2.1 68 = .ok (.aload_n 0, 1) := by decide +kernel
theorem dX6_count_69 : decode mX6_count.2.1 69 = .ok (.getfield 26, 3) := by decide +kernel
theorem dX6_count_72 : decode mX6_count.2.1 72 = .ok (.getfield 196, 3) := by decide +kernel
theorem dX6_count_75 : decode mX6_count.2.1 75 = .ok (.ireturn, 1) := by decide +kernel
theorem dX6_count_76 : decode mX6_count.2.1 76 = .ok (.aload_n 0, 1) := by decide +kernel
theorem dX6_count_77 : decode mX6_count.2.1 77 = .ok (.getfield 49, 3) := by decide +kernel
theorem dX6_count_80 : decode mX6_count.2.1 80 = .ok (.getfield 171, 3) := by decide +kernel
theorem dX6_count_83 : decode mX6_count.2.1 83 = .ok (.ireturn, 1) := by decide +kernel
theorem dX6_count_84 : decode mX6_count.2.1 84 = .ok (.aload_n 0, 1) := by decide +kernel
theorem dX6_count_85 : decode mX6_count.2.1 85 = .ok (.getfield 57, 3) := by decide +kernel
theorem dX6_count_88 : decode mX6_count.2.1 88 = .ok (.ireturn, 1) := by decide +kernel
theorem dX6_count_89 : decode mX6_count.2.1 89 = .ok (.aload_n 0, 1) := by decide +kernel
theorem dX6_count_90 : decode mX6_count.2.1 90 = .ok (.getfield 49, 3) := by decide +kernel
theorem dX6_count_93 : decode mX6_count.2.1 93 = .ok (.getfield 199, 3) := by decide +kernel
theorem dX6_count_96 : decode mX6_count.2.1 96 = .ok (.ireturn, 1) := by decide +kernel
theorem dX6_count_97 : decode mX6_count.2.1 97 = .ok (.aload_n 0, 1) := by decide +kernel
theorem dX6_count_98 : decode mX6_count.2.1 98 = .ok (.getfield 49, 3) := by decide +kernel
theorem dX6_count_101 : decode mX6_count.2.1 101 = .ok (.getfield 202, 3) := by decide +kernel
theorem dX6_count_104 : decode mX6_count.2.1 104 = .ok (.ireturn, 1) := by decide +kernel
theorem dX6_count_105 : decode mX6_count.2.1 105 = .ok (.aload_n 0, 1) := by decide +kernel
theorem dX6_count_106 : decode mX6_count.2.1 106 = .ok (.getfield 40, 3) := by decide +kernel
theorem dX6_count_109 : decode mX6_count.2.1 109 = .ok (.invokevirtual 148, 3) := by decide +kernel
theorem dX6_count_112 : decode mX6_count.2.1 112 = .ok (.aload_n 0, 1) := by decide +kernel
theorem dX6_count_113 : decode mX6_count.2.1 113 = .ok (.getfield 26, 3) := by decide +kernel
theorem dX6_count_116 : decode mX6_count.2.1 116 = .ok (.getfield 196, 3) := by decide +kernel
theorem dX6_count_119 : decode mX6_count.2.1 119 = .ok (.aload_n 0, 1) := by decide +kernel
theorem dX6_count_120 : decode mX6_count.2.1 120 = .ok (.getfield 40, 3) := by decide +kernel
theorem dX6_count_123 : decode mX6_count.2.1 123 = .ok (.invokevirtual 205, 3) := by decide +kernel
theorem dX6_count_126 : decode mX6_count.2.1 126 = .ok (.isub, 1) := by decide +kernel
theorem dX6_count_127 : decode mX6_count.2.1 127 = .ok (.ireturn, 1) := by decide +kernel
theorem dX6_count_128 : decode mX6_count.2.1 128 = .ok (.aload_n 0, 1) := by decide +kernel
theorem dX6_count_129 : decode mX6_count.2.1 129 = .ok (.getfield 40, 3) := by decide +kernel
theorem dX6_count_132 : decode mX6_count.2.1 132 = .ok (.invokevirtual 148, 3) := by decide +kernel
theorem dX6_count_135 : decode mX6_count.2.1 135 = .ok (.aload_n 0, 1) := by decide +kernel
theorem dX6_count_136 : decode mX6_count.2.1 136 = .ok (.getfield 40, 3) := by decide +kernel
theorem dX6_count_139 : decode mX6_count.2.1 139 = .ok (.getfield 209, 3) := by decide +kernel
theorem dX6_count_142 : decode mX6_count.2.1 142 = .ok (.ireturn, 1) := by decide +kernel
theorem dX6_count_143 : decode mX6_count.2.1 143 = .ok (.sipush (-1002), 3) := by decide +kernel
theorem dX6_count_146 : decode mX6_count.2.1 146 = .ok (.ireturn, 1) := by decide +kernel
theorem dX6_digest_0 : decode mX6_digest.2.1 0 = .ok (.aload_n 0, 1) := by decide +kernel
theorem dX6_digest_1 : decode mX6_digest.2.1 1 = .ok (.getfield 40, 3) := by decide +kernel
theorem dX6_digest_4 : decode mX6_digest.2.1 4 = .ok (.invokevirtual 148, 3) := by decide +kernel
theorem dX6_digest_7 : decode mX6_digest.2.1 7 = .ok (.aload_n 0, 1) := by decide +kernel
theorem dX6_digest_8 : decode mX6_digest.2.1 8 = .ok (.getfield 49, 3) := by decide +kernel
theorem dX6_digest_11 : decode mX6_digest.2.1 11 = .ok (.invokevirtual 177, 3) := by decide +kernel
theorem dX6_digest_14 : decode mX6_digest.2.1 14 = .ok (.ldc2_w 212, 3) := by decide +kernel
theorem dX6_digest_17 : decode mX6_digest.2.1 17 = .ok (.lstore_n 1, 1) := by decide +kernel
theorem dX6_digest_18 : decode mX6_digest.2.1 18 = .ok (.iconst 0, 1) := by decide +kernel
theorem dX6_digest_19 : decode mX6_digest.2.1 19 = .ok (.istore_n 3, 1) := by decide +kernel
theorem dX6_digest_20 : decode mX6_digest.2.1 20 = .ok (.iload_n 3, 1) := by decide +kernel
theorem dX6_digest_21 : decode mX6_digest.2.1 21 = .ok (.aload_n 0, 1) := by decide +kernel
theorem dX6_digest_22 : decode mX6_digest.2.1 22 = .ok (.getfield 26, 3) := by decide +kernel
theorem dX6_digest_25 : decode mX6_digest.2.1 25 = .ok (.getfield 71, 3) := by decide +kernel
theorem dX6_digest_28 : decode mX6_digest.2.1 28 = .ok (.if_icmp .ge 16, 3) := by decide +kernel
theorem dX6_digest_31 : decode mX6_digest.2.1 31 = .ok (.aload_n 0, 1) := by decide +kernel
theorem dX6_digest_32 : decode mX6_digest.2.1 32 = .ok (.lload_n 1, 1) := by decide +kernel
theorem dX6_digest_33 : decode mX6_digest.2.1 33 = .ok (.iload_n 3, 1) := by decide +kernel
theorem dX6_digest_34 : decode mX6_digest.2.1 34 = .ok (.invokevirtual 214, 3) := by decide +kernel
theorem dX6_digest_37 : decode mX6_digest.2.1 37 = .ok (.lstore_n 1, 1) := by decide +kernel
theorem dX6_digest_38 : decode mX6_digest.2.1 38 = .ok (.iinc 3 1, 3) := by decide +kernel
theorem dX6_digest_41 : decode mX6_digest.2.1 41 = .ok (.goto (-21), 3) := by decide +kernel
theorem dX6_digest_44 : decode mX6_digest.2.1 44 = .ok (.iconst 0, 1) := by decide +kernel
theorem dX6_digest_45 : decode mX6_digest.2.1 45 = .ok (.istore_n 3, 1) := by decide +kernel
theorem dX6_digest_46 : decode mX6_digest.2.1 46 = .ok (.iload_n 3, 1) := by decide +kernel
theorem dX6_digest_47 : decode mX6_digest.2.1 47 = .ok (.aload_n 0, 1) := by decide +kernel
theorem dX6_digest_48 : decode mX6_digest.2.1 48 = .ok (.getfield 26, 3) := by decide +kernel
theorem dX6_digest_51 : decode mX6_digest.2.1 51 = .ok (.getfield 196, 3) := by decide +kernel
theorem dX6_digest_54 : decode mX6_digest.2.1 54 = .ok (.if_icmp .ge 16, 3) := by decide +kernel
theorem dX6_digest_57 : decode mX6_digest.2.1 57 = .ok (.aload_n 0, 1) := by decide +kernel
theorem dX6_digest_58 : decode mX6_digest.2.1 58 = .ok (.lload_n 1, 1) := by decide +kernel
theorem dX6_digest_59 : decode mX6_digest.2.1 59 = .ok (.iload_n 3, 1) := by decide +kernel
theorem dX6_digest_60 : decode mX6_digest.2.1 60 = .ok (.invokevirtual 218, 3) := by decide +kernel
theorem dX6_digest_63 : decode mX6_digest.2.1 63 = .ok (.lstore_n 1, 1) := by decide +kernel
theorem dX6_digest_64 : decode mX6_digest.2.1 64 = .ok (.iinc 3 1, 3) := by decide +kernel
theorem dX6_digest_67 : decode mX6_digest.2.1 67 = .ok (.goto (-21), 3) := by decide +kernel
theorem dX6_digest_70 : decode mX6_digest.2.1 70 = .ok (.lload_n 1, 1) := by decide +kernel
theorem dX6_digest_71 : decode mX6_digest.2.1 71 = .ok (.aload_n 0, 1) := by decide +kernel
theorem dX6_digest_72 : decode mX6_digest.2.1 72 = .ok (.getfield 49, 3) := by decide +kernel
theorem dX6_digest_75 : decode mX6_digest.2.1 75 = .ok (.getfield 178, 3) := by decide +kernel
theorem dX6_digest_78 : decode mX6_digest.2.1 78 = .ok (.i2l, 1) := by decide +kernel
theorem dX6_digest_79 : decode mX6_digest.2.1 79 = .ok (.invokestatic 221, 3) := by decide +kernel
theorem dX6_digest_82 : decode mX6_digest.2.1 82 = .ok (.aload_n 0, 1) := by decide +kernel
theorem dX6_digest_83 : decode mX6_digest.2.1 83 = .ok (.getfield 49, 3) := by decide +kernel
theorem dX6_digest_86 : decode mX6_digest.2.1 86 = .ok (.getfield 181, 3) := by decide +kernel
theorem dX6_digest_89 : decode mX6_digest.2.1 89 = .ok (.i2l, 1) := by decide +kernel
theorem dX6_digest_90 : decode mX6_digest.2.1 90 = .ok (.invokestatic 221, 3) := by decide +kernel
theorem dX6_digest_93 : decode mX6_digest.2.1 93 = .ok (.aload_n 0, 1) := by decide +kernel
theorem dX6_digest_94 : decode mX6_digest.2.1 94 = .ok (.getfield 49, 3) := by decide +kernel
theorem dX6_digest_97 : decode mX6_digest.2.1 97 = .ok (.getfield 184, 3) := by decide +kernel
theorem dX6_digest_100 : decode mX6_digest.2.1 100 = .ok (.i2l, 1) := by decide +kernel
theorem dX6_digest_101 : decode mX6_digest.2.1 101 = .ok (.invokestatic 221, 3) := by decide +kernel
theorem dX6_digest_104 : decode mX6_digest.2.1 104 = .ok (.lstore_n 1, 1) := by decide +kernel
theorem dX6_digest_105 : decode mX6_digest.2.1 105 = .ok (.iconst 0, 1) := by decide +kernel
theorem dX6_digest_106 : decode mX6_digest.2.1 106 = .ok (.istore_n 3, 1) := by decide +kernel
theorem dX6_digest_107 : decode mX6_digest.2.1 107 = .ok (.iload_n 3, 1) := by decide +kernel
theorem dX6_digest_108 : decode mX6_digest.2.1 108 = .ok (.aload_n 0, 1) := by decide +kernel
theorem dX6_digest_109 : decode mX6_digest.2.1 109 = .ok (.getfield 57, 3) := by decide +kernel
theorem dX6_digest_112 : decode mX6_digest.2.1 112 = .ok (.if_icmp .ge 37, 3) := by decide +kernel
theorem dX6_digest_115 : decode mX6_digest.2.1 115 = .ok (.iconst 0, 1) := by decide +kernel
theorem dX6_digest_116 : decode mX6_digest.2.1 116 = .ok (.istore 4, 2) := by decide +kernel
theorem dX6_digest_118 : decode mX6_digest.2.1 118 = .ok (.iload 4, 2) := by decide +kernel
theorem dX6_digest_120 : decode mX6_digest.2.1 120 = .ok (.iconst 2, 1) := by decide +kernel
theorem dX6_digest_121 : decode mX6_digest.2.1 121 = .ok (.if_icmp .gt 22, 3) := by decide +kernel
theorem dX6_digest_124 : decode mX6_digest.2.1 124 = .ok (.lload_n 1, 1) := by decide +kernel
theorem dX6_digest_125 : decode mX6_digest.2.1 125 = .ok (.aload_n 0, 1) := by decide +kernel
theorem dX6_digest_126 : decode mX6_digest.2.1 126 = .ok (.iload_n 3, 1) := by decide +kernel
theorem dX6_digest_127 : decode mX6_digest.2.1 127 = .ok (.iload 4, 2) := by decide +kernel
theorem dX6_digest_129 : decode mX6_digest.2.1 129 = .ok (.invokevirtual 225, 3) := by decide +kernel
theorem dX6_digest_132 : decode mX6_digest.2.1 132 = .ok (.i2l, 1) := by decide +kernel
theorem dX6_digest_133 : decode mX6_digest.2.1 133 = .ok (.invokestatic 221, 3) := by decide +kernel
theorem dX6_digest_136 : decode mX6_digest.2.1 136 = .ok (.lstore_n 1, 1) := by decide +kernel
theorem dX6_digest_137 : decode mX6_digest.2.1 137 = .ok (.iinc 4 1, 3) := by decide +kernel
theorem dX6_digest_140 : decode mX6_digest.2.1 140 = .ok (.goto (-22), 3) := by decide +kernel
theorem dX6_digest_143 : decode mX6_digest.2.1 143 = .ok (.iinc 3 1, 3) := by decide +kernel
theorem dX6_digest_146 : decode mX6_digest.2.1 146 = .ok (.goto (-39), 3) := by decide +kernel
theorem dX6_digest_149 : decode mX6_digest.2.1 149 = .ok (.iconst 0, 1) := by decide +kernel
theorem dX6_digest_150 : decode mX6_digest.2.1 150 = .ok (.istore_n 3, 1) := by decide +kernel
theorem dX6_digest_151 : decode mX6_digest.2.1 151 = .ok (.iload_n 3, 1) := by decide +kernel
theorem dX6_digest_152 : decode mX6_digest.2.1 152 = .ok (.aload_n 0, 1) := by decide +kernel
theorem dX6_digest_153 : decode mX6_digest.2.1 153 = .ok (.getfield 10, 3) := by decide +kernel
theorem dX6_digest_156 : decode mX6_digest.2.1 156 = .ok (.getfield 65, 3) := by decide +kernel
theorem dX6_digest_159 : decode mX6_digest.2.1 159 = .ok (.if_icmp .ge 23, 3) := by decide +kernel
theorem dX6_digest_162 : decode mX6_digest.2.1 162 = .ok (.lload_n 1, 1) := by decide +kernel
theorem dX6_digest_163 : decode mX6_digest.2.1 163 = .ok (.aload_n 0, 1) := by decide +kernel
theorem dX6_digest_164 : decode mX6_digest.2.1 164 = .ok (.getfield 10, 3) := by decide +kernel
theorem dX6_digest_167 : decode mX6_digest.2.1 167 = .ok (.iload_n 3, 1) := by decide +kernel
theorem dX6_digest_168 : decode mX6_digest.2.1 168 = .ok (.invokevirtual 228, 3) := by decide +kernel
theorem dX6_digest_171 : decode mX6_digest.2.1 171 = .ok (.i2l, 1) := by decide +kernel
theorem dX6_digest_172 : decode mX6_digest.2.1 172 = .ok (.invokestatic 221, 3) := by decide +kernel
theorem dX6_digest_175 : decode mX6_digest.2.1 175 = .ok (.lstore_n 1, 1) := by decide +kernel
theorem dX6_digest_176 : decode mX6_digest.2.1 176 = .ok (.iinc 3 1, 3) := by decide +kernel
theorem dX6_digest_179 : decode mX6_digest.2.1 179 = .ok (.goto (-28), 3) := by decide +kernel
theorem dX6_digest_182 : decode mX6_digest.2.1 182 = .ok (.iconst 0, 1) := by decide +kernel
theorem dX6_digest_183 : decode mX6_digest.2.1 183 = .ok (.istore_n 3, 1) := by decide +kernel
theorem dX6_digest_184 : decode mX6_digest.2.1 184 = .ok (.iload_n 3, 1) := by decide +kernel
theorem dX6_digest_185 : decode mX6_digest.2.1 185 = .ok (.bipush 8, 2) := by decide +kernel
theorem dX6_digest_187 : decode mX6_digest.2.1 187 = .ok (.if_icmp .gt 20, 3) := by decide +kernel
theorem dX6_digest_190 : decode mX6_digest.2.1 190 = .ok (.lload_n 1, 1) := by decide +kernel
theorem dX6_digest_191 : decode mX6_digest.2.1 191 = .ok (.aload_n 0, 1) := by decide +kernel
theorem dX6_digest_192 : decode mX6_digest.2.1 192 = .ok (.iload_n 3, 1) := by decide +kernel
theorem dX6_digest_193 : decode mX6_digest.2.1 193 = .ok (.invokevirtual 231, 3) := by decide +kernel
theorem dX6_digest_196 : decode mX6_digest.2.1 196 = .ok (.i2l, 1) := by decide +kernel
theorem dX6_digest_197 : decode mX6_digest.2.1 197 = .ok (.invokestatic 221, 3) := by decide +kernel
theorem dX6_digest_200 : decode mX6_digest.2.1 200 = .ok (.lstore_n 1, 1) := by decide +kernel
theorem dX6_digest_201 : decode mX6_digest.2.1 201 = .ok (.iinc 3 1, 3) := by decide +kernel
theorem dX6_digest_204 : decode mX6_digest.2.1 204 = .ok (.goto (-20), 3) := by decide +kernel
theorem dX6_digest_207 : decode mX6_digest.2.1 207 = .ok (.lload_n 1, 1) := by decide +kernel
theorem dX6_digest_208 : decode mX6_digest.2.1 208 = .ok (.lreturn, 1) := by decide +kernel
theorem dX6_withType_0 : decode mX6_withType.2.1 0 = .ok (.lload_n 1, 1) := by decide +kernel
theorem dX6_withType_1 : decode mX6_withType.2.1 1 = .ok (.lstore 4, 2) := by decide +kernel
theorem dX6_withType_3 : decode mX6_withType.2.1 3 = .ok (.iconst 0, 1) := by decide +kernel
theorem dX6_withType_4 : decode mX6_withType.2.1 4 = .ok (.istore 6, 2) := by decide +kernel
theorem dX6_withType_6 : decode mX6_withType.2.1 6 = .ok (.iload 6, 2) := by decide +kernel
theorem dX6_withType_8 : decode mX6_withType.2.1 8 = .ok (.bipush 6, 2) := by decide +kernel
theorem dX6_withType_10 : decode mX6_withType.2.1 10 = .ok (.if_icmp .gt 24, 3) := by decide +kernel
theorem dX6_withType_13 : decode mX6_withType.2.1 13 = .ok (.lload 4, 2) := by decide +kernel
theorem dX6_withType_15 : decode mX6_withType.2.1 15 = .ok (.aload_n 0, 1) := by decide +kernel
theorem dX6_withType_16 : decode mX6_withType.2.1 16 = .ok (.iload_n 3, 1) := by decide +kernel
theorem dX6_withType_17 : decode mX6_withType.2.1 17 = .ok (.iload 6, 2) := by decide +kernel
theorem dX6_withType_19 : decode mX6_withType.2.1 19 = .ok (.invokevirtual 234, 3) := by decide +kernel
theorem dX6_withType_22 : decode mX6_withType.2.1 22 = .ok (.i2l, 1) := by decide +kernel
theorem dX6_withType_23 : decode mX6_withType.2.1 23 = .ok (.invokestatic 221, 3) := by decide +kernel
theorem dX6_withType_26 : decode mX6_withType.2.1 26 = .ok (.lstore 4, 2) := by decide +kernel
theorem dX6_withType_28 : decode mX6_withType.2.1 28 = .ok (.iinc 6 1, 3) := by decide +kernel
theorem dX6_withType_31 : decode mX6_withType.2.1 31 = .ok (.goto (-25), 3) := by decide +kernel
theorem dX6_withType_34 : decode mX6_withType.2.1 34 = .ok (.iconst 0, 1) := by decide +kernel
theorem dX6_withType_35 : decode mX6_withType.2.1 35 = .ok (.istore 6, 2) := by decide +kernel
theorem dX6_withType_37 : decode mX6_withType.2.1 37 = .ok (.iload 6, 2) := by decide +kernel
theorem dX6_withType_39 : decode mX6_withType.2.1 39 = .ok (.bipush 12, 2) := by decide +kernel
theorem dX6_withType_41 : decode mX6_withType.2.1 41 = .ok (.if_icmp .ge 24, 3) := by decide +kernel
theorem dX6_withType_44 : decode mX6_withType.2.1 44 = .ok (.lload 4, 2) := by decide +kernel
theorem dX6_withType_46 : decode mX6_withType.2.1 46 = .ok (.aload_n 0, 1) := by decide +kernel
theorem dX6_withType_47 : decode mX6_withType.2.1 47 = .ok (.iload_n 3, 1) := by decide +kernel
theorem dX6_withType_48 : decode mX6_withType.2.1 48 = .ok (.iload 6, 2) := by decide +kernel
theorem dX6_withType_50 : decode mX6_withType.2.1 50 = .ok (.invokevirtual 237, 3) := by decide +kernel
theorem dX6_withType_53 : decode mX6_withType.2.1 53 = .ok (.i2l, 1) := by decide +kernel
theorem dX6_withType_54 : decode mX6_withType.2.1 54 = .ok (.invokestatic 221, 3) := by decide +kernel
theorem dX6_withType_57 : decode mX6_withType.2.1 57 = .ok (.lstore 4, 2) := by decide +kernel
theorem dX6_withType_59 : decode mX6_withType.2.1 59 = .ok (.iinc 6 1, 3) := by decide +kernel
theorem dX6_withType_62 : decode mX6_withType.2.1 62 = .ok (.goto (-25), 3) := by decide +kernel
theorem dX6_withType_65 : decode mX6_withType.2.1 65 = .ok (.iconst 0, 1) := by decide +kernel
theorem dX6_withType_66 : decode mX6_withType.2.1 66 = .ok (.istore 6, 2) := by decide +kernel
theorem dX6_withType_68 : decode mX6_withType.2.1 68 = .ok (.iload 6, 2) := by decide +kernel
theorem dX6_withType_70 : decode mX6_withType.2.1 70 = .ok (.bipush 6, 2) := by decide +kernel
theorem dX6_withType_72 : decode mX6_withType.2.1 72 = .ok (.if_icmp .ge 20, 3) := by decide +kernel
theorem dX6_withType_75 : decode mX6_withType.2.1 75 = .ok (.aload_n 0, 1) := by decide +kernel
theorem dX6_withType_76 : decode mX6_withType.2.1 76 = .ok (.lload 4, 2) := by decide +kernel
theorem dX6_withType_78 : decode mX6_withType.2.1 78 = .ok (.iload_n 3, 1) := by decide +kernel
theorem dX6_withType_79 : decode mX6_withType.2.1 79 = .ok (.iload 6, 2) := by decide +kernel
theorem dX6_withType_81 : decode mX6_withType.2.1 81 = .ok (.invokevirtual 240, 3) := by decide +kernel
theorem dX6_withType_84 : decode mX6_withType.2.1 84 = .ok (.lstore 4, 2) := by decide +kernel
theorem dX6_withType_86 : decode mX6_withType.2.1 86 = .ok (.iinc 6 1, 3) := by decide +kernel
theorem dX6_withType_89 : decode mX6_withType.2.1 89 = .ok (.goto (-21), 3) := by decide +kernel
theorem dX6_withType_92 : decode mX6_withType.2.1 92 = .ok (.lload 4, 2) := by decide +kernel
theorem dX6_withType_94 : decode mX6_withType.2.1 94 = .ok (.lreturn, 1) := by decide +kernel
theorem dX6_withMethod_0 : decode mX6_withMethod.2.1 0 = .ok (.lload_n 1, 1) := by decide +kernel
theorem dX6_withMethod_1 : decode mX6_withMethod.2.1 1 = .ok (.aload_n 0, 1) := by decide +kernel
theorem dX6_withMethod_2 : decode mX6_withMethod.2.1 2 = .ok (.iload_n 3, 1) := by decide +kernel
theorem dX6_withMethod_3 : decode mX6_withMethod.2.1 3 = .ok (.iload 4, 2) := by decide +kernel
theorem dX6_withMethod_5 : decode mX6_withMethod.2.1 5 = .ok (.iconst 0, 1) := by decide +kernel
theorem dX6_withMethod_6 : decode mX6_withMethod.2.1 6 = .ok (.invokevirtual 244, 3) := by decide +kernel
theorem dX6_withMethod_9 : decode mX6_withMethod.2.1 9 = .ok (.i2l, 1) := by decide +kernel
theorem dX6_withMethod_10 : decode mX6_withMethod.2.1 10 = .ok (.invokestatic 221, 3) := by decide +kernel
theorem dX6_withMethod_13 : decode mX6_withMethod.2.1 13 = .ok (.lstore 5, 2) := by decide +kernel
theorem dX6_withMethod_15 : decode mX6_withMethod.2.1 15 = .ok (.lload 5, 2) := by decide +kernel
theorem dX6_withMethod_17 : decode mX6_withMethod.2.1 17 = .ok (.aload_n 0, 1) := by decide +kernel
theorem dX6_withMethod_18 : decode mX6_withMethod.2.1 18 = .ok (.iload_n 3, 1) := by decide +kernel
theorem dX6_withMethod_19 : decode mX6_withMethod.2.1 19 = .ok (.iload 4, 2) := by decide +kernel
theorem dX6_withMethod_21 : decode mX6_withMethod.2.1 21 = .ok (.iconst 1, 1) := by decide +kernel
theorem dX6_withMethod_22 : decode mX6_withMethod.2.1 22 = .ok (.invokevirtual 244, 3) := by decide +kernel
theorem dX6_withMethod_25 : decode mX6_withMethod.2.1 25 = .ok (.i2l, 1) := by decide +kernel
theorem dX6_withMethod_26 : decode mX6_withMethod.2.1 26 = .ok (.invokestatic 221, 3) := by decide +kernel
theorem dX6_withMethod_29 : decode mX6_withMethod.2.1 29 = .ok (.lstore 5, 2) := by decide +kernel
theorem dX6_withMethod_31 : decode mX6_withMethod.2.1 31 = .ok (.aload_n 0, 1) := by decide +kernel
theorem dX6_withMethod_32 : decode mX6_withMethod.2.1 32 = .ok (.getfield 40, 3) := by decide +kernel
theorem dX6_withMethod_35 : decode mX6_withMethod.2.1 35 = .ok (.iload_n 3, 1) := by decide +kernel
theorem dX6_withMethod_36 : decode mX6_withMethod.2.1 36 = .ok (.iload 4, 2) := by decide +kernel
theorem dX6_withMethod_38 : decode mX6_withMethod.2.1 38 = .ok (.invokevirtual 151, 3) := by decide +kernel
theorem dX6_withMethod_41 : decode mX6_withMethod.2.1 41 = .ok (.istore 7, 2) := by decide +kernel
theorem dX6_withMethod_43 : decode mX6_withMethod.2.1 43 = .ok (.lload 5, 2) := by decide +kernel
theorem dX6_withMethod_45 : decode mX6_withMethod.2.1 45 = .ok (.iload 7, 2) := by decide +kernel
theorem dX6_withMethod_47 : decode mX6_withMethod.2.1 47 = .ok (.i2l, 1) := by decide +kernel
theorem dX6_withMethod_48 : decode mX6_withMethod.2.1 48 = .ok (.invokestatic 221, 3) := by decide +kernel
theorem dX6_withMethod_51 : decode mX6_withMethod.2.1 51 = .ok (.aload_n 0, 1) := by decide +kernel
theorem dX6_withMethod_52 : decode mX6_withMethod.2.1 52 = .ok (.getfield 40, 3) := by decide +kernel
theorem dX6_withMethod_55 : decode mX6_withMethod.2.1 55 = .ok (.iload_n 3, 1) := by decide +kernel
theorem dX6_withMethod_56 : decode mX6_withMethod.2.1 56 = .ok (.iload 4, 2) := by decide +kernel
theorem dX6_withMethod_58 : decode mX6_withMethod.2.1 58 = .ok (.invokevirtual 154, 3) := by decide +kernel
theorem dX6_withMethod_61 : decode mX6_withMethod.2.1 61 = .ok (.i2l, 1) := by decide +kernel
theorem dX6_withMethod_62 : decode mX6_withMethod.2.1 62 = .ok (.invokestatic 221, 3) := by decide +kernel
theorem dX6_withMethod_65 : decode mX6_withMethod.2.1 65 = .ok (.lstore 5, 2) := by decide +kernel
theorem dX6_withMethod_67 : decode mX6_withMethod.2.1 67 = .ok (.iconst 0, 1) := by decide +kernel
theorem dX6_withMethod_68 : decode mX6_withMethod.2.1 68 = .ok (.istore 8, 2) := by decide +kernel
theorem dX6_withMethod_70 : decode mX6_withMethod.2.1 70 = .ok (.iload 8, 2) := by decide +kernel
theorem dX6_withMethod_72 : decode mX6_withMethod.2.1 72 = .ok (.iload 7, 2) := by decide +kernel
theorem dX6_withMethod_74 : decode mX6_withMethod.2.1 74 = .ok (.if_icmp .ge 50, 3) := by decide +kernel
theorem dX6_withMethod_77 : decode mX6_withMethod.2.1 77 = .ok (.iload 8, 2) := by decide +kernel
theorem dX6_withMethod_79 : decode mX6_withMethod.2.1 79 = .ok (.bipush 60, 2) := by decide +kernel
theorem dX6_withMethod_81 : decode mX6_withMethod.2.1 81 = .ok (.if_icmp .ge 43, 3) := by decide +kernel
theorem dX6_withMethod_84 : decode mX6_withMethod.2.1 84 = .ok (.aload_n 0, 1) := by decide +kernel
theorem dX6_withMethod_85 : decode mX6_withMethod.2.1 85 = .ok (.getfield 40, 3) := by decide +kernel
theorem dX6_withMethod_88 : decode mX6_withMethod.2.1 88 = .ok (.iload_n 3, 1) := by decide +kernel
theorem dX6_withMethod_89 : decode mX6_withMethod.2.1 89 = .ok (.iload 4, 2) := by decide +kernel
theorem dX6_withMethod_91 : decode mX6_withMethod.2.1 91 = .ok (.iload 8, 2) := by decide +kernel
theorem dX6_withMethod_93 : decode mX6_withMethod.2.1 93 = .ok (.invokevirtual 157, 3) := by decide +kernel
theorem dX6_withMethod_96 : decode mX6_withMethod.2.1 96 = .ok (.istore 9, 2) := by decide +kernel
theorem dX6_withMethod_98 : decode mX6_withMethod.2.1 98 = .ok (.lload 5, 2) := by decide +kernel
theorem dX6_withMethod_100 : decode mX6_withMethod.2.1 100 = .ok (.iload 9, 2) := by decide +kernel
theorem dX6_withMethod_102 : decode mX6_withMethod.2.1 102 = .ok (.iconst 4, 1) := by decide +kernel
theorem dX6_withMethod_103 : decode mX6_withMethod.2.1 103 = .ok (.irem, 1) := by decide +kernel
theorem dX6_withMethod_104 : decode mX6_withMethod.2.1 104 = .ok (.i2l, 1) := by decide +kernel
theorem dX6_withMethod_105 : decode mX6_withMethod.2.1 105 = .ok (.invokestatic 221, 3) := by decide +kernel
theorem dX6_withMethod_108 : decode mX6_withMethod.2.1 108 = .ok (.iload 9, 2) := by decide +kernel
theorem dX6_withMethod_110 : decode mX6_withMethod.2.1 110 = .ok (.iconst 4, 1) := by decide +kernel
theorem dX6_withMethod_111 : decode mX6_withMethod.2.1 111 = .ok (.idiv, 1) := by decide +kernel
theorem dX6_withMethod_112 : decode mX6_withMethod.2.1 112 = .ok (.i2l, 1) := by decide +kernel
theorem dX6_withMethod_113 : decode mX6_withMethod.2.1 113 = .ok (.invokestatic 221, 3) := by decide +kernel
theorem dX6_withMethod_116 : decode mX6_withMethod.2.1 116 = .ok (.lstore 5, 2) := by decide +kernel
theorem dX6_withMethod_118 : decode mX6_withMethod.2.1 118 = .ok (.iinc 8 1, 3) := by decide +kernel
theorem dX6_withMethod_121 : decode mX6_withMethod.2.1 121 = .ok (.goto (-51), 3) := by decide +kernel
theorem dX6_withMethod_124 : decode mX6_withMethod.2.1 124 = .ok (.lload 5, 2) := by decide +kernel
theorem dX6_withMethod_126 : decode mX6_withMethod.2.1 126 = .ok (.lreturn, 1) := by decide +kernel
theorem dX6_withBody_0 : decode mX6_withBody.2.1 0 = .ok (.lload_n 1, 1) := by decide +kernel
theorem dX6_withBody_1 : decode mX6_withBody.2.1 1 = .ok (.aload_n 0, 1) := by decide +kernel
theorem dX6_withBody_2 : decode mX6_withBody.2.1 2 = .ok (.iload_n 3, 1) := by decide +kernel
theorem dX6_withBody_3 : decode mX6_withBody.2.1 3 = .ok (.iconst 0, 1) := by decide +kernel
theorem dX6_withBody_4 : decode mX6_withBody.2.1 4 = .ok (.invokevirtual 247, 3) := by decide +kernel
theorem dX6_withBody_7 : decode mX6_withBody.2.1 7 = .ok (.i2l, 1) := by decide +kernel
theorem dX6_withBody_8 : decode mX6_withBody.2.1 8 = .ok (.invokestatic 221, 3) := by decide +kernel
theorem dX6_withBody_11 : decode mX6_withBody.2.1 11 = .ok (.lstore 4, 2) := by decide +kernel
theorem dX6_withBody_13 : decode mX6_withBody.2.1 13 = .ok (.iconst 0, 1) := by decide +kernel
theorem dX6_withBody_14 : decode mX6_withBody.2.1 14 = .ok (.istore 6, 2) := by decide +kernel
theorem dX6_withBody_16 : decode mX6_withBody.2.1 16 = .ok (.iload 6, 2) := by decide +kernel
theorem dX6_withBody_18 : decode mX6_withBody.2.1 18 = .ok (.bipush 6, 2) := by decide +kernel
theorem dX6_withBody_20 : decode mX6_withBody.2.1 20 = .ok (.if_icmp .ge 27, 3) := by decide +kernel
theorem dX6_withBody_23 : decode mX6_withBody.2.1 23 = .ok (.lload 4, 2) := by decide +kernel
theorem dX6_withBody_25 : decode mX6_withBody.2.1 25 = .ok (.aload_n 0, 1) := by decide +kernel
theorem dX6_withBody_26 : decode mX6_withBody.2.1 26 = .ok (.iload_n 3, 1) := by decide +kernel
theorem dX6_withBody_27 : decode mX6_withBody.2.1 27 = .ok (.bipush 10, 2) := by decide +kernel
theorem dX6_withBody_29 : decode mX6_withBody.2.1 29 = .ok (.iload 6, 2) := by decide +kernel
theorem dX6_withBody_31 : decode mX6_withBody.2.1 31 = .ok (.iadd, 1) := by decide +kernel
theorem dX6_withBody_32 : decode mX6_withBody.2.1 32 = .ok (.invokevirtual 247, 3) := by decide +kernel
theorem dX6_withBody_35 : decode mX6_withBody.2.1 35 = .ok (.i2l, 1) := by decide +kernel
theorem dX6_withBody_36 : decode mX6_withBody.2.1 36 = .ok (.invokestatic 221, 3) := by decide +kernel
theorem dX6_withBody_39 : decode mX6_withBody.2.1 39 = .ok (.lstore 4, 2) := by decide +kernel
theorem dX6_withBody_41 : decode mX6_withBody.2.1 41 = .ok (.iinc 6 1, 3) := by decide +kernel
theorem dX6_withBody_44 : decode mX6_withBody.2.1 44 = .ok (.goto (-28), 3) := by decide +kernel
theorem dX6_withBody_47 : decode mX6_withBody.2.1 47 = .ok (.lload 4, 2) := by decide +kernel
theorem dX6_withBody_49 : decode mX6_withBody.2.1 49 = .ok (.aload_n 0, 1) := by decide +kernel
theorem dX6_withBody_50 : decode mX6_withBody.2.1 50 = .ok (.getfield 40, 3) := by decide +kernel
theorem dX6_withBody_53 : decode mX6_withBody.2.1 53 = .ok (.iload_n 3, 1) := by decide +kernel
theorem dX6_withBody_54 : decode mX6_withBody.2.1 54 = .ok (.invokevirtual 193, 3) := by decide +kernel
theorem dX6_withBody_57 : decode mX6_withBody.2.1 57 = .ok (.ifCond .eq 7, 3) := by decide +kernel
theorem dX6_withBody_60 : decode mX6_withBody.2.1 60 = .ok (.lconst 0, 1) := by decide +kernel
theorem dX6_withBody_61 : decode mX6_withBody.2.1 61 = .ok (.goto 4, 3) := by decide +kernel
theorem dX6_withBody_64 : decode mX6_withBody.2.1 64 = .ok (.lconst 1, 1) := by decide +kernel
theorem dX6_withBody_65 : decode mX6_withBody.2.1 65 = .ok (.invokestatic 221, 3) := by decide +kernel
theorem dX6_withBody_68 : decode mX6_withBody.2.1 68 = .ok (.lreturn, 1) := by decide +kernel
theorem dX6_with_0 : decode mX6_with.2.1 0 = .ok (.ldc2_w 250, 3) := by decide +kernel
theorem dX6_with_3 : decode mX6_with.2.1 3 = .ok (.lload_n 0, 1) := by decide +kernel
theorem dX6_with_4 : decode mX6_with.2.1 4 = .ok (.lmul, 1) := by decide +kernel
theorem dX6_with_5 : decode mX6_with.2.1 5 = .ok (.lload_n 2, 1) := by decide +kernel
theorem dX6_with_6 : decode mX6_with.2.1 6 = .ok (.ladd, 1) := by decide +kernel
theorem dX6_with_7 : decode mX6_with.2.1 7 = .ok (.lreturn, 1) := by decide +kernel
theorem dX6_typesThatFit_0 : decode mX6_typesThatFit.2.1 0 = .ok (.iconst 0, 1) := by decide +kernel
theorem dX6_typesThatFit_1 : decode mX6_typesThatFit.2.1 1 = .ok (.istore_n 2, 1) := by decide +kernel
theorem dX6_typesThatFit_2 : decode mX6_typesThatFit.2.1 2 = .ok (.iconst 0, 1) := by decide +kernel
theorem dX6_typesThatFit_3 : decode mX6_typesThatFit.2.1 3 = .ok (.istore_n 3, 1) := by decide +kernel
theorem dX6_typesThatFit_4 : decode mX6_typesThatFit.2.1 4 = .ok (.iload_n 3, 1) := by decide +kernel
theorem dX6_typesThatFit_5 : decode mX6_typesThatFit.2.1 5 = .ok (.aload_n 0, 1) := by decide +kernel
theorem dX6_typesThatFit_6 : decode mX6_typesThatFit.2.1 6 = .ok (.getfield 26, 3) := by decide +kernel
theorem dX6_typesThatFit_9 : decode mX6_typesThatFit.2.1 9 = .ok (.getfield 71, 3) := by decide +kernel
theorem dX6_typesThatFit_12 : decode mX6_typesThatFit.2.1 12 = .ok (.if_icmp .ge 30, 3) := by decide +kernel
theorem dX6_typesThatFit_15 : decode mX6_typesThatFit.2.1 15 = .ok (.iload_n 1, 1) := by decide +kernel
theorem dX6_typesThatFit_16 : decode mX6_typesThatFit.2.1 16 = .ok (.aload_n 0, 1) := by decide +kernel
theorem dX6_typesThatFit_17 : decode mX6_typesThatFit.2.1 17 = .ok (.getfield 26, 3) := by decide +kernel
theorem dX6_typesThatFit_20 : decode mX6_typesThatFit.2.1 20 = .ok (.iload_n 3, 1) := by decide +kernel
theorem dX6_typesThatFit_21 : decode mX6_typesThatFit.2.1 21 = .ok (.invokevirtual 120, 3) := by decide +kernel
theorem dX6_typesThatFit_24 : decode mX6_typesThatFit.2.1 24 = .ok (.iconst (-1), 1) := by decide +kernel
theorem dX6_typesThatFit_25 : decode mX6_typesThatFit.2.1 25 = .ok (.ixor, 1) := by decide +kernel
theorem dX6_typesThatFit_26 : decode mX6_typesThatFit.2.1 26 = .ok (.iand, 1) := by decide +kernel
theorem dX6_typesThatFit_27 : decode mX6_typesThatFit.2.1 27 = .ok (.ifCond .ne 9, 3) := by decide +kernel
theorem dX6_typesThatFit_30 : decode mX6_typesThatFit.2.1 30 = .ok (.iload_n 2, 1) := by decide +kernel
theorem dX6_typesThatFit_31 : decode mX6_typesThatFit.2.1 31 = .ok (.iconst 1, 1) := by decide +kernel
theorem dX6_typesThatFit_32 : decode mX6_typesThatFit.2.1 32 = .ok (.iload_n 3, 1) := by decide +kernel
theorem dX6_typesThatFit_33 : decode mX6_typesThatFit.2.1 33 = .ok (.ishl, 1) := by decide +kernel
theorem dX6_typesThatFit_34 : decode mX6_typesThatFit.2.1 34 = .ok (.ior, 1) := by decide +kernel
theorem dX6_typesThatFit_35 : decode mX6_typesThatFit.2.1 35 = .ok (.istore_n 2, 1) := by decide +kernel
theorem dX6_typesThatFit_36 : decode mX6_typesThatFit.2.1 36 = .ok (.iinc 3 1, 3) := by decide +kernel
theorem dX6_typesThatFit_39 : decode mX6_typesThatFit.2.1 39 = .ok (.goto (-35), 3) := by decide +kernel
theorem dX6_typesThatFit_42 : decode mX6_typesThatFit.2.1 42 = .ok (.iload_n 2, 1) := by decide +kernel
theorem dX6_typesThatFit_43 : decode mX6_typesThatFit.2.1 43 = .ok (.ireturn, 1) := by decide +kernel
theorem dX6_nearestMisfit_0 : decode mX6_nearestMisfit.2.1 0 = .ok (.iconst (-1), 1) := by decide +kernel
theorem dX6_nearestMisfit_1 : decode mX6_nearestMisfit.2.1 1 = .ok (.istore_n 2, 1) := by decide +kernel
theorem dX6_nearestMisfit_2 : decode mX6_nearestMisfit.2.1 2 = .ok (.bipush 7, 2) := by decide +kernel
theorem dX6_nearestMisfit_4 : decode mX6_nearestMisfit.2.1 4 = .ok (.istore_n 3, 1) := by decide +kernel
theorem dX6_nearestMisfit_5 : decode mX6_nearestMisfit.2.1 5 = .ok (.iconst 0, 1) := by decide +kernel
theorem dX6_nearestMisfit_6 : decode mX6_nearestMisfit.2.1 6 = .ok (.istore 4, 2) := by decide +kernel
theorem dX6_nearestMisfit_8 : decode mX6_nearestMisfit.2.1 8 = .ok (.iload 4, 2) := by decide +kernel
theorem dX6_nearestMisfit_10 : decode mX6_nearestMisfit.2.1 10 = .ok (.aload_n 0, 1) := by decide +kernel
theorem dX6_nearestMisfit_11 : decode mX6_nearestMisfit.2.1 11 = .ok (.getfield 26, 3) := by decide +kernel
theorem dX6_nearestMisfit_14 : decode mX6_nearestMisfit.2.1 14 = .ok (.getfield 71, 3) := by decide +kernel
theorem dX6_nearestMisfit_17 : decode mX6_nearestMisfit.2.1 17 = .ok (.if_icmp .ge 44, 3) := by decide +kernel
theorem dX6_nearestMisfit_20 : decode mX6_nearestMisfit.2.1 20 = .ok (.iload_n 1, 1) := by decide +kernel
theorem dX6_nearestMisfit_21 : decode mX6_nearestMisfit.2.1 21 = .ok (.aload_n 0, 1) := by decide +kernel
theorem dX6_nearestMisfit_22 : decode mX6_nearestMisfit.2.1 22 = .ok (.getfield 26, 3) := by decide +kernel
theorem dX6_nearestMisfit_25 : decode mX6_nearestMisfit.2.1 25 = .ok (.iload 4, 2) := by decide +kernel
theorem dX6_nearestMisfit_27 : decode mX6_nearestMisfit.2.1 27 = .ok (.invokevirtual 120, 3) := by decide +kernel
theorem dX6_nearestMisfit_30 : decode mX6_nearestMisfit.2.1 30 = .ok (.iconst (-1), 1) := by decide +kernel
theorem dX6_nearestMisfit_31 : decode mX6_nearestMisfit.2.1 31 = .ok (.ixor, 1) := by decide +kernel
theorem dX6_nearestMisfit_32 : decode mX6_nearestMisfit.2.1 32 = .ok (.iand, 1) := by decide +kernel
theorem dX6_nearestMisfit_33 : decode mX6_nearestMisfit.2.1 33 = .ok (.invokestatic 252, 3) := by decide +kernel
theorem dX6_nearestMisfit_36 : decode mX6_nearestMisfit.2.1 36 = .ok (.istore 5, 2) := by decide +kernel
theorem dX6_nearestMisfit_38 : decode mX6_nearestMisfit.2.1 38 = .ok (.iload 5, 2) := by decide +kernel
theorem dX6_nearestMisfit_40 : decode mX6_nearestMisfit.2.1 40 = .ok (.ifCond .le 15, 3) := by decide +kernel
theorem dX6_nearestMisfit_43 : decode mX6_nearestMisfit.2.1 43 = .ok (.iload 5, 2) := by decide +kernel
theorem dX6_nearestMisfit_45 : decode mX6_nearestMisfit.2.1 45 = .ok (.iload_n 3, 1) := by decide +kernel
theorem dX6_nearestMisfit_46 : decode mX6_nearestMisfit.2.1 46 = .ok (.if_icmp .ge 9, 3) := by decide +kernel
theorem dX6_nearestMisfit_49 : decode mX6_nearestMisfit.2.1 49 = .ok (.iload 4, 2) := by decide +kernel
theorem dX6_nearestMisfit_51 : decode mX6_nearestMisfit.2.1 51 = .ok (.istore_n 2, 1) := by decide +kernel
theorem dX6_nearestMisfit_52 : decode mX6_nearestMisfit.2.1 52 = .ok (.iload 5, 2) := by decide +kernel
theorem dX6_nearestMisfit_54 : decode mX6_nearestMisfit.2.1 54 = .ok (.istore_n 3, 1) := by decide +kernel
theorem dX6_nearestMisfit_55 : decode mX6_nearestMisfit.2.1 55 = .ok (.iinc 4 1, 3) := by decide +kernel
theorem dX6_nearestMisfit_58 : decode mX6_nearestMisfit.2.1 58 = .ok (.goto (-50), 3) := by decide +kernel
theorem dX6_nearestMisfit_61 : decode mX6_nearestMisfit.2.1 61 = .ok (.iload_n 2, 1) := by decide +kernel
theorem dX6_nearestMisfit_62 : decode mX6_nearestMisfit.2.1 62 = .ok (.ireturn, 1) := by decide +kernel
theorem dX6_isMember_0 : decode mX6_isMember.2.1 0 = .ok (.iload_n 0, 1) := by decide +kernel
theorem dX6_isMember_1 : decode mX6_isMember.2.1 1 = .ok (.ifCond .lt 13, 3) := by decide +kernel
theorem dX6_isMember_4 : decode mX6_isMember.2.1 4 = .ok (.iload_n 0, 1) := by decide +kernel
theorem dX6_isMember_5 : decode mX6_isMember.2.1 5 = .ok (.bipush 12, 2) := by decide +kernel
theorem dX6_isMember_7 : decode mX6_isMember.2.1 7 = .ok (.if_icmp .ge 7, 3) := by decide +kernel
theorem dX6_isMember_10 : decode mX6_isMember.2.1 10 = .ok (.iconst 1, 1) := by decide +kernel
theorem dX6_isMember_11 : decode mX6_isMember.2.1 11 = .ok (.goto 4, 3) := by decide +kernel
theorem dX6_isMember_14 : decode mX6_isMember.2.1 14 = .ok (.iconst 0, 1) := by decide +kernel
theorem dX6_isMember_15 : decode mX6_isMember.2.1 15 = .ok (.ireturn, 1) := by decide +kernel
theorem dX6_isMethod_0 : decode mX6_isMethod.2.1 0 = .ok (.iload_n 0, 1) := by decide +kernel
theorem dX6_isMethod_1 : decode mX6_isMethod.2.1 1 = .ok (.ifCond .lt 13, 3) := by decide +kernel
theorem dX6_isMethod_4 : decode mX6_isMethod.2.1 4 = .ok (.iload_n 0, 1) := by decide +kernel
theorem dX6_isMethod_5 : decode mX6_isMethod.2.1 5 = .ok (.bipush 6, 2) := by decide +kernel
theorem dX6_isMethod_7 : decode mX6_isMethod.2.1 7 = .ok (.if_icmp .ge 7, 3) := by decide +kernel
theorem dX6_isMethod_10 : decode mX6_isMethod.2.1 10 = .ok (.iconst 1, 1) := by decide +kernel
theorem dX6_isMethod_11 : decode mX6_isMethod.2.1 11 = .ok (.goto 4, 3) := by decide +kernel
theorem dX6_isMethod_14 : decode mX6_isMethod.2.1 14 = .ok (.iconst 0, 1) := by decide +kernel
theorem dX6_isMethod_15 : decode mX6_isMethod.2.1 15 = .ok (.ireturn, 1) := by decide +kernel
theorem dJ6_bitCount_0f7a4_0 : decode mJ6_bitCount_0f7a4.2.1 0 = .ok (.iload_n 0, 1) := by decide +kernel
theorem dJ6_bitCount_0f7a4_1 : decode mJ6_bitCount_0f7a4.2.1 1 = .ok (.iload_n 0, 1) := by decide +kernel
theorem dJ6_bitCount_0f7a4_2 : decode mJ6_bitCount_0f7a4.2.1 2 = .ok (.iconst 1, 1) := by decide +kernel
theorem dJ6_bitCount_0f7a4_3 : decode mJ6_bitCount_0f7a4.2.1 3 = .ok (.iushr, 1) := by decide +kernel
theorem dJ6_bitCount_0f7a4_4 : decode mJ6_bitCount_0f7a4.2.1 4 = .ok (.ldc_w 265, 3) := by decide +kernel
theorem dJ6_bitCount_0f7a4_7 : decode mJ6_bitCount_0f7a4.2.1 7 = .ok (.iand, 1) := by decide +kernel
theorem dJ6_bitCount_0f7a4_8 : decode mJ6_bitCount_0f7a4.2.1 8 = .ok (.isub, 1) := by decide +kernel
theorem dJ6_bitCount_0f7a4_9 : decode mJ6_bitCount_0f7a4.2.1 9 = .ok (.istore_n 0, 1) := by decide +kernel
theorem dJ6_bitCount_0f7a4_10 : decode mJ6_bitCount_0f7a4.2.1 10 = .ok (.iload_n 0, 1) := by decide +kernel
theorem dJ6_bitCount_0f7a4_11 : decode mJ6_bitCount_0f7a4.2.1 11 = .ok (.ldc_w 266, 3) := by decide +kernel
theorem dJ6_bitCount_0f7a4_14 : decode mJ6_bitCount_0f7a4.2.1 14 = .ok (.iand, 1) := by decide +kernel
theorem dJ6_bitCount_0f7a4_15 : decode mJ6_bitCount_0f7a4.2.1 15 = .ok (.iload_n 0, 1) := by decide +kernel
theorem dJ6_bitCount_0f7a4_16 : decode mJ6_bitCount_0f7a4.2.1 16 = .ok (.iconst 2, 1) := by decide +kernel
theorem dJ6_bitCount_0f7a4_17 : decode mJ6_bitCount_0f7a4.2.1 17 = .ok (.iushr, 1) := by decide +kernel
theorem dJ6_bitCount_0f7a4_18 : decode mJ6_bitCount_0f7a4.2.1 18 = .ok (.ldc_w 266, 3) := by decide +kernel
theorem dJ6_bitCount_0f7a4_21 : decode mJ6_bitCount_0f7a4.2.1 21 = .ok (.iand, 1) := by decide +kernel
theorem dJ6_bitCount_0f7a4_22 : decode mJ6_bitCount_0f7a4.2.1 22 = .ok (.iadd, 1) := by decide +kernel
theorem dJ6_bitCount_0f7a4_23 : decode mJ6_bitCount_0f7a4.2.1 23 = .ok (.istore_n 0, 1) := by decide +kernel
theorem dJ6_bitCount_0f7a4_24 : decode mJ6_bitCount_0f7a4.2.1 24 = .ok (.iload_n 0, 1) := by decide +kernel
theorem dJ6_bitCount_0f7a4_25 : decode mJ6_bitCount_0f7a4.2.1 25 = .ok (.iload_n 0, 1) := by decide +kernel
theorem dJ6_bitCount_0f7a4_26 : decode mJ6_bitCount_0f7a4.2.1 26 = .ok (.iconst 4, 1) := by decide +kernel
theorem dJ6_bitCount_0f7a4_27 : decode mJ6_bitCount_0f7a4.2.1 27 = .ok (.iushr, 1) := by decide +kernel
theorem dJ6_bitCount_0f7a4_28 : decode mJ6_bitCount_0f7a4.2.1 28 = .ok (.iadd, 1) := by decide +kernel
theorem dJ6_bitCount_0f7a4_29 : decode mJ6_bitCount_0f7a4.2.1 29 = .ok (.ldc_w 267, 3) := by decide +kernel
theorem dJ6_bitCount_0f7a4_32 : decode mJ6_bitCount_0f7a4.2.1 32 = .ok (.iand, 1) := by decide +kernel
theorem dJ6_bitCount_0f7a4_33 : decode mJ6_bitCount_0f7a4.2.1 33 = .ok (.istore_n 0, 1) := by decide +kernel
theorem dJ6_bitCount_0f7a4_34 : decode mJ6_bitCount_0f7a4.2.1 34 = .ok (.iload_n 0, 1) := by decide +kernel
theorem dJ6_bitCount_0f7a4_35 : decode mJ6_bitCount_0f7a4.2.1 35 = .ok (.iload_n 0, 1) := by decide +kernel
theorem dJ6_bitCount_0f7a4_36 : decode mJ6_bitCount_0f7a4.2.1 36 = .ok (.bipush 8, 2) := by decide +kernel
theorem dJ6_bitCount_0f7a4_38 : decode mJ6_bitCount_0f7a4.2.1 38 = .ok (.iushr, 1) := by decide +kernel
theorem dJ6_bitCount_0f7a4_39 : decode mJ6_bitCount_0f7a4.2.1 39 = .ok (.iadd, 1) := by decide +kernel
theorem dJ6_bitCount_0f7a4_40 : decode mJ6_bitCount_0f7a4.2.1 40 = .ok (.istore_n 0, 1) := by decide +kernel
theorem dJ6_bitCount_0f7a4_41 : decode mJ6_bitCount_0f7a4.2.1 41 = .ok (.iload_n 0, 1) := by decide +kernel
theorem dJ6_bitCount_0f7a4_42 : decode mJ6_bitCount_0f7a4.2.1 42 = .ok (.iload_n 0, 1) := by decide +kernel
theorem dJ6_bitCount_0f7a4_43 : decode mJ6_bitCount_0f7a4.2.1 43 = .ok (.bipush 16, 2) := by decide +kernel
theorem dJ6_bitCount_0f7a4_45 : decode mJ6_bitCount_0f7a4.2.1 45 = .ok (.iushr, 1) := by decide +kernel
theorem dJ6_bitCount_0f7a4_46 : decode mJ6_bitCount_0f7a4.2.1 46 = .ok (.iadd, 1) := by decide +kernel
theorem dJ6_bitCount_0f7a4_47 : decode mJ6_bitCount_0f7a4.2.1 47 = .ok (.istore_n 0, 1) := by decide +kernel
theorem dJ6_bitCount_0f7a4_48 : decode mJ6_bitCount_0f7a4.2.1 48 = .ok (.iload_n 0, 1) := by decide +kernel
theorem dJ6_bitCount_0f7a4_49 : decode mJ6_bitCount_0f7a4.2.1 49 = .ok (.bipush 63, 2) := by decide +kernel
theorem dJ6_bitCount_0f7a4_51 : decode mJ6_bitCount_0f7a4.2.1 51 = .ok (.iand, 1) := by decide +kernel
theorem dJ6_bitCount_0f7a4_52 : decode mJ6_bitCount_0f7a4.2.1 52 = .ok (.ireturn, 1) := by decide +kernel
theorem dJ13_bitCount_95d88_0 : decode mJ13_bitCount_95d88.2.1 0 = .ok (.lload_n 0, 1) := by decide +kernel
theorem dJ13_bitCount_95d88_1 : decode mJ13_bitCount_95d88.2.1 1 = .ok (.lload_n 0, 1) := by decide +kernel
theorem dJ13_bitCount_95d88_2 : decode mJ13_bitCount_95d88.2.1 2 = .ok (.iconst 1, 1) := by decide +kernel
theorem dJ13_bitCount_95d88_3 : decode mJ13_bitCount_95d88.2.1 3 = .ok (.lushr, 1) := by decide +kernel
theorem dJ13_bitCount_95d88_4 : decode mJ13_bitCount_95d88.2.1 4 = .ok (.ldc2_w 314, 3) := by decide +kernel
theorem dJ13_bitCount_95d88_7 : decode mJ13_bitCount_95d88.2.1 7 = .ok (.land, 1) := by decide +kernel
theorem dJ13_bitCount_95d88_8 : decode mJ13_bitCount_95d88.2.1 8 = .ok (.lsub, 1) := by decide +kernel
theorem dJ13_bitCount_95d88_9 : decode mJ13_bitCount_95d88.2.1 9 = .ok (.lstore_n 0, 1) := by decide +kernel
theorem dJ13_bitCount_95d88_10 : decode mJ13_bitCount_95d88.2.1 10 = .ok (.lload_n 0, 1) := by decide +kernel
theorem dJ13_bitCount_95d88_11 : decode mJ13_bitCount_95d88.2.1 11 = .ok (.ldc2_w 316, 3) := by decide +kernel
theorem dJ13_bitCount_95d88_14 : decode mJ13_bitCount_95d88.2.1 14 = .ok (.land, 1) := by decide +kernel
theorem dJ13_bitCount_95d88_15 : decode mJ13_bitCount_95d88.2.1 15 = .ok (.lload_n 0, 1) := by decide +kernel
theorem dJ13_bitCount_95d88_16 : decode mJ13_bitCount_95d88.2.1 16 = .ok (.iconst 2, 1) := by decide +kernel
theorem dJ13_bitCount_95d88_17 : decode mJ13_bitCount_95d88.2.1 17 = .ok (.lushr, 1) := by decide +kernel
theorem dJ13_bitCount_95d88_18 : decode mJ13_bitCount_95d88.2.1 18 = .ok (.ldc2_w 316, 3) := by decide +kernel
theorem dJ13_bitCount_95d88_21 : decode mJ13_bitCount_95d88.2.1 21 = .ok (.land, 1) := by decide +kernel
theorem dJ13_bitCount_95d88_22 : decode mJ13_bitCount_95d88.2.1 22 = .ok (.ladd, 1) := by decide +kernel
theorem dJ13_bitCount_95d88_23 : decode mJ13_bitCount_95d88.2.1 23 = .ok (.lstore_n 0, 1) := by decide +kernel
theorem dJ13_bitCount_95d88_24 : decode mJ13_bitCount_95d88.2.1 24 = .ok (.lload_n 0, 1) := by decide +kernel
theorem dJ13_bitCount_95d88_25 : decode mJ13_bitCount_95d88.2.1 25 = .ok (.lload_n 0, 1) := by decide +kernel
theorem dJ13_bitCount_95d88_26 : decode mJ13_bitCount_95d88.2.1 26 = .ok (.iconst 4, 1) := by decide +kernel
theorem dJ13_bitCount_95d88_27 : decode mJ13_bitCount_95d88.2.1 27 = .ok (.lushr, 1) := by decide +kernel
theorem dJ13_bitCount_95d88_28 : decode mJ13_bitCount_95d88.2.1 28 = .ok (.ladd, 1) := by decide +kernel
theorem dJ13_bitCount_95d88_29 : decode mJ13_bitCount_95d88.2.1 29 = .ok (.ldc2_w 318, 3) := by decide +kernel
theorem dJ13_bitCount_95d88_32 : decode mJ13_bitCount_95d88.2.1 32 = .ok (.land, 1) := by decide +kernel
theorem dJ13_bitCount_95d88_33 : decode mJ13_bitCount_95d88.2.1 33 = .ok (.lstore_n 0, 1) := by decide +kernel
theorem dJ13_bitCount_95d88_34 : decode mJ13_bitCount_95d88.2.1 34 = .ok (.lload_n 0, 1) := by decide +kernel
theorem dJ13_bitCount_95d88_35 : decode mJ13_bitCount_95d88.2.1 35 = .ok (.lload_n 0, 1) := by decide +kernel
theorem dJ13_bitCount_95d88_36 : decode mJ13_bitCount_95d88.2.1 36 = .ok (.bipush 8, 2) := by decide +kernel
theorem dJ13_bitCount_95d88_38 : decode mJ13_bitCount_95d88.2.1 38 = .ok (.lushr, 1) := by decide +kernel
theorem dJ13_bitCount_95d88_39 : decode mJ13_bitCount_95d88.2.1 39 = .ok (.ladd, 1) := by decide +kernel
theorem dJ13_bitCount_95d88_40 : decode mJ13_bitCount_95d88.2.1 40 = .ok (.lstore_n 0, 1) := by decide +kernel
theorem dJ13_bitCount_95d88_41 : decode mJ13_bitCount_95d88.2.1 41 = .ok (.lload_n 0, 1) := by decide +kernel
theorem dJ13_bitCount_95d88_42 : decode mJ13_bitCount_95d88.2.1 42 = .ok (.lload_n 0, 1) := by decide +kernel
theorem dJ13_bitCount_95d88_43 : decode mJ13_bitCount_95d88.2.1 43 = .ok (.bipush 16, 2) := by decide +kernel
theorem dJ13_bitCount_95d88_45 : decode mJ13_bitCount_95d88.2.1 45 = .ok (.lushr, 1) := by decide +kernel
theorem dJ13_bitCount_95d88_46 : decode mJ13_bitCount_95d88.2.1 46 = .ok (.ladd, 1) := by decide +kernel
theorem dJ13_bitCount_95d88_47 : decode mJ13_bitCount_95d88.2.1 47 = .ok (.lstore_n 0, 1) := by decide +kernel
theorem dJ13_bitCount_95d88_48 : decode mJ13_bitCount_95d88.2.1 48 = .ok (.lload_n 0, 1) := by decide +kernel
theorem dJ13_bitCount_95d88_49 : decode mJ13_bitCount_95d88.2.1 49 = .ok (.lload_n 0, 1) := by decide +kernel
theorem dJ13_bitCount_95d88_50 : decode mJ13_bitCount_95d88.2.1 50 = .ok (.bipush 32, 2) := by decide +kernel
theorem dJ13_bitCount_95d88_52 : decode mJ13_bitCount_95d88.2.1 52 = .ok (.lushr, 1) := by decide +kernel
theorem dJ13_bitCount_95d88_53 : decode mJ13_bitCount_95d88.2.1 53 = .ok (.ladd, 1) := by decide +kernel
theorem dJ13_bitCount_95d88_54 : decode mJ13_bitCount_95d88.2.1 54 = .ok (.lstore_n 0, 1) := by decide +kernel
theorem dJ13_bitCount_95d88_55 : decode mJ13_bitCount_95d88.2.1 55 = .ok (.lload_n 0, 1) := by decide +kernel
theorem dJ13_bitCount_95d88_56 : decode mJ13_bitCount_95d88.2.1 56 = .ok (.l2i, 1) := by decide +kernel
theorem dJ13_bitCount_95d88_57 : decode mJ13_bitCount_95d88.2.1 57 = .ok (.bipush 127, 2) := by decide +kernel
theorem dJ13_bitCount_95d88_59 : decode mJ13_bitCount_95d88.2.1 59 = .ok (.iand, 1) := by decide +kernel
theorem dJ13_bitCount_95d88_60 : decode mJ13_bitCount_95d88.2.1 60 = .ok (.ireturn, 1) := by decide +kernel
