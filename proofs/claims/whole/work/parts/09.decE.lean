theorem dX7_traceNow_0 : decode mX7_traceNow.2.1 0 = .ok (.aload_n 0, 1) := by decide +kernel
theorem dX7_traceNow_1 : decode mX7_traceNow.2.1 1 = .ok (.iload_n 1, 1) := by decide +kernel
theorem dX7_traceNow_2 : decode mX7_traceNow.2.1 2 = .ok (.iload_n 2, 1) := by decide +kernel
theorem dX7_traceNow_3 : decode mX7_traceNow.2.1 3 = .ok (.invokevirtual 211, 3) := by decide +kernel
theorem dX7_traceNow_6 : decode mX7_traceNow.2.1 6 = .ok (.ifCond .ne 7, 3) := by decide +kernel
theorem dX7_traceNow_9 : decode mX7_traceNow.2.1 9 = .ok (.iconst (-1), 1) := by decide +kernel
theorem dX7_traceNow_10 : decode mX7_traceNow.2.1 10 = .ok (.goto 18, 3) := by decide +kernel
theorem dX7_traceNow_13 : decode mX7_traceNow.2.1 13 = .ok (.iload_n 3, 1) := by decide +kernel
theorem dX7_traceNow_14 : decode mX7_traceNow.2.1 14 = .ok (.ifCond .ne 10, 3) := by decide +kernel
theorem dX7_traceNow_17 : decode mX7_traceNow.2.1 17 = .ok (.aload_n 0, 1) := by decide +kernel
theorem dX7_traceNow_18 : decode mX7_traceNow.2.1 18 = .ok (.getfield 185, 3) := by decide +kernel
theorem dX7_traceNow_21 : decode mX7_traceNow.2.1 21 = .ok (.goto 7, 3) := by decide +kernel
theorem dX7_traceNow_24 : decode mX7_traceNow.2.1 24 = .ok (.aload_n 0, 1) := by decide +kernel
theorem dX7_traceNow_25 : decode mX7_traceNow.2.1 25 = .ok (.getfield 198, 3) := by decide +kernel
theorem dX7_traceNow_28 : decode mX7_traceNow.2.1 28 = .ok (.ireturn, 1) := by decide +kernel
theorem dX7_trace_0 : decode mX7_trace.2.1 0 = .ok (.aload_n 0, 1) := by decide +kernel
theorem dX7_trace_1 : decode mX7_trace.2.1 1 = .ok (.iload_n 1, 1) := by decide +kernel
theorem dX7_trace_2 : decode mX7_trace.2.1 2 = .ok (.iload_n 2, 1) := by decide +kernel
theorem dX7_trace_3 : decode mX7_trace.2.1 3 = .ok (.invokevirtual 176, 3) := by decide +kernel
theorem dX7_trace_6 : decode mX7_trace.2.1 6 = .ok (.ifCond .ne 7, 3) := by decide +kernel
theorem dX7_trace_9 : decode mX7_trace.2.1 9 = .ok (.sipush (-1001), 3) := by decide +kernel
theorem dX7_trace_12 : decode mX7_trace.2.1 12 = .ok (.ireturn, 1) := by decide +kernel
theorem dX7_trace_13 : decode mX7_trace.2.1 13 = .ok (.iload_n 3, 1) := by decide +kernel
theorem dX7_trace_14 : decode mX7_trace.2.1 14 = .ok (.iconst 0, 1) := by decide +kernel
theorem dX7_trace_15 : decode mX7_trace.2.1 15 = .ok (.iconst 1, 1) := by decide +kernel
theorem dX7_trace_16 : decode mX7_trace.2.1 16 = .ok (.invokestatic 77, 3) := by decide +kernel
theorem dX7_trace_19 : decode mX7_trace.2.1 19 = .ok (.ifCond .eq 13, 3) := by decide +kernel
theorem dX7_trace_22 : decode mX7_trace.2.1 22 = .ok (.aload_n 0, 1) := by decide +kernel
theorem dX7_trace_23 : decode mX7_trace.2.1 23 = .ok (.iload_n 1, 1) := by decide +kernel
theorem dX7_trace_24 : decode mX7_trace.2.1 24 = .ok (.iload_n 2, 1) := by decide +kernel
theorem dX7_trace_25 : decode mX7_trace.2.1 25 = .ok (.iload_n 3, 1) := by decide +kernel
theorem dX7_trace_26 : decode mX7_trace.2.1 26 = .ok (.invokevirtual 214, 3) := by decide +kernel
theorem dX7_trace_29 : decode mX7_trace.2.1 29 = .ok (.goto 6, 3) := by decide +kernel
theorem dX7_trace_32 : decode mX7_trace.2.1 32 = .ok (.sipush (-1002), 3) := by decide +kernel
theorem dX7_trace_35 : decode mX7_trace.2.1 35 = .ok (.ireturn, 1) := by decide +kernel
theorem dX7_event_0 : decode mX7_event.2.1 0 = .ok (.aload_n 0, 1) := by decide +kernel
theorem dX7_event_1 : decode mX7_event.2.1 1 = .ok (.iload_n 1, 1) := by decide +kernel
theorem dX7_event_2 : decode mX7_event.2.1 2 = .ok (.iload_n 2, 1) := by decide +kernel
theorem dX7_event_3 : decode mX7_event.2.1 3 = .ok (.invokevirtual 176, 3) := by decide +kernel
theorem dX7_event_6 : decode mX7_event.2.1 6 = .ok (.ifCond .eq 26, 3) := by decide +kernel
theorem dX7_event_9 : decode mX7_event.2.1 9 = .ok (.aload_n 0, 1) := by decide +kernel
theorem dX7_event_10 : decode mX7_event.2.1 10 = .ok (.iload_n 1, 1) := by decide +kernel
theorem dX7_event_11 : decode mX7_event.2.1 11 = .ok (.iload_n 2, 1) := by decide +kernel
theorem dX7_event_12 : decode mX7_event.2.1 12 = .ok (.invokevirtual 211, 3) := by decide +kernel
theorem dX7_event_15 : decode mX7_event.2.1 15 = .ok (.ifCond .eq 17, 3) := by decide +kernel
theorem dX7_event_18 : decode mX7_event.2.1 18 = .ok (.iload_n 3, 1) := by decide +kernel
theorem dX7_event_19 : decode mX7_event.2.1 19 = .ok (.iconst 0, 1) := by decide +kernel
theorem dX7_event_20 : decode mX7_event.2.1 20 = .ok (.aload_n 0, 1) := by decide +kernel
theorem dX7_event_21 : decode mX7_event.2.1 21 = .ok (.getfield 185, 3) := by decide +kernel
theorem dX7_event_24 : decode mX7_event.2.1 24 = .ok (.iconst 1, 1) := by decide +kernel
theorem dX7_event_25 : decode mX7_event.2.1 25 = .ok (.isub, 1) := by decide +kernel
theorem dX7_event_26 : decode mX7_event.2.1 26 = .ok (.invokestatic 77, 3) := by decide +kernel
theorem dX7_event_29 : decode mX7_event.2.1 29 = .ok (.ifCond .ne 7, 3) := by decide +kernel
theorem dX7_event_32 : decode mX7_event.2.1 32 = .ok (.sipush (-1001), 3) := by decide +kernel
theorem dX7_event_35 : decode mX7_event.2.1 35 = .ok (.ireturn, 1) := by decide +kernel
theorem dX7_event_36 : decode mX7_event.2.1 36 = .ok (.iload 4, 2) := by decide +kernel
theorem dX7_event_38 : decode mX7_event.2.1 38 = .ok (.ifCond .ne 12, 3) := by decide +kernel
theorem dX7_event_41 : decode mX7_event.2.1 41 = .ok (.aload_n 0, 1) := by decide +kernel
theorem dX7_event_42 : decode mX7_event.2.1 42 = .ok (.getfield 53, 3) := by decide +kernel
theorem dX7_event_45 : decode mX7_event.2.1 45 = .ok (.iload_n 3, 1) := by decide +kernel
theorem dX7_event_46 : decode mX7_event.2.1 46 = .ok (.iaload, 1) := by decide +kernel
theorem dX7_event_47 : decode mX7_event.2.1 47 = .ok (.goto 21, 3) := by decide +kernel
theorem dX7_event_50 : decode mX7_event.2.1 50 = .ok (.iload 4, 2) := by decide +kernel
theorem dX7_event_52 : decode mX7_event.2.1 52 = .ok (.iconst 1, 1) := by decide +kernel
theorem dX7_event_53 : decode mX7_event.2.1 53 = .ok (.if_icmp .ne 12, 3) := by decide +kernel
theorem dX7_event_56 : decode mX7_event.2.1 56 = .ok (.aload_n 0, 1) := by decide +kernel
theorem dX7_event_57 : decode mX7_event.2.1 57 = .ok (.getfield 56, 3) := by decide +kernel
theorem dX7_event_60 : decode mX7_event.2.1 60 = .ok (.iload_n 3, 1) := by decide +kernel
theorem dX7_event_61 : decode mX7_event.2.1 61 = .ok (.iaload, 1) := by decide +kernel
theorem dX7_event_62 : decode mX7_event.2.1 62 = .ok (.goto 6, 3) := by decide +kernel
theorem dX7_event_65 : decode mX7_event.2.1 65 = .ok (.sipush (-1002), 3) := by decide +kernel
theorem dX7_event_68 : decode mX7_event.2.1 68 = .ok (.ireturn, 1) := by decide +kernel
theorem dX7_layTried_0 : decode mX7_layTried.2.1 0 = .ok (.iconst 0, 1) := by decide +kernel
theorem dX7_layTried_1 : decode mX7_layTried.2.1 1 = .ok (.istore_n 1, 1) := by decide +kernel
theorem dX7_layTried_2 : decode mX7_layTried.2.1 2 = .ok (.iload_n 1, 1) := by decide +kernel
theorem dX7_layTried_3 : decode mX7_layTried.2.1 3 = .ok (.bipush 96, 2) := by decide +kernel
theorem dX7_layTried_5 : decode mX7_layTried.2.1 5 = .ok (.if_icmp .ge 24, 3) := by decide +kernel
theorem dX7_layTried_8 : decode mX7_layTried.2.1 8 = .ok (.aload_n 0, 1) := by decide +kernel
theorem dX7_layTried_9 : decode mX7_layTried.2.1 9 = .ok (.getfield 20, 3) := by decide +kernel
theorem dX7_layTried_12 : decode mX7_layTried.2.1 12 = .ok (.bipush 96, 2) := by decide +kernel
theorem dX7_layTried_14 : decode mX7_layTried.2.1 14 = .ok (.iload_n 1, 1) := by decide +kernel
theorem dX7_layTried_15 : decode mX7_layTried.2.1 15 = .ok (.iadd, 1) := by decide +kernel
theorem dX7_layTried_16 : decode mX7_layTried.2.1 16 = .ok (.aload_n 0, 1) := by decide +kernel
theorem dX7_layTried_17 : decode mX7_layTried.2.1 17 = .ok (.getfield 20, 3) := by decide +kernel
theorem dX7_layTried_20 : decode mX7_layTried.2.1 20 = .ok (.iload_n 1, 1) := by decide +kernel
theorem dX7_layTried_21 : decode mX7_layTried.2.1 21 = .ok (.iaload, 1) := by decide +kernel
theorem dX7_layTried_22 : decode mX7_layTried.2.1 22 = .ok (.iastore, 1) := by decide +kernel
theorem dX7_layTried_23 : decode mX7_layTried.2.1 23 = .ok (.iinc 1 1, 3) := by decide +kernel
theorem dX7_layTried_26 : decode mX7_layTried.2.1 26 = .ok (.goto (-24), 3) := by decide +kernel
theorem dX7_layTried_29 : decode mX7_layTried.2.1 29 = .ok (.iconst 0, 1) := by decide +kernel
theorem dX7_layTried_30 : decode mX7_layTried.2.1 30 = .ok (.istore_n 1, 1) := by decide +kernel
theorem dX7_layTried_31 : decode mX7_layTried.2.1 31 = .ok (.iload_n 1, 1) := by decide +kernel
theorem dX7_layTried_32 : decode mX7_layTried.2.1 32 = .ok (.bipush 8, 2) := by decide +kernel
theorem dX7_layTried_34 : decode mX7_layTried.2.1 34 = .ok (.if_icmp .ge 24, 3) := by decide +kernel
theorem dX7_layTried_37 : decode mX7_layTried.2.1 37 = .ok (.aload_n 0, 1) := by decide +kernel
theorem dX7_layTried_38 : decode mX7_layTried.2.1 38 = .ok (.getfield 23, 3) := by decide +kernel
theorem dX7_layTried_41 : decode mX7_layTried.2.1 41 = .ok (.bipush 8, 2) := by decide +kernel
theorem dX7_layTried_43 : decode mX7_layTried.2.1 43 = .ok (.iload_n 1, 1) := by decide +kernel
theorem dX7_layTried_44 : decode mX7_layTried.2.1 44 = .ok (.iadd, 1) := by decide +kernel
theorem dX7_layTried_45 : decode mX7_layTried.2.1 45 = .ok (.aload_n 0, 1) := by decide +kernel
theorem dX7_layTried_46 : decode mX7_layTried.2.1 46 = .ok (.getfield 23, 3) := by decide +kernel
theorem dX7_layTried_49 : decode mX7_layTried.2.1 49 = .ok (.iload_n 1, 1) := by decide +kernel
theorem dX7_layTried_50 : decode mX7_layTried.2.1 50 = .ok (.iaload, 1) := by decide +kernel
theorem dX7_layTried_51 : decode mX7_layTried.2.1 51 = .ok (.iastore, 1) := by decide +kernel
theorem dX7_layTried_52 : decode mX7_layTried.2.1 52 = .ok (.iinc 1 1, 3) := by decide +kernel
theorem dX7_layTried_55 : decode mX7_layTried.2.1 55 = .ok (.goto (-24), 3) := by decide +kernel
theorem dX7_layTried_58 : decode mX7_layTried.2.1 58 = .ok (.return_, 1) := by decide +kernel
theorem dX7_lay_0 : decode mX7_lay.2.1 0 = .ok (.aload_n 0, 1) := by decide +kernel
theorem dX7_lay_1 : decode mX7_lay.2.1 1 = .ok (.getfield 20, 3) := by decide +kernel
theorem dX7_lay_4 : decode mX7_lay.2.1 4 = .ok (.bipush 96, 2) := by decide +kernel
theorem dX7_lay_6 : decode mX7_lay.2.1 6 = .ok (.iload_n 1, 1) := by decide +kernel
theorem dX7_lay_7 : decode mX7_lay.2.1 7 = .ok (.imul, 1) := by decide +kernel
theorem dX7_lay_8 : decode mX7_lay.2.1 8 = .ok (.bipush 12, 2) := by decide +kernel
theorem dX7_lay_10 : decode mX7_lay.2.1 10 = .ok (.iload_n 2, 1) := by decide +kernel
theorem dX7_lay_11 : decode mX7_lay.2.1 11 = .ok (.imul, 1) := by decide +kernel
theorem dX7_lay_12 : decode mX7_lay.2.1 12 = .ok (.iadd, 1) := by decide +kernel
theorem dX7_lay_13 : decode mX7_lay.2.1 13 = .ok (.iload_n 3, 1) := by decide +kernel
theorem dX7_lay_14 : decode mX7_lay.2.1 14 = .ok (.iadd, 1) := by decide +kernel
theorem dX7_lay_15 : decode mX7_lay.2.1 15 = .ok (.iload 4, 2) := by decide +kernel
theorem dX7_lay_17 : decode mX7_lay.2.1 17 = .ok (.iastore, 1) := by decide +kernel
theorem dX7_lay_18 : decode mX7_lay.2.1 18 = .ok (.aload_n 0, 1) := by decide +kernel
theorem dX7_lay_19 : decode mX7_lay.2.1 19 = .ok (.getfield 23, 3) := by decide +kernel
theorem dX7_lay_22 : decode mX7_lay.2.1 22 = .ok (.bipush 8, 2) := by decide +kernel
theorem dX7_lay_24 : decode mX7_lay.2.1 24 = .ok (.iload_n 1, 1) := by decide +kernel
theorem dX7_lay_25 : decode mX7_lay.2.1 25 = .ok (.imul, 1) := by decide +kernel
theorem dX7_lay_26 : decode mX7_lay.2.1 26 = .ok (.iload_n 2, 1) := by decide +kernel
theorem dX7_lay_27 : decode mX7_lay.2.1 27 = .ok (.iadd, 1) := by decide +kernel
theorem dX7_lay_28 : decode mX7_lay.2.1 28 = .ok (.iaload, 1) := by decide +kernel
theorem dX7_lay_29 : decode mX7_lay.2.1 29 = .ok (.iconst 1, 1) := by decide +kernel
theorem dX7_lay_30 : decode mX7_lay.2.1 30 = .ok (.iload_n 3, 1) := by decide +kernel
theorem dX7_lay_31 : decode mX7_lay.2.1 31 = .ok (.ishl, 1) := by decide +kernel
theorem dX7_lay_32 : decode mX7_lay.2.1 32 = .ok (.iconst (-1), 1) := by decide +kernel
theorem dX7_lay_33 : decode mX7_lay.2.1 33 = .ok (.ixor, 1) := by decide +kernel
theorem dX7_lay_34 : decode mX7_lay.2.1 34 = .ok (.iand, 1) := by decide +kernel
theorem dX7_lay_35 : decode mX7_lay.2.1 35 = .ok (.istore 6, 2) := by decide +kernel
theorem dX7_lay_37 : decode mX7_lay.2.1 37 = .ok (.aload_n 0, 1) := by decide +kernel
theorem dX7_lay_38 : decode mX7_lay.2.1 38 = .ok (.getfield 23, 3) := by decide +kernel
theorem dX7_lay_41 : decode mX7_lay.2.1 41 = .ok (.bipush 8, 2) := by decide +kernel
theorem dX7_lay_43 : decode mX7_lay.2.1 43 = .ok (.iload_n 1, 1) := by decide +kernel
theorem dX7_lay_44 : decode mX7_lay.2.1 44 = .ok (.imul, 1) := by decide +kernel
theorem dX7_lay_45 : decode mX7_lay.2.1 45 = .ok (.iload_n 2, 1) := by decide +kernel
theorem dX7_lay_46 : decode mX7_lay.2.1 46 = .ok (.iadd, 1) := by decide +kernel
theorem dX7_lay_47 : decode mX7_lay.2.1 47 = .ok (.iload 4, 2) := by decide +kernel
theorem dX7_lay_49 : decode mX7_lay.2.1 49 = .ok (.iconst (-1), 1) := by decide +kernel
theorem dX7_lay_50 : decode mX7_lay.2.1 50 = .ok (.if_icmp .eq 17, 3) := by decide +kernel
theorem dX7_lay_53 : decode mX7_lay.2.1 53 = .ok (.iload 5, 2) := by decide +kernel
theorem dX7_lay_55 : decode mX7_lay.2.1 55 = .ok (.ifCond .eq 12, 3) := by decide +kernel
theorem dX7_lay_58 : decode mX7_lay.2.1 58 = .ok (.iload 6, 2) := by decide +kernel
theorem dX7_lay_60 : decode mX7_lay.2.1 60 = .ok (.iconst 1, 1) := by decide +kernel
theorem dX7_lay_61 : decode mX7_lay.2.1 61 = .ok (.iload_n 3, 1) := by decide +kernel
theorem dX7_lay_62 : decode mX7_lay.2.1 62 = .ok (.ishl, 1) := by decide +kernel
theorem dX7_lay_63 : decode mX7_lay.2.1 63 = .ok (.ior, 1) := by decide +kernel
theorem dX7_lay_64 : decode mX7_lay.2.1 64 = .ok (.goto 5, 3) := by decide +kernel
theorem dX7_lay_67 : decode mX7_lay.2.1 67 = .ok (.iload 6, 2) := by decide +kernel
theorem dX7_lay_69 : decode mX7_lay.2.1 69 = .ok (.iastore, 1) := by decide +kernel
theorem dX7_lay_70 : decode mX7_lay.2.1 70 = .ok (.return_, 1) := by decide +kernel
theorem dX7_tryMove_0 : decode mX7_tryMove.2.1 0 = .ok (.aload_n 0, 1) := by decide +kernel
theorem dX7_tryMove_1 : decode mX7_tryMove.2.1 1 = .ok (.invokevirtual 217, 3) := by decide +kernel
theorem dX7_tryMove_4 : decode mX7_tryMove.2.1 4 = .ok (.aload_n 0, 1) := by decide +kernel
theorem dX7_tryMove_5 : decode mX7_tryMove.2.1 5 = .ok (.getfield 20, 3) := by decide +kernel
theorem dX7_tryMove_8 : decode mX7_tryMove.2.1 8 = .ok (.bipush 12, 2) := by decide +kernel
theorem dX7_tryMove_10 : decode mX7_tryMove.2.1 10 = .ok (.iload_n 1, 1) := by decide +kernel
theorem dX7_tryMove_11 : decode mX7_tryMove.2.1 11 = .ok (.imul, 1) := by decide +kernel
theorem dX7_tryMove_12 : decode mX7_tryMove.2.1 12 = .ok (.iload_n 2, 1) := by decide +kernel
theorem dX7_tryMove_13 : decode mX7_tryMove.2.1 13 = .ok (.iadd, 1) := by decide +kernel
theorem dX7_tryMove_14 : decode mX7_tryMove.2.1 14 = .ok (.iaload, 1) := by decide +kernel
theorem dX7_tryMove_15 : decode mX7_tryMove.2.1 15 = .ok (.istore 4, 2) := by decide +kernel
theorem dX7_tryMove_17 : decode mX7_tryMove.2.1 17 = .ok (.aload_n 0, 1) := by decide +kernel
theorem dX7_tryMove_18 : decode mX7_tryMove.2.1 18 = .ok (.getfield 23, 3) := by decide +kernel
theorem dX7_tryMove_21 : decode mX7_tryMove.2.1 21 = .ok (.iload_n 1, 1) := by decide +kernel
theorem dX7_tryMove_22 : decode mX7_tryMove.2.1 22 = .ok (.iaload, 1) := by decide +kernel
theorem dX7_tryMove_23 : decode mX7_tryMove.2.1 23 = .ok (.iload_n 2, 1) := by decide +kernel
theorem dX7_tryMove_24 : decode mX7_tryMove.2.1 24 = .ok (.invokestatic 92, 3) := by decide +kernel
theorem dX7_tryMove_27 : decode mX7_tryMove.2.1 27 = .ok (.istore 5, 2) := by decide +kernel
theorem dX7_tryMove_29 : decode mX7_tryMove.2.1 29 = .ok (.aload_n 0, 1) := by decide +kernel
theorem dX7_tryMove_30 : decode mX7_tryMove.2.1 30 = .ok (.getfield 13, 3) := by decide +kernel
theorem dX7_tryMove_33 : decode mX7_tryMove.2.1 33 = .ok (.iload_n 1, 1) := by decide +kernel
theorem dX7_tryMove_34 : decode mX7_tryMove.2.1 34 = .ok (.iaload, 1) := by decide +kernel
theorem dX7_tryMove_35 : decode mX7_tryMove.2.1 35 = .ok (.istore 6, 2) := by decide +kernel
theorem dX7_tryMove_37 : decode mX7_tryMove.2.1 37 = .ok (.iconst 0, 1) := by decide +kernel
theorem dX7_tryMove_38 : decode mX7_tryMove.2.1 38 = .ok (.istore 7, 2) := by decide +kernel
theorem dX7_tryMove_40 : decode mX7_tryMove.2.1 40 = .ok (.iload 7, 2) := by decide +kernel
theorem dX7_tryMove_42 : decode mX7_tryMove.2.1 42 = .ok (.aload_n 0, 1) := by decide +kernel
theorem dX7_tryMove_43 : decode mX7_tryMove.2.1 43 = .ok (.getfield 112, 3) := by decide +kernel
theorem dX7_tryMove_46 : decode mX7_tryMove.2.1 46 = .ok (.if_icmp .ge 123, 3) := by decide +kernel
theorem dX7_tryMove_49 : decode mX7_tryMove.2.1 49 = .ok (.iload_n 3, 1) := by decide +kernel
theorem dX7_tryMove_50 : decode mX7_tryMove.2.1 50 = .ok (.ifCond .eq 19, 3) := by decide +kernel
theorem dX7_tryMove_53 : decode mX7_tryMove.2.1 53 = .ok (.aload_n 0, 1) := by decide +kernel
theorem dX7_tryMove_54 : decode mX7_tryMove.2.1 54 = .ok (.getfield 13, 3) := by decide +kernel
theorem dX7_tryMove_57 : decode mX7_tryMove.2.1 57 = .ok (.iload 7, 2) := by decide +kernel
theorem dX7_tryMove_59 : decode mX7_tryMove.2.1 59 = .ok (.iaload, 1) := by decide +kernel
theorem dX7_tryMove_60 : decode mX7_tryMove.2.1 60 = .ok (.iload 6, 2) := by decide +kernel
theorem dX7_tryMove_62 : decode mX7_tryMove.2.1 62 = .ok (.if_icmp .ne 7, 3) := by decide +kernel
theorem dX7_tryMove_65 : decode mX7_tryMove.2.1 65 = .ok (.iconst 1, 1) := by decide +kernel
theorem dX7_tryMove_66 : decode mX7_tryMove.2.1 66 = .ok (.goto 4, 3) := by decide +kernel
theorem dX7_tryMove_69 : decode mX7_tryMove.2.1 69 = .ok (.iconst 0, 1) := by decide +kernel
theorem dX7_tryMove_70 : decode mX7_tryMove.2.1 70 = .ok (.istore 8, 2) := by decide +kernel
theorem dX7_tryMove_72 : decode mX7_tryMove.2.1 72 = .ok (.iload 8, 2) := by decide +kernel
theorem dX7_tryMove_74 : decode mX7_tryMove.2.1 74 = .ok (.ifCond .eq 46, 3) := by decide +kernel
theorem dX7_tryMove_77 : decode mX7_tryMove.2.1 77 = .ok (.aload_n 0, 1) := by decide +kernel
theorem dX7_tryMove_78 : decode mX7_tryMove.2.1 78 = .ok (.getfield 20, 3) := by decide +kernel
theorem dX7_tryMove_81 : decode mX7_tryMove.2.1 81 = .ok (.bipush 12, 2) := by decide +kernel
theorem dX7_tryMove_83 : decode mX7_tryMove.2.1 83 = .ok (.iload 7, 2) := by decide +kernel
theorem dX7_tryMove_85 : decode mX7_tryMove.2.1 85 = .ok (.imul, 1) := by decide +kernel
theorem dX7_tryMove_86 : decode mX7_tryMove.2.1 86 = .ok (.iload_n 2, 1) := by decide +kernel
theorem dX7_tryMove_87 : decode mX7_tryMove.2.1 87 = .ok (.iadd, 1) := by decide +kernel
theorem dX7_tryMove_88 : decode mX7_tryMove.2.1 88 = .ok (.iaload, 1) := by decide +kernel
theorem dX7_tryMove_89 : decode mX7_tryMove.2.1 89 = .ok (.iload 4, 2) := by decide +kernel
theorem dX7_tryMove_91 : decode mX7_tryMove.2.1 91 = .ok (.if_icmp .ne 29, 3) := by decide +kernel
theorem dX7_tryMove_94 : decode mX7_tryMove.2.1 94 = .ok (.aload_n 0, 1) := by decide +kernel
theorem dX7_tryMove_95 : decode mX7_tryMove.2.1 95 = .ok (.getfield 23, 3) := by decide +kernel
theorem dX7_tryMove_98 : decode mX7_tryMove.2.1 98 = .ok (.iload 7, 2) := by decide +kernel
theorem dX7_tryMove_100 : decode mX7_tryMove.2.1 100 = .ok (.iaload, 1) := by decide +kernel
theorem dX7_tryMove_101 : decode mX7_tryMove.2.1 101 = .ok (.iload_n 2, 1) := by decide +kernel
theorem dX7_tryMove_102 : decode mX7_tryMove.2.1 102 = .ok (.invokestatic 92, 3) := by decide +kernel
theorem dX7_tryMove_105 : decode mX7_tryMove.2.1 105 = .ok (.iload 5, 2) := by decide +kernel
theorem dX7_tryMove_107 : decode mX7_tryMove.2.1 107 = .ok (.if_icmp .ne 13, 3) := by decide +kernel
theorem dX7_tryMove_110 : decode mX7_tryMove.2.1 110 = .ok (.aload_n 0, 1) := by decide +kernel
theorem dX7_tryMove_111 : decode mX7_tryMove.2.1 111 = .ok (.iconst 1, 1) := by decide +kernel
theorem dX7_tryMove_112 : decode mX7_tryMove.2.1 112 = .ok (.iload 7, 2) := by decide +kernel
theorem dX7_tryMove_114 : decode mX7_tryMove.2.1 114 = .ok (.iload_n 2, 1) := by decide +kernel
theorem dX7_tryMove_115 : decode mX7_tryMove.2.1 115 = .ok (.iconst (-1), 1) := by decide +kernel
theorem dX7_tryMove_116 : decode mX7_tryMove.2.1 116 = .ok (.iconst 0, 1) := by decide +kernel
theorem dX7_tryMove_117 : decode mX7_tryMove.2.1 117 = .ok (.invokevirtual 220, 3) := by decide +kernel
theorem dX7_tryMove_120 : decode mX7_tryMove.2.1 120 = .ok (.iload_n 3, 1) := by decide +kernel
theorem dX7_tryMove_121 : decode mX7_tryMove.2.1 121 = .ok (.ifCond .ne 42, 3) := by decide +kernel
theorem dX7_tryMove_124 : decode mX7_tryMove.2.1 124 = .ok (.aload_n 0, 1) := by decide +kernel
theorem dX7_tryMove_125 : decode mX7_tryMove.2.1 125 = .ok (.getfield 13, 3) := by decide +kernel
theorem dX7_tryMove_128 : decode mX7_tryMove.2.1 128 = .ok (.iload 7, 2) := by decide +kernel
theorem dX7_tryMove_130 : decode mX7_tryMove.2.1 130 = .ok (.iaload, 1) := by decide +kernel
theorem dX7_tryMove_131 : decode mX7_tryMove.2.1 131 = .ok (.iload_n 1, 1) := by decide +kernel
theorem dX7_tryMove_132 : decode mX7_tryMove.2.1 132 = .ok (.if_icmp .ne 31, 3) := by decide +kernel
theorem dX7_tryMove_135 : decode mX7_tryMove.2.1 135 = .ok (.aload_n 0, 1) := by decide +kernel
theorem dX7_tryMove_136 : decode mX7_tryMove.2.1 136 = .ok (.getfield 20, 3) := by decide +kernel
theorem dX7_tryMove_139 : decode mX7_tryMove.2.1 139 = .ok (.bipush 12, 2) := by decide +kernel
theorem dX7_tryMove_141 : decode mX7_tryMove.2.1 141 = .ok (.iload 7, 2) := by decide +kernel
theorem dX7_tryMove_143 : decode mX7_tryMove.2.1 143 = .ok (.imul, 1) := by decide +kernel
theorem dX7_tryMove_144 : decode mX7_tryMove.2.1 144 = .ok (.iload_n 2, 1) := by decide +kernel
theorem dX7_tryMove_145 : decode mX7_tryMove.2.1 145 = .ok (.iadd, 1) := by decide +kernel
theorem dX7_tryMove_146 : decode mX7_tryMove.2.1 146 = .ok (.iaload, 1) := by decide +kernel
theorem dX7_tryMove_147 : decode mX7_tryMove.2.1 147 = .ok (.iconst (-1), 1) := by decide +kernel
theorem dX7_tryMove_148 : decode mX7_tryMove.2.1 148 = .ok (.if_icmp .ne 15, 3) := by decide +kernel
theorem dX7_tryMove_151 : decode mX7_tryMove.2.1 151 = .ok (.aload_n 0, 1) := by decide +kernel
theorem dX7_tryMove_152 : decode mX7_tryMove.2.1 152 = .ok (.iconst 1, 1) := by decide +kernel
theorem dX7_tryMove_153 : decode mX7_tryMove.2.1 153 = .ok (.iload 7, 2) := by decide +kernel
theorem dX7_tryMove_155 : decode mX7_tryMove.2.1 155 = .ok (.iload_n 2, 1) := by decide +kernel
theorem dX7_tryMove_156 : decode mX7_tryMove.2.1 156 = .ok (.iload 4, 2) := by decide +kernel
theorem dX7_tryMove_158 : decode mX7_tryMove.2.1 158 = .ok (.iload 5, 2) := by decide +kernel
theorem dX7_tryMove_160 : decode mX7_tryMove.2.1 160 = .ok (.invokevirtual 220, 3) := by decide +kernel
theorem dX7_tryMove_163 : decode mX7_tryMove.2.1 163 = .ok (.iinc 7 1, 3) := by decide +kernel
theorem dX7_tryMove_166 : decode mX7_tryMove.2.1 166 = .ok (.goto (-126), 3) := by decide +kernel
theorem dX7_tryMove_169 : decode mX7_tryMove.2.1 169 = .ok (.iload_n 3, 1) := by decide +kernel
theorem dX7_tryMove_170 : decode mX7_tryMove.2.1 170 = .ok (.ifCond .eq 18, 3) := by decide +kernel
theorem dX7_tryMove_173 : decode mX7_tryMove.2.1 173 = .ok (.aload_n 0, 1) := by decide +kernel
theorem dX7_tryMove_174 : decode mX7_tryMove.2.1 174 = .ok (.iconst 1, 1) := by decide +kernel
theorem dX7_tryMove_175 : decode mX7_tryMove.2.1 175 = .ok (.iload 6, 2) := by decide +kernel
theorem dX7_tryMove_177 : decode mX7_tryMove.2.1 177 = .ok (.iload_n 2, 1) := by decide +kernel
theorem dX7_tryMove_178 : decode mX7_tryMove.2.1 178 = .ok (.iload 4, 2) := by decide +kernel
theorem dX7_tryMove_180 : decode mX7_tryMove.2.1 180 = .ok (.iload 5, 2) := by decide +kernel
theorem dX7_tryMove_182 : decode mX7_tryMove.2.1 182 = .ok (.invokevirtual 220, 3) := by decide +kernel
theorem dX7_tryMove_185 : decode mX7_tryMove.2.1 185 = .ok (.goto 12, 3) := by decide +kernel
theorem dX7_tryMove_188 : decode mX7_tryMove.2.1 188 = .ok (.aload_n 0, 1) := by decide +kernel
theorem dX7_tryMove_189 : decode mX7_tryMove.2.1 189 = .ok (.iconst 1, 1) := by decide +kernel
theorem dX7_tryMove_190 : decode mX7_tryMove.2.1 190 = .ok (.iload_n 1, 1) := by decide +kernel
theorem dX7_tryMove_191 : decode mX7_tryMove.2.1 191 = .ok (.iload_n 2, 1) := by decide +kernel
theorem dX7_tryMove_192 : decode mX7_tryMove.2.1 192 = .ok (.iconst (-1), 1) := by decide +kernel
theorem dX7_tryMove_193 : decode mX7_tryMove.2.1 193 = .ok (.iconst 0, 1) := by decide +kernel
theorem dX7_tryMove_194 : decode mX7_tryMove.2.1 194 = .ok (.invokevirtual 220, 3) := by decide +kernel
theorem dX7_tryMove_197 : decode mX7_tryMove.2.1 197 = .ok (.return_, 1) := by decide +kernel
theorem dX7_missesBelow_0 : decode mX7_missesBelow.2.1 0 = .ok (.iconst 0, 1) := by decide +kernel
theorem dX7_missesBelow_1 : decode mX7_missesBelow.2.1 1 = .ok (.istore_n 3, 1) := by decide +kernel
theorem dX7_missesBelow_2 : decode mX7_missesBelow.2.1 2 = .ok (.iconst 0, 1) := by decide +kernel
theorem dX7_missesBelow_3 : decode mX7_missesBelow.2.1 3 = .ok (.istore 4, 2) := by decide +kernel
theorem dX7_missesBelow_5 : decode mX7_missesBelow.2.1 5 = .ok (.iload 4, 2) := by decide +kernel
theorem dX7_missesBelow_7 : decode mX7_missesBelow.2.1 7 = .ok (.aload_n 0, 1) := by decide +kernel
theorem dX7_missesBelow_8 : decode mX7_missesBelow.2.1 8 = .ok (.getfield 112, 3) := by decide +kernel
theorem dX7_missesBelow_11 : decode mX7_missesBelow.2.1 11 = .ok (.if_icmp .ge 44, 3) := by decide +kernel
theorem dX7_missesBelow_14 : decode mX7_missesBelow.2.1 14 = .ok (.iload_n 3, 1) := by decide +kernel
theorem dX7_missesBelow_15 : decode mX7_missesBelow.2.1 15 = .ok (.aload_n 0, 1) := by decide +kernel
theorem dX7_missesBelow_16 : decode mX7_missesBelow.2.1 16 = .ok (.getfield 13, 3) := by decide +kernel
theorem dX7_missesBelow_19 : decode mX7_missesBelow.2.1 19 = .ok (.iload 4, 2) := by decide +kernel
theorem dX7_missesBelow_21 : decode mX7_missesBelow.2.1 21 = .ok (.iaload, 1) := by decide +kernel
theorem dX7_missesBelow_22 : decode mX7_missesBelow.2.1 22 = .ok (.iload_n 1, 1) := by decide +kernel
theorem dX7_missesBelow_23 : decode mX7_missesBelow.2.1 23 = .ok (.if_icmp .ne 23, 3) := by decide +kernel
theorem dX7_missesBelow_26 : decode mX7_missesBelow.2.1 26 = .ok (.aload_n 0, 1) := by decide +kernel
theorem dX7_missesBelow_27 : decode mX7_missesBelow.2.1 27 = .ok (.getfield 20, 3) := by decide +kernel
theorem dX7_missesBelow_30 : decode mX7_missesBelow.2.1 30 = .ok (.bipush 12, 2) := by decide +kernel
theorem dX7_missesBelow_32 : decode mX7_missesBelow.2.1 32 = .ok (.iload 4, 2) := by decide +kernel
theorem dX7_missesBelow_34 : decode mX7_missesBelow.2.1 34 = .ok (.imul, 1) := by decide +kernel
theorem dX7_missesBelow_35 : decode mX7_missesBelow.2.1 35 = .ok (.iload_n 2, 1) := by decide +kernel
theorem dX7_missesBelow_36 : decode mX7_missesBelow.2.1 36 = .ok (.iadd, 1) := by decide +kernel
theorem dX7_missesBelow_37 : decode mX7_missesBelow.2.1 37 = .ok (.iaload, 1) := by decide +kernel
theorem dX7_missesBelow_38 : decode mX7_missesBelow.2.1 38 = .ok (.iconst (-1), 1) := by decide +kernel
theorem dX7_missesBelow_39 : decode mX7_missesBelow.2.1 39 = .ok (.if_icmp .ne 7, 3) := by decide +kernel
theorem dX7_missesBelow_42 : decode mX7_missesBelow.2.1 42 = .ok (.iconst 1, 1) := by decide +kernel
theorem dX7_missesBelow_43 : decode mX7_missesBelow.2.1 43 = .ok (.goto 4, 3) := by decide +kernel
theorem dX7_missesBelow_46 : decode mX7_missesBelow.2.1 46 = .ok (.iconst 0, 1) := by decide +kernel
theorem dX7_missesBelow_47 : decode mX7_missesBelow.2.1 47 = .ok (.iadd, 1) := by decide +kernel
theorem dX7_missesBelow_48 : decode mX7_missesBelow.2.1 48 = .ok (.istore_n 3, 1) := by decide +kernel
theorem dX7_missesBelow_49 : decode mX7_missesBelow.2.1 49 = .ok (.iinc 4 1, 3) := by decide +kernel
theorem dX7_missesBelow_52 : decode mX7_missesBelow.2.1 52 = .ok (.goto (-47), 3) := by decide +kernel
theorem dX7_missesBelow_55 : decode mX7_missesBelow.2.1 55 = .ok (.iload_n 3, 1) := by decide +kernel
theorem dX7_missesBelow_56 : decode mX7_missesBelow.2.1 56 = .ok (.ireturn, 1) := by decide +kernel
theorem dX7_plainWhy_0 : decode mX7_plainWhy.2.1 0 = .ok (.aload_n 0, 1) := by decide +kernel
theorem dX7_plainWhy_1 : decode mX7_plainWhy.2.1 1 = .ok (.getfield 20, 3) := by decide +kernel
theorem dX7_plainWhy_4 : decode mX7_plainWhy.2.1 4 = .ok (.bipush 12, 2) := by decide +kernel
theorem dX7_plainWhy_6 : decode mX7_plainWhy.2.1 6 = .ok (.iload_n 1, 1) := by decide +kernel
theorem dX7_plainWhy_7 : decode mX7_plainWhy.2.1 7 = .ok (.imul, 1) := by decide +kernel
theorem dX7_plainWhy_8 : decode mX7_plainWhy.2.1 8 = .ok (.iload_n 2, 1) := by decide +kernel
theorem dX7_plainWhy_9 : decode mX7_plainWhy.2.1 9 = .ok (.iadd, 1) := by decide +kernel
theorem dX7_plainWhy_10 : decode mX7_plainWhy.2.1 10 = .ok (.iaload, 1) := by decide +kernel
theorem dX7_plainWhy_11 : decode mX7_plainWhy.2.1 11 = .ok (.iconst (-1), 1) := by decide +kernel
theorem dX7_plainWhy_12 : decode mX7_plainWhy.2.1 12 = .ok (.if_icmp .ne 5, 3) := by decide +kernel
theorem dX7_plainWhy_15 : decode mX7_plainWhy.2.1 15 = .ok (.iconst 1, 1) := by decide +kernel
theorem dX7_plainWhy_16 : decode mX7_plainWhy.2.1 16 = .ok (.ireturn, 1) := by decide +kernel
theorem dX7_plainWhy_17 : decode mX7_plainWhy.2.1 17 = .ok (.iload_n 3, 1) := by decide +kernel
theorem dX7_plainWhy_18 : decode mX7_plainWhy.2.1 18 = .ok (.ifCond .eq 43, 3) := by decide +kernel
theorem dX7_plainWhy_21 : decode mX7_plainWhy.2.1 21 = .ok (.aload_n 0, 1) := by decide +kernel
theorem dX7_plainWhy_22 : decode mX7_plainWhy.2.1 22 = .ok (.getfield 13, 3) := by decide +kernel
theorem dX7_plainWhy_25 : decode mX7_plainWhy.2.1 25 = .ok (.iload_n 1, 1) := by decide +kernel
theorem dX7_plainWhy_26 : decode mX7_plainWhy.2.1 26 = .ok (.iaload, 1) := by decide +kernel
theorem dX7_plainWhy_27 : decode mX7_plainWhy.2.1 27 = .ok (.istore 4, 2) := by decide +kernel
theorem dX7_plainWhy_29 : decode mX7_plainWhy.2.1 29 = .ok (.iload 4, 2) := by decide +kernel
theorem dX7_plainWhy_31 : decode mX7_plainWhy.2.1 31 = .ok (.iconst (-1), 1) := by decide +kernel
theorem dX7_plainWhy_32 : decode mX7_plainWhy.2.1 32 = .ok (.if_icmp .ne 7, 3) := by decide +kernel
theorem dX7_plainWhy_35 : decode mX7_plainWhy.2.1 35 = .ok (.iconst 2, 1) := by decide +kernel
theorem dX7_plainWhy_36 : decode mX7_plainWhy.2.1 36 = .ok (.goto 24, 3) := by decide +kernel
theorem dX7_plainWhy_39 : decode mX7_plainWhy.2.1 39 = .ok (.aload_n 0, 1) := by decide +kernel
theorem dX7_plainWhy_40 : decode mX7_plainWhy.2.1 40 = .ok (.getfield 20, 3) := by decide +kernel
theorem dX7_plainWhy_43 : decode mX7_plainWhy.2.1 43 = .ok (.bipush 12, 2) := by decide +kernel
theorem dX7_plainWhy_45 : decode mX7_plainWhy.2.1 45 = .ok (.iload 4, 2) := by decide +kernel
theorem dX7_plainWhy_47 : decode mX7_plainWhy.2.1 47 = .ok (.imul, 1) := by decide +kernel
theorem dX7_plainWhy_48 : decode mX7_plainWhy.2.1 48 = .ok (.iload_n 2, 1) := by decide +kernel
theorem dX7_plainWhy_49 : decode mX7_plainWhy.2.1 49 = .ok (.iadd, 1) := by decide +kernel
theorem dX7_plainWhy_50 : decode mX7_plainWhy.2.1 50 = .ok (.iaload, 1) := by decide +kernel
theorem dX7_plainWhy_51 : decode mX7_plainWhy.2.1 51 = .ok (.iconst (-1), 1) := by decide +kernel
theorem dX7_plainWhy_52 : decode mX7_plainWhy.2.1 52 = .ok (.if_icmp .eq 7, 3) := by decide +kernel
theorem dX7_plainWhy_55 : decode mX7_plainWhy.2.1 55 = .ok (.iconst 3, 1) := by decide +kernel
theorem dX7_plainWhy_56 : decode mX7_plainWhy.2.1 56 = .ok (.goto 4, 3) := by decide +kernel
theorem dX7_plainWhy_59 : decode mX7_plainWhy.2.1 59 = .ok (.iconst 0, 1) := by decide +kernel
theorem dX7_plainWhy_60 : decode mX7_plainWhy.2.1 60 = .ok (.ireturn, 1) := by decide +kernel
theorem dX7_plainWhy_61 : decode mX7_plainWhy.2.1 61 = .ok (.aload_n 0, 1) := by decide +kernel
theorem dX7_plainWhy_62 : decode mX7_plainWhy.2.1 62 = .ok (.iload_n 1, 1) := by decide +kernel
theorem dX7_plainWhy_63 : decode mX7_plainWhy.2.1 63 = .ok (.invokevirtual 167, 3) := by decide +kernel
theorem dX7_plainWhy_66 : decode mX7_plainWhy.2.1 66 = .ok (.ifCond .ne 7, 3) := by decide +kernel
theorem dX7_plainWhy_69 : decode mX7_plainWhy.2.1 69 = .ok (.iconst 2, 1) := by decide +kernel
theorem dX7_plainWhy_70 : decode mX7_plainWhy.2.1 70 = .ok (.goto 17, 3) := by decide +kernel
theorem dX7_plainWhy_73 : decode mX7_plainWhy.2.1 73 = .ok (.aload_n 0, 1) := by decide +kernel
theorem dX7_plainWhy_74 : decode mX7_plainWhy.2.1 74 = .ok (.iload_n 1, 1) := by decide +kernel
theorem dX7_plainWhy_75 : decode mX7_plainWhy.2.1 75 = .ok (.iload_n 2, 1) := by decide +kernel
theorem dX7_plainWhy_76 : decode mX7_plainWhy.2.1 76 = .ok (.invokevirtual 224, 3) := by decide +kernel
theorem dX7_plainWhy_79 : decode mX7_plainWhy.2.1 79 = .ok (.ifCond .ne 7, 3) := by decide +kernel
theorem dX7_plainWhy_82 : decode mX7_plainWhy.2.1 82 = .ok (.iconst 3, 1) := by decide +kernel
theorem dX7_plainWhy_83 : decode mX7_plainWhy.2.1 83 = .ok (.goto 4, 3) := by decide +kernel
theorem dX7_plainWhy_86 : decode mX7_plainWhy.2.1 86 = .ok (.iconst 0, 1) := by decide +kernel
theorem dX7_plainWhy_87 : decode mX7_plainWhy.2.1 87 = .ok (.ireturn, 1) := by decide +kernel
theorem dX7_isOther_0 : decode mX7_isOther.2.1 0 = .ok (.aload_n 0, 1) := by decide +kernel
theorem dX7_isOther_1 : decode mX7_isOther.2.1 1 = .ok (.iconst 0, 1) := by decide +kernel
theorem dX7_isOther_2 : decode mX7_isOther.2.1 2 = .ok (.putfield 140, 3) := by decide +kernel
theorem dX7_isOther_5 : decode mX7_isOther.2.1 5 = .ok (.aload_n 0, 1) := by decide +kernel
theorem dX7_isOther_6 : decode mX7_isOther.2.1 6 = .ok (.iload_n 1, 1) := by decide +kernel
theorem dX7_isOther_7 : decode mX7_isOther.2.1 7 = .ok (.iload_n 2, 1) := by decide +kernel
theorem dX7_isOther_8 : decode mX7_isOther.2.1 8 = .ok (.invokevirtual 211, 3) := by decide +kernel
theorem dX7_isOther_11 : decode mX7_isOther.2.1 11 = .ok (.ifCond .ne 5, 3) := by decide +kernel
theorem dX7_isOther_14 : decode mX7_isOther.2.1 14 = .ok (.iconst 0, 1) := by decide +kernel
theorem dX7_isOther_15 : decode mX7_isOther.2.1 15 = .ok (.ireturn, 1) := by decide +kernel
theorem dX7_isOther_16 : decode mX7_isOther.2.1 16 = .ok (.aload_n 0, 1) := by decide +kernel
theorem dX7_isOther_17 : decode mX7_isOther.2.1 17 = .ok (.aload_n 0, 1) := by decide +kernel
theorem dX7_isOther_18 : decode mX7_isOther.2.1 18 = .ok (.getfield 185, 3) := by decide +kernel
theorem dX7_isOther_21 : decode mX7_isOther.2.1 21 = .ok (.putfield 227, 3) := by decide +kernel
theorem dX7_isOther_24 : decode mX7_isOther.2.1 24 = .ok (.iconst 0, 1) := by decide +kernel
theorem dX7_isOther_25 : decode mX7_isOther.2.1 25 = .ok (.istore_n 3, 1) := by decide +kernel
theorem dX7_isOther_26 : decode mX7_isOther.2.1 26 = .ok (.iload_n 3, 1) := by decide +kernel
theorem dX7_isOther_27 : decode mX7_isOther.2.1 27 = .ok (.aload_n 0, 1) := by decide +kernel
theorem dX7_isOther_28 : decode mX7_isOther.2.1 28 = .ok (.getfield 185, 3) := by decide +kernel
theorem dX7_isOther_31 : decode mX7_isOther.2.1 31 = .ok (.if_icmp .ge 33, 3) := by decide +kernel
theorem dX7_isOther_34 : decode mX7_isOther.2.1 34 = .ok (.aload_n 0, 1) := by decide +kernel
theorem dX7_isOther_35 : decode mX7_isOther.2.1 35 = .ok (.getfield 68, 3) := by decide +kernel
theorem dX7_isOther_38 : decode mX7_isOther.2.1 38 = .ok (.iload_n 3, 1) := by decide +kernel
theorem dX7_isOther_39 : decode mX7_isOther.2.1 39 = .ok (.aload_n 0, 1) := by decide +kernel
theorem dX7_isOther_40 : decode mX7_isOther.2.1 40 = .ok (.getfield 53, 3) := by decide +kernel
theorem dX7_isOther_43 : decode mX7_isOther.2.1 43 = .ok (.iload_n 3, 1) := by decide +kernel
theorem dX7_isOther_44 : decode mX7_isOther.2.1 44 = .ok (.iaload, 1) := by decide +kernel
theorem dX7_isOther_45 : decode mX7_isOther.2.1 45 = .ok (.iastore, 1) := by decide +kernel
theorem dX7_isOther_46 : decode mX7_isOther.2.1 46 = .ok (.aload_n 0, 1) := by decide +kernel
theorem dX7_isOther_47 : decode mX7_isOther.2.1 47 = .ok (.getfield 71, 3) := by decide +kernel
theorem dX7_isOther_50 : decode mX7_isOther.2.1 50 = .ok (.iload_n 3, 1) := by decide +kernel
theorem dX7_isOther_51 : decode mX7_isOther.2.1 51 = .ok (.aload_n 0, 1) := by decide +kernel
theorem dX7_isOther_52 : decode mX7_isOther.2.1 52 = .ok (.getfield 56, 3) := by decide +kernel
theorem dX7_isOther_55 : decode mX7_isOther.2.1 55 = .ok (.iload_n 3, 1) := by decide +kernel
theorem dX7_isOther_56 : decode mX7_isOther.2.1 56 = .ok (.iaload, 1) := by decide +kernel
theorem dX7_isOther_57 : decode mX7_isOther.2.1 57 = .ok (.iastore, 1) := by decide +kernel
theorem dX7_isOther_58 : decode mX7_isOther.2.1 58 = .ok (.iinc 3 1, 3) := by decide +kernel
theorem dX7_isOther_61 : decode mX7_isOther.2.1 61 = .ok (.goto (-35), 3) := by decide +kernel
theorem dX7_isOther_64 : decode mX7_isOther.2.1 64 = .ok (.aload_n 0, 1) := by decide +kernel
theorem dX7_isOther_65 : decode mX7_isOther.2.1 65 = .ok (.iconst 1, 1) := by decide +kernel
theorem dX7_isOther_66 : decode mX7_isOther.2.1 66 = .ok (.putfield 140, 3) := by decide +kernel
theorem dX7_isOther_69 : decode mX7_isOther.2.1 69 = .ok (.aload_n 0, 1) := by decide +kernel
theorem dX7_isOther_70 : decode mX7_isOther.2.1 70 = .ok (.iload_n 1, 1) := by decide +kernel
theorem dX7_isOther_71 : decode mX7_isOther.2.1 71 = .ok (.iload_n 2, 1) := by decide +kernel
theorem dX7_isOther_72 : decode mX7_isOther.2.1 72 = .ok (.invokevirtual 211, 3) := by decide +kernel
theorem dX7_isOther_75 : decode mX7_isOther.2.1 75 = .ok (.ifCond .eq 14, 3) := by decide +kernel
theorem dX7_isOther_78 : decode mX7_isOther.2.1 78 = .ok (.aload_n 0, 1) := by decide +kernel
theorem dX7_isOther_79 : decode mX7_isOther.2.1 79 = .ok (.getfield 185, 3) := by decide +kernel
theorem dX7_isOther_82 : decode mX7_isOther.2.1 82 = .ok (.aload_n 0, 1) := by decide +kernel
theorem dX7_isOther_83 : decode mX7_isOther.2.1 83 = .ok (.getfield 227, 3) := by decide +kernel
theorem dX7_isOther_86 : decode mX7_isOther.2.1 86 = .ok (.if_icmp .eq 7, 3) := by decide +kernel
theorem dX7_isOther_89 : decode mX7_isOther.2.1 89 = .ok (.iconst 1, 1) := by decide +kernel
theorem dX7_isOther_90 : decode mX7_isOther.2.1 90 = .ok (.goto 4, 3) := by decide +kernel
theorem dX7_isOther_93 : decode mX7_isOther.2.1 93 = .ok (.iconst 0, 1) := by decide +kernel
theorem dX7_isOther_94 : decode mX7_isOther.2.1 94 = .ok (.istore_n 3, 1) := by decide +kernel
theorem dX7_isOther_95 : decode mX7_isOther.2.1 95 = .ok (.iconst 0, 1) := by decide +kernel
theorem dX7_isOther_96 : decode mX7_isOther.2.1 96 = .ok (.istore 4, 2) := by decide +kernel
theorem dX7_isOther_98 : decode mX7_isOther.2.1 98 = .ok (.iload 4, 2) := by decide +kernel
theorem dX7_isOther_100 : decode mX7_isOther.2.1 100 = .ok (.aload_n 0, 1) := by decide +kernel
theorem dX7_isOther_101 : decode mX7_isOther.2.1 101 = .ok (.getfield 185, 3) := by decide +kernel
theorem dX7_isOther_104 : decode mX7_isOther.2.1 104 = .ok (.if_icmp .ge 53, 3) := by decide +kernel
theorem dX7_isOther_107 : decode mX7_isOther.2.1 107 = .ok (.iload_n 3, 1) := by decide +kernel
theorem dX7_isOther_108 : decode mX7_isOther.2.1 108 = .ok (.ifCond .ne 49, 3) := by decide +kernel
theorem dX7_isOther_111 : decode mX7_isOther.2.1 111 = .ok (.aload_n 0, 1) := by decide +kernel
theorem dX7_isOther_112 : decode mX7_isOther.2.1 112 = .ok (.getfield 53, 3) := by decide +kernel
theorem dX7_isOther_115 : decode mX7_isOther.2.1 115 = .ok (.iload 4, 2) := by decide +kernel
theorem dX7_isOther_117 : decode mX7_isOther.2.1 117 = .ok (.iaload, 1) := by decide +kernel
theorem dX7_isOther_118 : decode mX7_isOther.2.1 118 = .ok (.aload_n 0, 1) := by decide +kernel
theorem dX7_isOther_119 : decode mX7_isOther.2.1 119 = .ok (.getfield 68, 3) := by decide +kernel
theorem dX7_isOther_122 : decode mX7_isOther.2.1 122 = .ok (.iload 4, 2) := by decide +kernel
theorem dX7_isOther_124 : decode mX7_isOther.2.1 124 = .ok (.iaload, 1) := by decide +kernel
theorem dX7_isOther_125 : decode mX7_isOther.2.1 125 = .ok (.if_icmp .ne 20, 3) := by decide +kernel
theorem dX7_isOther_128 : decode mX7_isOther.2.1 128 = .ok (.aload_n 0, 1) := by decide +kernel
theorem dX7_isOther_129 : decode mX7_isOther.2.1 129 = .ok (.getfield 56, 3) := by decide +kernel
theorem dX7_isOther_132 : decode mX7_isOther.2.1 132 = .ok (.iload 4, 2) := by decide +kernel
theorem dX7_isOther_134 : decode mX7_isOther.2.1 134 = .ok (.iaload, 1) := by decide +kernel
theorem dX7_isOther_135 : decode mX7_isOther.2.1 135 = .ok (.aload_n 0, 1) := by decide +kernel
theorem dX7_isOther_136 : decode mX7_isOther.2.1 136 = .ok (.getfield 71, 3) := by decide +kernel
theorem dX7_isOther_139 : decode mX7_isOther.2.1 139 = .ok (.iload 4, 2) := by decide +kernel
theorem dX7_isOther_141 : decode mX7_isOther.2.1 141 = .ok (.iaload, 1) := by decide +kernel
theorem dX7_isOther_142 : decode mX7_isOther.2.1 142 = .ok (.if_icmp .eq 7, 3) := by decide +kernel
theorem dX7_isOther_145 : decode mX7_isOther.2.1 145 = .ok (.iconst 1, 1) := by decide +kernel
theorem dX7_isOther_146 : decode mX7_isOther.2.1 146 = .ok (.goto 4, 3) := by decide +kernel
theorem dX7_isOther_149 : decode mX7_isOther.2.1 149 = .ok (.iconst 0, 1) := by decide +kernel
theorem dX7_isOther_150 : decode mX7_isOther.2.1 150 = .ok (.istore_n 3, 1) := by decide +kernel
theorem dX7_isOther_151 : decode mX7_isOther.2.1 151 = .ok (.iinc 4 1, 3) := by decide +kernel
theorem dX7_isOther_154 : decode mX7_isOther.2.1 154 = .ok (.goto (-56), 3) := by decide +kernel
theorem dX7_isOther_157 : decode mX7_isOther.2.1 157 = .ok (.aload_n 0, 1) := by decide +kernel
theorem dX7_isOther_158 : decode mX7_isOther.2.1 158 = .ok (.iconst 0, 1) := by decide +kernel
theorem dX7_isOther_159 : decode mX7_isOther.2.1 159 = .ok (.putfield 140, 3) := by decide +kernel
theorem dX7_isOther_162 : decode mX7_isOther.2.1 162 = .ok (.iload_n 3, 1) := by decide +kernel
theorem dX7_isOther_163 : decode mX7_isOther.2.1 163 = .ok (.ireturn, 1) := by decide +kernel
theorem dX7_whereTried_0 : decode mX7_whereTried.2.1 0 = .ok (.iconst 0, 1) := by decide +kernel
theorem dX7_whereTried_1 : decode mX7_whereTried.2.1 1 = .ok (.istore_n 1, 1) := by decide +kernel
theorem dX7_whereTried_2 : decode mX7_whereTried.2.1 2 = .ok (.iload_n 1, 1) := by decide +kernel
theorem dX7_whereTried_3 : decode mX7_whereTried.2.1 3 = .ok (.aload_n 0, 1) := by decide +kernel
theorem dX7_whereTried_4 : decode mX7_whereTried.2.1 4 = .ok (.getfield 112, 3) := by decide +kernel
theorem dX7_whereTried_7 : decode mX7_whereTried.2.1 7 = .ok (.if_icmp .ge 48, 3) := by decide +kernel
theorem dX7_whereTried_10 : decode mX7_whereTried.2.1 10 = .ok (.iconst 0, 1) := by decide +kernel
theorem dX7_whereTried_11 : decode mX7_whereTried.2.1 11 = .ok (.istore_n 2, 1) := by decide +kernel
theorem dX7_whereTried_12 : decode mX7_whereTried.2.1 12 = .ok (.iload_n 2, 1) := by decide +kernel
theorem dX7_whereTried_13 : decode mX7_whereTried.2.1 13 = .ok (.bipush 6, 2) := by decide +kernel
theorem dX7_whereTried_15 : decode mX7_whereTried.2.1 15 = .ok (.if_icmp .ge 34, 3) := by decide +kernel
theorem dX7_whereTried_18 : decode mX7_whereTried.2.1 18 = .ok (.aload_n 0, 1) := by decide +kernel
theorem dX7_whereTried_19 : decode mX7_whereTried.2.1 19 = .ok (.getfield 16, 3) := by decide +kernel
theorem dX7_whereTried_22 : decode mX7_whereTried.2.1 22 = .ok (.iload_n 1, 1) := by decide +kernel
theorem dX7_whereTried_23 : decode mX7_whereTried.2.1 23 = .ok (.baload, 1) := by decide +kernel
theorem dX7_whereTried_24 : decode mX7_whereTried.2.1 24 = .ok (.ifCond .ne 25, 3) := by decide +kernel
theorem dX7_whereTried_27 : decode mX7_whereTried.2.1 27 = .ok (.aload_n 0, 1) := by decide +kernel
theorem dX7_whereTried_28 : decode mX7_whereTried.2.1 28 = .ok (.iload_n 1, 1) := by decide +kernel
theorem dX7_whereTried_29 : decode mX7_whereTried.2.1 29 = .ok (.iload_n 2, 1) := by decide +kernel
theorem dX7_whereTried_30 : decode mX7_whereTried.2.1 30 = .ok (.invokevirtual 230, 3) := by decide +kernel
theorem dX7_whereTried_33 : decode mX7_whereTried.2.1 33 = .ok (.ifCond .eq 10, 3) := by decide +kernel
theorem dX7_whereTried_36 : decode mX7_whereTried.2.1 36 = .ok (.bipush 6, 2) := by decide +kernel
theorem dX7_whereTried_38 : decode mX7_whereTried.2.1 38 = .ok (.iload_n 1, 1) := by decide +kernel
theorem dX7_whereTried_39 : decode mX7_whereTried.2.1 39 = .ok (.imul, 1) := by decide +kernel
theorem dX7_whereTried_40 : decode mX7_whereTried.2.1 40 = .ok (.iload_n 2, 1) := by decide +kernel
theorem dX7_whereTried_41 : decode mX7_whereTried.2.1 41 = .ok (.iadd, 1) := by decide +kernel
theorem dX7_whereTried_42 : decode mX7_whereTried.2.1 42 = .ok (.ireturn, 1) := by decide +kernel
theorem dX7_whereTried_43 : decode mX7_whereTried.2.1 43 = .ok (.iinc 2 1, 3) := by decide +kernel
theorem dX7_whereTried_46 : decode mX7_whereTried.2.1 46 = .ok (.goto (-34), 3) := by decide +kernel
theorem dX7_whereTried_49 : decode mX7_whereTried.2.1 49 = .ok (.iinc 1 1, 3) := by decide +kernel
theorem dX7_whereTried_52 : decode mX7_whereTried.2.1 52 = .ok (.goto (-50), 3) := by decide +kernel
theorem dX7_whereTried_55 : decode mX7_whereTried.2.1 55 = .ok (.iconst (-1), 1) := by decide +kernel
theorem dX7_whereTried_56 : decode mX7_whereTried.2.1 56 = .ok (.ireturn, 1) := by decide +kernel
theorem dX7_whereNow_0 : decode mX7_whereNow.2.1 0 = .ok (.aload_n 0, 1) := by decide +kernel
theorem dX7_whereNow_1 : decode mX7_whereNow.2.1 1 = .ok (.iload_n 1, 1) := by decide +kernel
theorem dX7_whereNow_2 : decode mX7_whereNow.2.1 2 = .ok (.iload_n 2, 1) := by decide +kernel
theorem dX7_whereNow_3 : decode mX7_whereNow.2.1 3 = .ok (.iload_n 3, 1) := by decide +kernel
theorem dX7_whereNow_4 : decode mX7_whereNow.2.1 4 = .ok (.invokevirtual 233, 3) := by decide +kernel
theorem dX7_whereNow_7 : decode mX7_whereNow.2.1 7 = .ok (.ifCond .eq 5, 3) := by decide +kernel
theorem dX7_whereNow_10 : decode mX7_whereNow.2.1 10 = .ok (.iconst (-1), 1) := by decide +kernel
theorem dX7_whereNow_11 : decode mX7_whereNow.2.1 11 = .ok (.ireturn, 1) := by decide +kernel
theorem dX7_whereNow_12 : decode mX7_whereNow.2.1 12 = .ok (.aload_n 0, 1) := by decide +kernel
theorem dX7_whereNow_13 : decode mX7_whereNow.2.1 13 = .ok (.iload_n 1, 1) := by decide +kernel
theorem dX7_whereNow_14 : decode mX7_whereNow.2.1 14 = .ok (.iload_n 2, 1) := by decide +kernel
theorem dX7_whereNow_15 : decode mX7_whereNow.2.1 15 = .ok (.iload_n 3, 1) := by decide +kernel
theorem dX7_whereNow_16 : decode mX7_whereNow.2.1 16 = .ok (.invokevirtual 237, 3) := by decide +kernel
theorem dX7_whereNow_19 : decode mX7_whereNow.2.1 19 = .ok (.aload_n 0, 1) := by decide +kernel
theorem dX7_whereNow_20 : decode mX7_whereNow.2.1 20 = .ok (.invokevirtual 241, 3) := by decide +kernel
theorem dX7_whereNow_23 : decode mX7_whereNow.2.1 23 = .ok (.ireturn, 1) := by decide +kernel
theorem dX7_whyNow_0 : decode mX7_whyNow.2.1 0 = .ok (.aload_n 0, 1) := by decide +kernel
theorem dX7_whyNow_1 : decode mX7_whyNow.2.1 1 = .ok (.iload_n 1, 1) := by decide +kernel
theorem dX7_whyNow_2 : decode mX7_whyNow.2.1 2 = .ok (.iload_n 2, 1) := by decide +kernel
theorem dX7_whyNow_3 : decode mX7_whyNow.2.1 3 = .ok (.iload_n 3, 1) := by decide +kernel
theorem dX7_whyNow_4 : decode mX7_whyNow.2.1 4 = .ok (.invokevirtual 233, 3) := by decide +kernel
theorem dX7_whyNow_7 : decode mX7_whyNow.2.1 7 = .ok (.istore 4, 2) := by decide +kernel
theorem dX7_whyNow_9 : decode mX7_whyNow.2.1 9 = .ok (.iload 4, 2) := by decide +kernel
theorem dX7_whyNow_11 : decode mX7_whyNow.2.1 11 = .ok (.ifCond .eq 8, 3) := by decide +kernel
theorem dX7_whyNow_14 : decode mX7_whyNow.2.1 14 = .ok (.iload 4, 2) := by decide +kernel
theorem dX7_whyNow_16 : decode mX7_whyNow.2.1 16 = .ok (.goto 19, 3) := by decide +kernel
theorem dX7_whyNow_19 : decode mX7_whyNow.2.1 19 = .ok (.aload_n 0, 1) := by decide +kernel
theorem dX7_whyNow_20 : decode mX7_whyNow.2.1 20 = .ok (.iload_n 1, 1) := by decide +kernel
theorem dX7_whyNow_21 : decode mX7_whyNow.2.1 21 = .ok (.iload_n 2, 1) := by decide +kernel
theorem dX7_whyNow_22 : decode mX7_whyNow.2.1 22 = .ok (.iload_n 3, 1) := by decide +kernel
theorem dX7_whyNow_23 : decode mX7_whyNow.2.1 23 = .ok (.invokevirtual 244, 3) := by decide +kernel
theorem dX7_whyNow_26 : decode mX7_whyNow.2.1 26 = .ok (.iconst (-1), 1) := by decide +kernel
theorem dX7_whyNow_27 : decode mX7_whyNow.2.1 27 = .ok (.if_icmp .ne 7, 3) := by decide +kernel
theorem dX7_whyNow_30 : decode mX7_whyNow.2.1 30 = .ok (.iconst 0, 1) := by decide +kernel
theorem dX7_whyNow_31 : decode mX7_whyNow.2.1 31 = .ok (.goto 4, 3) := by decide +kernel
theorem dX7_whyNow_34 : decode mX7_whyNow.2.1 34 = .ok (.iconst 4, 1) := by decide +kernel
theorem dX7_whyNow_35 : decode mX7_whyNow.2.1 35 = .ok (.ireturn, 1) := by decide +kernel
theorem dX7_why_0 : decode mX7_why.2.1 0 = .ok (.aload_n 0, 1) := by decide +kernel
theorem dX7_why_1 : decode mX7_why.2.1 1 = .ok (.iload_n 1, 1) := by decide +kernel
theorem dX7_why_2 : decode mX7_why.2.1 2 = .ok (.iload_n 2, 1) := by decide +kernel
theorem dX7_why_3 : decode mX7_why.2.1 3 = .ok (.invokevirtual 173, 3) := by decide +kernel
theorem dX7_why_6 : decode mX7_why.2.1 6 = .ok (.ifCond .eq 13, 3) := by decide +kernel
theorem dX7_why_9 : decode mX7_why.2.1 9 = .ok (.aload_n 0, 1) := by decide +kernel
theorem dX7_why_10 : decode mX7_why.2.1 10 = .ok (.iload_n 1, 1) := by decide +kernel
theorem dX7_why_11 : decode mX7_why.2.1 11 = .ok (.iload_n 2, 1) := by decide +kernel
theorem dX7_why_12 : decode mX7_why.2.1 12 = .ok (.iload_n 3, 1) := by decide +kernel
theorem dX7_why_13 : decode mX7_why.2.1 13 = .ok (.invokevirtual 247, 3) := by decide +kernel
theorem dX7_why_16 : decode mX7_why.2.1 16 = .ok (.goto 6, 3) := by decide +kernel
theorem dX7_why_19 : decode mX7_why.2.1 19 = .ok (.sipush (-1001), 3) := by decide +kernel
theorem dX7_why_22 : decode mX7_why.2.1 22 = .ok (.ireturn, 1) := by decide +kernel
theorem dX7_where_0 : decode mX7_where.2.1 0 = .ok (.aload_n 0, 1) := by decide +kernel
theorem dX7_where_1 : decode mX7_where.2.1 1 = .ok (.iload_n 1, 1) := by decide +kernel
theorem dX7_where_2 : decode mX7_where.2.1 2 = .ok (.iload_n 2, 1) := by decide +kernel
theorem dX7_where_3 : decode mX7_where.2.1 3 = .ok (.invokevirtual 173, 3) := by decide +kernel
theorem dX7_where_6 : decode mX7_where.2.1 6 = .ok (.ifCond .eq 13, 3) := by decide +kernel
theorem dX7_where_9 : decode mX7_where.2.1 9 = .ok (.aload_n 0, 1) := by decide +kernel
theorem dX7_where_10 : decode mX7_where.2.1 10 = .ok (.iload_n 1, 1) := by decide +kernel
theorem dX7_where_11 : decode mX7_where.2.1 11 = .ok (.iload_n 2, 1) := by decide +kernel
theorem dX7_where_12 : decode mX7_where.2.1 12 = .ok (.iload_n 3, 1) := by decide +kernel
theorem dX7_where_13 : decode mX7_where.2.1 13 = .ok (.invokevirtual 244, 3) := by decide +kernel
theorem dX7_where_16 : decode mX7_where.2.1 16 = .ok (.goto 6, 3) := by decide +kernel
theorem dX7_where_19 : decode mX7_where.2.1 19 = .ok (.sipush (-1001), 3) := by decide +kernel
theorem dX7_where_22 : decode mX7_where.2.1 22 = .ok (.ireturn, 1) := by decide +kernel
theorem dX7_move_0 : decode mX7_move.2.1 0 = .ok (.aload_n 0, 1) := by decide +kernel
theorem dX7_move_1 : decode mX7_move.2.1 1 = .ok (.iload_n 1, 1) := by decide +kernel
theorem dX7_move_2 : decode mX7_move.2.1 2 = .ok (.iload_n 2, 1) := by decide +kernel
theorem dX7_move_3 : decode mX7_move.2.1 3 = .ok (.invokevirtual 173, 3) := by decide +kernel
theorem dX7_move_6 : decode mX7_move.2.1 6 = .ok (.ifCond .ne 7, 3) := by decide +kernel
theorem dX7_move_9 : decode mX7_move.2.1 9 = .ok (.sipush (-1001), 3) := by decide +kernel
theorem dX7_move_12 : decode mX7_move.2.1 12 = .ok (.ireturn, 1) := by decide +kernel
theorem dX7_move_13 : decode mX7_move.2.1 13 = .ok (.aload_n 0, 1) := by decide +kernel
theorem dX7_move_14 : decode mX7_move.2.1 14 = .ok (.iload_n 1, 1) := by decide +kernel
theorem dX7_move_15 : decode mX7_move.2.1 15 = .ok (.iload_n 2, 1) := by decide +kernel
theorem dX7_move_16 : decode mX7_move.2.1 16 = .ok (.iload_n 3, 1) := by decide +kernel
theorem dX7_move_17 : decode mX7_move.2.1 17 = .ok (.invokevirtual 247, 3) := by decide +kernel
theorem dX7_move_20 : decode mX7_move.2.1 20 = .ok (.ifCond .eq 7, 3) := by decide +kernel
theorem dX7_move_23 : decode mX7_move.2.1 23 = .ok (.sipush (-1003), 3) := by decide +kernel
theorem dX7_move_26 : decode mX7_move.2.1 26 = .ok (.ireturn, 1) := by decide +kernel
theorem dX7_move_27 : decode mX7_move.2.1 27 = .ok (.aload_n 0, 1) := by decide +kernel
theorem dX7_move_28 : decode mX7_move.2.1 28 = .ok (.getfield 137, 3) := by decide +kernel
theorem dX7_move_31 : decode mX7_move.2.1 31 = .ok (.bipush 20, 2) := by decide +kernel
theorem dX7_move_33 : decode mX7_move.2.1 33 = .ok (.if_icmp .ne 7, 3) := by decide +kernel
theorem dX7_move_36 : decode mX7_move.2.1 36 = .ok (.sipush (-1004), 3) := by decide +kernel
theorem dX7_move_39 : decode mX7_move.2.1 39 = .ok (.ireturn, 1) := by decide +kernel
theorem dX7_move_40 : decode mX7_move.2.1 40 = .ok (.iconst 0, 1) := by decide +kernel
theorem dX7_move_41 : decode mX7_move.2.1 41 = .ok (.istore 4, 2) := by decide +kernel
theorem dX7_move_43 : decode mX7_move.2.1 43 = .ok (.iload 4, 2) := by decide +kernel
theorem dX7_move_45 : decode mX7_move.2.1 45 = .ok (.bipush 96, 2) := by decide +kernel
theorem dX7_move_47 : decode mX7_move.2.1 47 = .ok (.if_icmp .ge 48, 3) := by decide +kernel
theorem dX7_move_50 : decode mX7_move.2.1 50 = .ok (.aload_n 0, 1) := by decide +kernel
theorem dX7_move_51 : decode mX7_move.2.1 51 = .ok (.getfield 35, 3) := by decide +kernel
theorem dX7_move_54 : decode mX7_move.2.1 54 = .ok (.bipush 96, 2) := by decide +kernel
theorem dX7_move_56 : decode mX7_move.2.1 56 = .ok (.aload_n 0, 1) := by decide +kernel
theorem dX7_move_57 : decode mX7_move.2.1 57 = .ok (.getfield 137, 3) := by decide +kernel
theorem dX7_move_60 : decode mX7_move.2.1 60 = .ok (.imul, 1) := by decide +kernel
theorem dX7_move_61 : decode mX7_move.2.1 61 = .ok (.iload 4, 2) := by decide +kernel
theorem dX7_move_63 : decode mX7_move.2.1 63 = .ok (.iadd, 1) := by decide +kernel
theorem dX7_move_64 : decode mX7_move.2.1 64 = .ok (.aload_n 0, 1) := by decide +kernel
theorem dX7_move_65 : decode mX7_move.2.1 65 = .ok (.getfield 20, 3) := by decide +kernel
theorem dX7_move_68 : decode mX7_move.2.1 68 = .ok (.iload 4, 2) := by decide +kernel
theorem dX7_move_70 : decode mX7_move.2.1 70 = .ok (.iaload, 1) := by decide +kernel
theorem dX7_move_71 : decode mX7_move.2.1 71 = .ok (.iastore, 1) := by decide +kernel
theorem dX7_move_72 : decode mX7_move.2.1 72 = .ok (.aload_n 0, 1) := by decide +kernel
theorem dX7_move_73 : decode mX7_move.2.1 73 = .ok (.getfield 20, 3) := by decide +kernel
theorem dX7_move_76 : decode mX7_move.2.1 76 = .ok (.iload 4, 2) := by decide +kernel
theorem dX7_move_78 : decode mX7_move.2.1 78 = .ok (.aload_n 0, 1) := by decide +kernel
theorem dX7_move_79 : decode mX7_move.2.1 79 = .ok (.getfield 20, 3) := by decide +kernel
theorem dX7_move_82 : decode mX7_move.2.1 82 = .ok (.bipush 96, 2) := by decide +kernel
theorem dX7_move_84 : decode mX7_move.2.1 84 = .ok (.iload 4, 2) := by decide +kernel
theorem dX7_move_86 : decode mX7_move.2.1 86 = .ok (.iadd, 1) := by decide +kernel
theorem dX7_move_87 : decode mX7_move.2.1 87 = .ok (.iaload, 1) := by decide +kernel
theorem dX7_move_88 : decode mX7_move.2.1 88 = .ok (.iastore, 1) := by decide +kernel
theorem dX7_move_89 : decode mX7_move.2.1 89 = .ok (.iinc 4 1, 3) := by decide +kernel
theorem dX7_move_92 : decode mX7_move.2.1 92 = .ok (.goto (-49), 3) := by decide +kernel
theorem dX7_move_95 : decode mX7_move.2.1 95 = .ok (.iconst 0, 1) := by decide +kernel
theorem dX7_move_96 : decode mX7_move.2.1 96 = .ok (.istore 4, 2) := by decide +kernel
theorem dX7_move_98 : decode mX7_move.2.1 98 = .ok (.iload 4, 2) := by decide +kernel
theorem dX7_move_100 : decode mX7_move.2.1 100 = .ok (.bipush 8, 2) := by decide +kernel
theorem dX7_move_102 : decode mX7_move.2.1 102 = .ok (.if_icmp .ge 48, 3) := by decide +kernel
theorem dX7_move_105 : decode mX7_move.2.1 105 = .ok (.aload_n 0, 1) := by decide +kernel
theorem dX7_move_106 : decode mX7_move.2.1 106 = .ok (.getfield 38, 3) := by decide +kernel
theorem dX7_move_109 : decode mX7_move.2.1 109 = .ok (.bipush 8, 2) := by decide +kernel
theorem dX7_move_111 : decode mX7_move.2.1 111 = .ok (.aload_n 0, 1) := by decide +kernel
theorem dX7_move_112 : decode mX7_move.2.1 112 = .ok (.getfield 137, 3) := by decide +kernel
theorem dX7_move_115 : decode mX7_move.2.1 115 = .ok (.imul, 1) := by decide +kernel
theorem dX7_move_116 : decode mX7_move.2.1 116 = .ok (.iload 4, 2) := by decide +kernel
theorem dX7_move_118 : decode mX7_move.2.1 118 = .ok (.iadd, 1) := by decide +kernel
theorem dX7_move_119 : decode mX7_move.2.1 119 = .ok (.aload_n 0, 1) := by decide +kernel
theorem dX7_move_120 : decode mX7_move.2.1 120 = .ok (.getfield 23, 3) := by decide +kernel
theorem dX7_move_123 : decode mX7_move.2.1 123 = .ok (.iload 4, 2) := by decide +kernel
theorem dX7_move_125 : decode mX7_move.2.1 125 = .ok (.iaload, 1) := by decide +kernel
theorem dX7_move_126 : decode mX7_move.2.1 126 = .ok (.iastore, 1) := by decide +kernel
theorem dX7_move_127 : decode mX7_move.2.1 127 = .ok (.aload_n 0, 1) := by decide +kernel
theorem dX7_move_128 : decode mX7_move.2.1 128 = .ok (.getfield 23, 3) := by decide +kernel
theorem dX7_move_131 : decode mX7_move.2.1 131 = .ok (.iload 4, 2) := by decide +kernel
theorem dX7_move_133 : decode mX7_move.2.1 133 = .ok (.aload_n 0, 1) := by decide +kernel
theorem dX7_move_134 : decode mX7_move.2.1 134 = .ok (.getfield 23, 3) := by decide +kernel
theorem dX7_move_137 : decode mX7_move.2.1 137 = .ok (.bipush 8, 2) := by decide +kernel
theorem dX7_move_139 : decode mX7_move.2.1 139 = .ok (.iload 4, 2) := by decide +kernel
theorem dX7_move_141 : decode mX7_move.2.1 141 = .ok (.iadd, 1) := by decide +kernel
theorem dX7_move_142 : decode mX7_move.2.1 142 = .ok (.iaload, 1) := by decide +kernel
theorem dX7_move_143 : decode mX7_move.2.1 143 = .ok (.iastore, 1) := by decide +kernel
theorem dX7_move_144 : decode mX7_move.2.1 144 = .ok (.iinc 4 1, 3) := by decide +kernel
theorem dX7_move_147 : decode mX7_move.2.1 147 = .ok (.goto (-49), 3) := by decide +kernel
theorem dX7_move_150 : decode mX7_move.2.1 150 = .ok (.aload_n 0, 1) := by decide +kernel
theorem dX7_move_151 : decode mX7_move.2.1 151 = .ok (.dup, 1) := by decide +kernel
theorem dX7_move_152 : decode mX7_move.2.1 152 = .ok (.getfield 137, 3) := by decide +kernel
theorem dX7_move_155 : decode mX7_move.2.1 155 = .ok (.iconst 1, 1) := by decide +kernel
theorem dX7_move_156 : decode mX7_move.2.1 156 = .ok (.iadd, 1) := by decide +kernel
theorem dX7_move_157 : decode mX7_move.2.1 157 = .ok (.putfield 137, 3) := by decide +kernel
theorem dX7_move_160 : decode mX7_move.2.1 160 = .ok (.aload_n 0, 1) := by decide +kernel
theorem dX7_move_161 : decode mX7_move.2.1 161 = .ok (.dup, 1) := by decide +kernel
theorem dX7_move_162 : decode mX7_move.2.1 162 = .ok (.getfield 250, 3) := by decide +kernel
theorem dX7_move_165 : decode mX7_move.2.1 165 = .ok (.iconst 1, 1) := by decide +kernel
theorem dX7_move_166 : decode mX7_move.2.1 166 = .ok (.iadd, 1) := by decide +kernel
theorem dX7_move_167 : decode mX7_move.2.1 167 = .ok (.putfield 250, 3) := by decide +kernel
theorem dX7_move_170 : decode mX7_move.2.1 170 = .ok (.aload_n 0, 1) := by decide +kernel
theorem dX7_move_171 : decode mX7_move.2.1 171 = .ok (.getfield 137, 3) := by decide +kernel
theorem dX7_move_174 : decode mX7_move.2.1 174 = .ok (.ireturn, 1) := by decide +kernel
theorem dX7_undo_0 : decode mX7_undo.2.1 0 = .ok (.aload_n 0, 1) := by decide +kernel
theorem dX7_undo_1 : decode mX7_undo.2.1 1 = .ok (.getfield 137, 3) := by decide +kernel
theorem dX7_undo_4 : decode mX7_undo.2.1 4 = .ok (.ifCond .ne 7, 3) := by decide +kernel
theorem dX7_undo_7 : decode mX7_undo.2.1 7 = .ok (.sipush (-1003), 3) := by decide +kernel
theorem dX7_undo_10 : decode mX7_undo.2.1 10 = .ok (.ireturn, 1) := by decide +kernel
theorem dX7_undo_11 : decode mX7_undo.2.1 11 = .ok (.aload_n 0, 1) := by decide +kernel
theorem dX7_undo_12 : decode mX7_undo.2.1 12 = .ok (.dup, 1) := by decide +kernel
theorem dX7_undo_13 : decode mX7_undo.2.1 13 = .ok (.getfield 137, 3) := by decide +kernel
theorem dX7_undo_16 : decode mX7_undo.2.1 16 = .ok (.iconst 1, 1) := by decide +kernel
theorem dX7_undo_17 : decode mX7_undo.2.1 17 = .ok (.isub, 1) := by decide +kernel
theorem dX7_undo_18 : decode mX7_undo.2.1 18 = .ok (.putfield 137, 3) := by decide +kernel
theorem dX7_undo_21 : decode mX7_undo.2.1 21 = .ok (.iconst 0, 1) := by decide +kernel
theorem dX7_undo_22 : decode mX7_undo.2.1 22 = .ok (.istore_n 1, 1) := by decide +kernel
theorem dX7_undo_23 : decode mX7_undo.2.1 23 = .ok (.iload_n 1, 1) := by decide +kernel
theorem dX7_undo_24 : decode mX7_undo.2.1 24 = .ok (.bipush 96, 2) := by decide +kernel
theorem dX7_undo_26 : decode mX7_undo.2.1 26 = .ok (.if_icmp .ge 29, 3) := by decide +kernel
theorem dX7_undo_29 : decode mX7_undo.2.1 29 = .ok (.aload_n 0, 1) := by decide +kernel
theorem dX7_undo_30 : decode mX7_undo.2.1 30 = .ok (.getfield 20, 3) := by decide +kernel
theorem dX7_undo_33 : decode mX7_undo.2.1 33 = .ok (.iload_n 1, 1) := by decide +kernel
theorem dX7_undo_34 : decode mX7_undo.2.1 34 = .ok (.aload_n 0, 1) := by decide +kernel
theorem dX7_undo_35 : decode mX7_undo.2.1 35 = .ok (.getfield 35, 3) := by decide +kernel
theorem dX7_undo_38 : decode mX7_undo.2.1 38 = .ok (.bipush 96, 2) := by decide +kernel
theorem dX7_undo_40 : decode mX7_undo.2.1 40 = .ok (.aload_n 0, 1) := by decide +kernel
theorem dX7_undo_41 : decode mX7_undo.2.1 41 = .ok (.getfield 137, 3) := by decide +kernel
theorem dX7_undo_44 : decode mX7_undo.2.1 44 = .ok (.imul, 1) := by decide +kernel
theorem dX7_undo_45 : decode mX7_undo.2.1 45 = .ok (.iload_n 1, 1) := by decide +kernel
theorem dX7_undo_46 : decode mX7_undo.2.1 46 = .ok (.iadd, 1) := by decide +kernel
theorem dX7_undo_47 : decode mX7_undo.2.1 47 = .ok (.iaload, 1) := by decide +kernel
theorem dX7_undo_48 : decode mX7_undo.2.1 48 = .ok (.iastore, 1) := by decide +kernel
theorem dX7_undo_49 : decode mX7_undo.2.1 49 = .ok (.iinc 1 1, 3) := by decide +kernel
theorem dX7_undo_52 : decode mX7_undo.2.1 52 = .ok (.goto (-29), 3) := by decide +kernel
theorem dX7_undo_55 : decode mX7_undo.2.1 55 = .ok (.iconst 0, 1) := by decide +kernel
theorem dX7_undo_56 : decode mX7_undo.2.1 56 = .ok (.istore_n 1, 1) := by decide +kernel
theorem dX7_undo_57 : decode mX7_undo.2.1 57 = .ok (.iload_n 1, 1) := by decide +kernel
theorem dX7_undo_58 : decode mX7_undo.2.1 58 = .ok (.bipush 8, 2) := by decide +kernel
theorem dX7_undo_60 : decode mX7_undo.2.1 60 = .ok (.if_icmp .ge 29, 3) := by decide +kernel
theorem dX7_undo_63 : decode mX7_undo.2.1 63 = .ok (.aload_n 0, 1) := by decide +kernel
theorem dX7_undo_64 : decode mX7_undo.2.1 64 = .ok (.getfield 23, 3) := by decide +kernel
theorem dX7_undo_67 : decode mX7_undo.2.1 67 = .ok (.iload_n 1, 1) := by decide +kernel
theorem dX7_undo_68 : decode mX7_undo.2.1 68 = .ok (.aload_n 0, 1) := by decide +kernel
theorem dX7_undo_69 : decode mX7_undo.2.1 69 = .ok (.getfield 38, 3) := by decide +kernel
theorem dX7_undo_72 : decode mX7_undo.2.1 72 = .ok (.bipush 8, 2) := by decide +kernel
theorem dX7_undo_74 : decode mX7_undo.2.1 74 = .ok (.aload_n 0, 1) := by decide +kernel
theorem dX7_undo_75 : decode mX7_undo.2.1 75 = .ok (.getfield 137, 3) := by decide +kernel
theorem dX7_undo_78 : decode mX7_undo.2.1 78 = .ok (.imul, 1) := by decide +kernel
theorem dX7_undo_79 : decode mX7_undo.2.1 79 = .ok (.iload_n 1, 1) := by decide +kernel
theorem dX7_undo_80 : decode mX7_undo.2.1 80 = .ok (.iadd, 1) := by decide +kernel
theorem dX7_undo_81 : decode mX7_undo.2.1 81 = .ok (.iaload, 1) := by decide +kernel
theorem dX7_undo_82 : decode mX7_undo.2.1 82 = .ok (.iastore, 1) := by decide +kernel
theorem dX7_undo_83 : decode mX7_undo.2.1 83 = .ok (.iinc 1 1, 3) := by decide +kernel
theorem dX7_undo_86 : decode mX7_undo.2.1 86 = .ok (.goto (-29), 3) := by decide +kernel
theorem dX7_undo_89 : decode mX7_undo.2.1 89 = .ok (.aload_n 0, 1) := by decide +kernel
theorem dX7_undo_90 : decode mX7_undo.2.1 90 = .ok (.dup, 1) := by decide +kernel
theorem dX7_undo_91 : decode mX7_undo.2.1 91 = .ok (.getfield 253, 3) := by decide +kernel
theorem dX7_undo_94 : decode mX7_undo.2.1 94 = .ok (.iconst 1, 1) := by decide +kernel
theorem dX7_undo_95 : decode mX7_undo.2.1 95 = .ok (.iadd, 1) := by decide +kernel
theorem dX7_undo_96 : decode mX7_undo.2.1 96 = .ok (.putfield 253, 3) := by decide +kernel
theorem dX7_undo_99 : decode mX7_undo.2.1 99 = .ok (.aload_n 0, 1) := by decide +kernel
theorem dX7_undo_100 : decode mX7_undo.2.1 100 = .ok (.getfield 137, 3) := by decide +kernel
theorem dX7_undo_103 : decode mX7_undo.2.1 103 = .ok (.ireturn, 1) := by decide +kernel
theorem dX7_layMoves_0 : decode mX7_layMoves.2.1 0 = .ok (.aload_n 0, 1) := by decide +kernel
theorem dX7_layMoves_1 : decode mX7_layMoves.2.1 1 = .ok (.iconst 0, 1) := by decide +kernel
theorem dX7_layMoves_2 : decode mX7_layMoves.2.1 2 = .ok (.putfield 256, 3) := by decide +kernel
theorem dX7_layMoves_5 : decode mX7_layMoves.2.1 5 = .ok (.aload_n 0, 1) := by decide +kernel
theorem dX7_layMoves_6 : decode mX7_layMoves.2.1 6 = .ok (.iconst 0, 1) := by decide +kernel
theorem dX7_layMoves_7 : decode mX7_layMoves.2.1 7 = .ok (.putfield 259, 3) := by decide +kernel
theorem dX7_layMoves_10 : decode mX7_layMoves.2.1 10 = .ok (.aload_n 0, 1) := by decide +kernel
theorem dX7_layMoves_11 : decode mX7_layMoves.2.1 11 = .ok (.iconst 0, 1) := by decide +kernel
theorem dX7_layMoves_12 : decode mX7_layMoves.2.1 12 = .ok (.putfield 262, 3) := by decide +kernel
theorem dX7_layMoves_15 : decode mX7_layMoves.2.1 15 = .ok (.iconst 0, 1) := by decide +kernel
theorem dX7_layMoves_16 : decode mX7_layMoves.2.1 16 = .ok (.istore_n 1, 1) := by decide +kernel
theorem dX7_layMoves_17 : decode mX7_layMoves.2.1 17 = .ok (.iload_n 1, 1) := by decide +kernel
theorem dX7_layMoves_18 : decode mX7_layMoves.2.1 18 = .ok (.bipush 12, 2) := by decide +kernel
theorem dX7_layMoves_20 : decode mX7_layMoves.2.1 20 = .ok (.aload_n 0, 1) := by decide +kernel
theorem dX7_layMoves_21 : decode mX7_layMoves.2.1 21 = .ok (.getfield 112, 3) := by decide +kernel
theorem dX7_layMoves_24 : decode mX7_layMoves.2.1 24 = .ok (.imul, 1) := by decide +kernel
theorem dX7_layMoves_25 : decode mX7_layMoves.2.1 25 = .ok (.if_icmp .ge 103, 3) := by decide +kernel
theorem dX7_layMoves_28 : decode mX7_layMoves.2.1 28 = .ok (.aload_n 0, 1) := by decide +kernel
theorem dX7_layMoves_29 : decode mX7_layMoves.2.1 29 = .ok (.iload_n 1, 1) := by decide +kernel
theorem dX7_layMoves_30 : decode mX7_layMoves.2.1 30 = .ok (.bipush 12, 2) := by decide +kernel
theorem dX7_layMoves_32 : decode mX7_layMoves.2.1 32 = .ok (.idiv, 1) := by decide +kernel
theorem dX7_layMoves_33 : decode mX7_layMoves.2.1 33 = .ok (.iload_n 1, 1) := by decide +kernel
theorem dX7_layMoves_34 : decode mX7_layMoves.2.1 34 = .ok (.bipush 12, 2) := by decide +kernel
theorem dX7_layMoves_36 : decode mX7_layMoves.2.1 36 = .ok (.irem, 1) := by decide +kernel
theorem dX7_layMoves_37 : decode mX7_layMoves.2.1 37 = .ok (.iconst 1, 1) := by decide +kernel
theorem dX7_layMoves_38 : decode mX7_layMoves.2.1 38 = .ok (.invokevirtual 247, 3) := by decide +kernel
theorem dX7_layMoves_41 : decode mX7_layMoves.2.1 41 = .ok (.istore_n 2, 1) := by decide +kernel
theorem dX7_layMoves_42 : decode mX7_layMoves.2.1 42 = .ok (.aload_n 0, 1) := by decide +kernel
theorem dX7_layMoves_43 : decode mX7_layMoves.2.1 43 = .ok (.iload_n 1, 1) := by decide +kernel
theorem dX7_layMoves_44 : decode mX7_layMoves.2.1 44 = .ok (.bipush 12, 2) := by decide +kernel
theorem dX7_layMoves_46 : decode mX7_layMoves.2.1 46 = .ok (.idiv, 1) := by decide +kernel
theorem dX7_layMoves_47 : decode mX7_layMoves.2.1 47 = .ok (.iload_n 1, 1) := by decide +kernel
theorem dX7_layMoves_48 : decode mX7_layMoves.2.1 48 = .ok (.bipush 12, 2) := by decide +kernel
theorem dX7_layMoves_50 : decode mX7_layMoves.2.1 50 = .ok (.irem, 1) := by decide +kernel
theorem dX7_layMoves_51 : decode mX7_layMoves.2.1 51 = .ok (.iconst 0, 1) := by decide +kernel
theorem dX7_layMoves_52 : decode mX7_layMoves.2.1 52 = .ok (.invokevirtual 247, 3) := by decide +kernel
theorem dX7_layMoves_55 : decode mX7_layMoves.2.1 55 = .ok (.istore_n 3, 1) := by decide +kernel
theorem dX7_layMoves_56 : decode mX7_layMoves.2.1 56 = .ok (.aload_n 0, 1) := by decide +kernel
theorem dX7_layMoves_57 : decode mX7_layMoves.2.1 57 = .ok (.dup, 1) := by decide +kernel
theorem dX7_layMoves_58 : decode mX7_layMoves.2.1 58 = .ok (.getfield 256, 3) := by decide +kernel
theorem dX7_layMoves_61 : decode mX7_layMoves.2.1 61 = .ok (.iload_n 2, 1) := by decide +kernel
theorem dX7_layMoves_62 : decode mX7_layMoves.2.1 62 = .ok (.ifCond .ne 7, 3) := by decide +kernel
theorem dX7_layMoves_65 : decode mX7_layMoves.2.1 65 = .ok (.iconst 1, 1) := by decide +kernel
theorem dX7_layMoves_66 : decode mX7_layMoves.2.1 66 = .ok (.goto 4, 3) := by decide +kernel
theorem dX7_layMoves_69 : decode mX7_layMoves.2.1 69 = .ok (.iconst 0, 1) := by decide +kernel
theorem dX7_layMoves_70 : decode mX7_layMoves.2.1 70 = .ok (.iadd, 1) := by decide +kernel
theorem dX7_layMoves_71 : decode mX7_layMoves.2.1 71 = .ok (.putfield 256, 3) := by decide +kernel
theorem dX7_layMoves_74 : decode mX7_layMoves.2.1 74 = .ok (.aload_n 0, 1) := by decide +kernel
theorem dX7_layMoves_75 : decode mX7_layMoves.2.1 75 = .ok (.dup, 1) := by decide +kernel
theorem dX7_layMoves_76 : decode mX7_layMoves.2.1 76 = .ok (.getfield 259, 3) := by decide +kernel
theorem dX7_layMoves_79 : decode mX7_layMoves.2.1 79 = .ok (.iload_n 3, 1) := by decide +kernel
theorem dX7_layMoves_80 : decode mX7_layMoves.2.1 80 = .ok (.ifCond .ne 7, 3) := by decide +kernel
theorem dX7_layMoves_83 : decode mX7_layMoves.2.1 83 = .ok (.iconst 1, 1) := by decide +kernel
theorem dX7_layMoves_84 : decode mX7_layMoves.2.1 84 = .ok (.goto 4, 3) := by decide +kernel
theorem dX7_layMoves_87 : decode mX7_layMoves.2.1 87 = .ok (.iconst 0, 1) := by decide +kernel
theorem dX7_layMoves_88 : decode mX7_layMoves.2.1 88 = .ok (.iadd, 1) := by decide +kernel
theorem dX7_layMoves_89 : decode mX7_layMoves.2.1 89 = .ok (.putfield 259, 3) := by decide +kernel
theorem dX7_layMoves_92 : decode mX7_layMoves.2.1 92 = .ok (.aload_n 0, 1) := by decide +kernel
theorem dX7_layMoves_93 : decode mX7_layMoves.2.1 93 = .ok (.dup, 1) := by decide +kernel
theorem dX7_layMoves_94 : decode mX7_layMoves.2.1 94 = .ok (.getfield 262, 3) := by decide +kernel
theorem dX7_layMoves_97 : decode mX7_layMoves.2.1 97 = .ok (.iload_n 2, 1) := by decide +kernel
theorem dX7_layMoves_98 : decode mX7_layMoves.2.1 98 = .ok (.iconst 4, 1) := by decide +kernel
theorem dX7_layMoves_99 : decode mX7_layMoves.2.1 99 = .ok (.if_icmp .ne 7, 3) := by decide +kernel
theorem dX7_layMoves_102 : decode mX7_layMoves.2.1 102 = .ok (.iconst 1, 1) := by decide +kernel
theorem dX7_layMoves_103 : decode mX7_layMoves.2.1 103 = .ok (.goto 4, 3) := by decide +kernel
theorem dX7_layMoves_106 : decode mX7_layMoves.2.1 106 = .ok (.iconst 0, 1) := by decide +kernel
theorem dX7_layMoves_107 : decode mX7_layMoves.2.1 107 = .ok (.iload_n 3, 1) := by decide +kernel
theorem dX7_layMoves_108 : decode mX7_layMoves.2.1 108 = .ok (.iconst 4, 1) := by decide +kernel
theorem dX7_layMoves_109 : decode mX7_layMoves.2.1 109 = .ok (.if_icmp .ne 7, 3) := by decide +kernel
theorem dX7_layMoves_112 : decode mX7_layMoves.2.1 112 = .ok (.iconst 1, 1) := by decide +kernel
theorem dX7_layMoves_113 : decode mX7_layMoves.2.1 113 = .ok (.goto 4, 3) := by decide +kernel
theorem dX7_layMoves_116 : decode mX7_layMoves.2.1 116 = .ok (.iconst 0, 1) := by decide +kernel
theorem dX7_layMoves_117 : decode mX7_layMoves.2.1 117 = .ok (.iadd, 1) := by decide +kernel
theorem dX7_layMoves_118 : decode mX7_layMoves.2.1 118 = .ok (.iadd, 1) := by decide +kernel
theorem dX7_layMoves_119 : decode mX7_layMoves.2.1 119 = .ok (.putfield 262, 3) := by decide +kernel
theorem dX7_layMoves_122 : decode mX7_layMoves.2.1 122 = .ok (.iinc 1 1, 3) := by decide +kernel
theorem dX7_layMoves_125 : decode mX7_layMoves.2.1 125 = .ok (.goto (-108), 3) := by decide +kernel
theorem dX7_layMoves_128 : decode mX7_layMoves.2.1 128 = .ok (.return_, 1) := by decide +kernel
theorem dX7_moves_0 : decode mX7_moves.2.1 0 = .ok (.iload_n 1, 1) := by decide +kernel
theorem dX7_moves_1 : decode mX7_moves.2.1 1 = .ok (.iconst 0, 1) := by decide +kernel
theorem dX7_moves_2 : decode mX7_moves.2.1 2 = .ok (.iconst 2, 1) := by decide +kernel
theorem dX7_moves_3 : decode mX7_moves.2.1 3 = .ok (.invokestatic 77, 3) := by decide +kernel
theorem dX7_moves_6 : decode mX7_moves.2.1 6 = .ok (.ifCond .ne 7, 3) := by decide +kernel
theorem dX7_moves_9 : decode mX7_moves.2.1 9 = .ok (.sipush (-1002), 3) := by decide +kernel
theorem dX7_moves_12 : decode mX7_moves.2.1 12 = .ok (.ireturn, 1) := by decide +kernel
theorem dX7_moves_13 : decode mX7_moves.2.1 13 = .ok (.aload_n 0, 1) := by decide +kernel
theorem dX7_moves_14 : decode mX7_moves.2.1 14 = .ok (.invokevirtual 265, 3) := by decide +kernel
theorem dX7_moves_17 : decode mX7_moves.2.1 17 = .ok (.iload_n 1, 1) := by decide +kernel
theorem dX7_moves_18 : decode mX7_moves.2.1 18 = .ok (.ifCond .ne 10, 3) := by decide +kernel
theorem dX7_moves_21 : decode mX7_moves.2.1 21 = .ok (.aload_n 0, 1) := by decide +kernel
theorem dX7_moves_22 : decode mX7_moves.2.1 22 = .ok (.getfield 256, 3) := by decide +kernel
theorem dX7_moves_25 : decode mX7_moves.2.1 25 = .ok (.goto 19, 3) := by decide +kernel
theorem dX7_moves_28 : decode mX7_moves.2.1 28 = .ok (.iload_n 1, 1) := by decide +kernel
theorem dX7_moves_29 : decode mX7_moves.2.1 29 = .ok (.iconst 1, 1) := by decide +kernel
theorem dX7_moves_30 : decode mX7_moves.2.1 30 = .ok (.if_icmp .ne 10, 3) := by decide +kernel
theorem dX7_moves_33 : decode mX7_moves.2.1 33 = .ok (.aload_n 0, 1) := by decide +kernel
theorem dX7_moves_34 : decode mX7_moves.2.1 34 = .ok (.getfield 259, 3) := by decide +kernel
theorem dX7_moves_37 : decode mX7_moves.2.1 37 = .ok (.goto 7, 3) := by decide +kernel
theorem dX7_moves_40 : decode mX7_moves.2.1 40 = .ok (.aload_n 0, 1) := by decide +kernel
theorem dX7_moves_41 : decode mX7_moves.2.1 41 = .ok (.getfield 262, 3) := by decide +kernel
theorem dX7_moves_44 : decode mX7_moves.2.1 44 = .ok (.ireturn, 1) := by decide +kernel
theorem dX7_contract_0 : decode mX7_contract.2.1 0 = .ok (.iload_n 1, 1) := by decide +kernel
theorem dX7_contract_1 : decode mX7_contract.2.1 1 = .ok (.iconst 1, 1) := by decide +kernel
theorem dX7_contract_2 : decode mX7_contract.2.1 2 = .ok (.bipush 63, 2) := by decide +kernel
theorem dX7_contract_4 : decode mX7_contract.2.1 4 = .ok (.invokestatic 77, 3) := by decide +kernel
theorem dX7_contract_7 : decode mX7_contract.2.1 7 = .ok (.ifCond .ne 7, 3) := by decide +kernel
theorem dX7_contract_10 : decode mX7_contract.2.1 10 = .ok (.sipush (-1002), 3) := by decide +kernel
theorem dX7_contract_13 : decode mX7_contract.2.1 13 = .ok (.ireturn, 1) := by decide +kernel
theorem dX7_contract_14 : decode mX7_contract.2.1 14 = .ok (.aload_n 0, 1) := by decide +kernel
theorem dX7_contract_15 : decode mX7_contract.2.1 15 = .ok (.getfield 268, 3) := by decide +kernel
theorem dX7_contract_18 : decode mX7_contract.2.1 18 = .ok (.bipush 6, 2) := by decide +kernel
theorem dX7_contract_20 : decode mX7_contract.2.1 20 = .ok (.if_icmp .ne 7, 3) := by decide +kernel
theorem dX7_contract_23 : decode mX7_contract.2.1 23 = .ok (.sipush (-1004), 3) := by decide +kernel
theorem dX7_contract_26 : decode mX7_contract.2.1 26 = .ok (.ireturn, 1) := by decide +kernel
theorem dX7_contract_27 : decode mX7_contract.2.1 27 = .ok (.aload_n 0, 1) := by decide +kernel
theorem dX7_contract_28 : decode mX7_contract.2.1 28 = .ok (.getfield 41, 3) := by decide +kernel
theorem dX7_contract_31 : decode mX7_contract.2.1 31 = .ok (.aload_n 0, 1) := by decide +kernel
theorem dX7_contract_32 : decode mX7_contract.2.1 32 = .ok (.getfield 268, 3) := by decide +kernel
theorem dX7_contract_35 : decode mX7_contract.2.1 35 = .ok (.iload_n 1, 1) := by decide +kernel
theorem dX7_contract_36 : decode mX7_contract.2.1 36 = .ok (.iastore, 1) := by decide +kernel
theorem dX7_contract_37 : decode mX7_contract.2.1 37 = .ok (.aload_n 0, 1) := by decide +kernel
theorem dX7_contract_38 : decode mX7_contract.2.1 38 = .ok (.dup, 1) := by decide +kernel
theorem dX7_contract_39 : decode mX7_contract.2.1 39 = .ok (.getfield 268, 3) := by decide +kernel
theorem dX7_contract_42 : decode mX7_contract.2.1 42 = .ok (.iconst 1, 1) := by decide +kernel
theorem dX7_contract_43 : decode mX7_contract.2.1 43 = .ok (.iadd, 1) := by decide +kernel
theorem dX7_contract_44 : decode mX7_contract.2.1 44 = .ok (.putfield 268, 3) := by decide +kernel
theorem dX7_contract_47 : decode mX7_contract.2.1 47 = .ok (.aload_n 0, 1) := by decide +kernel
theorem dX7_contract_48 : decode mX7_contract.2.1 48 = .ok (.getfield 268, 3) := by decide +kernel
theorem dX7_contract_51 : decode mX7_contract.2.1 51 = .ok (.iconst 1, 1) := by decide +kernel
theorem dX7_contract_52 : decode mX7_contract.2.1 52 = .ok (.isub, 1) := by decide +kernel
theorem dX7_contract_53 : decode mX7_contract.2.1 53 = .ok (.ireturn, 1) := by decide +kernel
theorem dX7_fitNow_0 : decode mX7_fitNow.2.1 0 = .ok (.iload_n 2, 1) := by decide +kernel
theorem dX7_fitNow_1 : decode mX7_fitNow.2.1 1 = .ok (.ifCond .ne 10, 3) := by decide +kernel
theorem dX7_fitNow_4 : decode mX7_fitNow.2.1 4 = .ok (.aload_n 0, 1) := by decide +kernel
theorem dX7_fitNow_5 : decode mX7_fitNow.2.1 5 = .ok (.getfield 41, 3) := by decide +kernel
theorem dX7_fitNow_8 : decode mX7_fitNow.2.1 8 = .ok (.iload_n 1, 1) := by decide +kernel
theorem dX7_fitNow_9 : decode mX7_fitNow.2.1 9 = .ok (.iaload, 1) := by decide +kernel
theorem dX7_fitNow_10 : decode mX7_fitNow.2.1 10 = .ok (.ireturn, 1) := by decide +kernel
theorem dX7_fitNow_11 : decode mX7_fitNow.2.1 11 = .ok (.iconst 0, 1) := by decide +kernel
theorem dX7_fitNow_12 : decode mX7_fitNow.2.1 12 = .ok (.istore_n 3, 1) := by decide +kernel
theorem dX7_fitNow_13 : decode mX7_fitNow.2.1 13 = .ok (.iconst (-1), 1) := by decide +kernel
theorem dX7_fitNow_14 : decode mX7_fitNow.2.1 14 = .ok (.istore 4, 2) := by decide +kernel
theorem dX7_fitNow_16 : decode mX7_fitNow.2.1 16 = .ok (.bipush 7, 2) := by decide +kernel
theorem dX7_fitNow_18 : decode mX7_fitNow.2.1 18 = .ok (.istore 5, 2) := by decide +kernel
theorem dX7_fitNow_20 : decode mX7_fitNow.2.1 20 = .ok (.iconst 0, 1) := by decide +kernel
theorem dX7_fitNow_21 : decode mX7_fitNow.2.1 21 = .ok (.istore 6, 2) := by decide +kernel
theorem dX7_fitNow_23 : decode mX7_fitNow.2.1 23 = .ok (.iload 6, 2) := by decide +kernel
theorem dX7_fitNow_25 : decode mX7_fitNow.2.1 25 = .ok (.aload_n 0, 1) := by decide +kernel
theorem dX7_fitNow_26 : decode mX7_fitNow.2.1 26 = .ok (.getfield 112, 3) := by decide +kernel
theorem dX7_fitNow_29 : decode mX7_fitNow.2.1 29 = .ok (.if_icmp .ge 87, 3) := by decide +kernel
theorem dX7_fitNow_32 : decode mX7_fitNow.2.1 32 = .ok (.aload_n 0, 1) := by decide +kernel
theorem dX7_fitNow_33 : decode mX7_fitNow.2.1 33 = .ok (.getfield 41, 3) := by decide +kernel
theorem dX7_fitNow_36 : decode mX7_fitNow.2.1 36 = .ok (.iload_n 1, 1) := by decide +kernel
theorem dX7_fitNow_37 : decode mX7_fitNow.2.1 37 = .ok (.iaload, 1) := by decide +kernel
theorem dX7_fitNow_38 : decode mX7_fitNow.2.1 38 = .ok (.aload_n 0, 1) := by decide +kernel
theorem dX7_fitNow_39 : decode mX7_fitNow.2.1 39 = .ok (.iload 6, 2) := by decide +kernel
theorem dX7_fitNow_41 : decode mX7_fitNow.2.1 41 = .ok (.invokevirtual 164, 3) := by decide +kernel
theorem dX7_fitNow_44 : decode mX7_fitNow.2.1 44 = .ok (.iconst (-1), 1) := by decide +kernel
theorem dX7_fitNow_45 : decode mX7_fitNow.2.1 45 = .ok (.ixor, 1) := by decide +kernel
theorem dX7_fitNow_46 : decode mX7_fitNow.2.1 46 = .ok (.iand, 1) := by decide +kernel
theorem dX7_fitNow_47 : decode mX7_fitNow.2.1 47 = .ok (.invokestatic 271, 3) := by decide +kernel
theorem dX7_fitNow_50 : decode mX7_fitNow.2.1 50 = .ok (.istore 7, 2) := by decide +kernel
theorem dX7_fitNow_52 : decode mX7_fitNow.2.1 52 = .ok (.iload_n 3, 1) := by decide +kernel
theorem dX7_fitNow_53 : decode mX7_fitNow.2.1 53 = .ok (.iload 7, 2) := by decide +kernel
theorem dX7_fitNow_55 : decode mX7_fitNow.2.1 55 = .ok (.ifCond .ne 10, 3) := by decide +kernel
theorem dX7_fitNow_58 : decode mX7_fitNow.2.1 58 = .ok (.iconst 1, 1) := by decide +kernel
theorem dX7_fitNow_59 : decode mX7_fitNow.2.1 59 = .ok (.iload 6, 2) := by decide +kernel
theorem dX7_fitNow_61 : decode mX7_fitNow.2.1 61 = .ok (.ishl, 1) := by decide +kernel
theorem dX7_fitNow_62 : decode mX7_fitNow.2.1 62 = .ok (.goto 4, 3) := by decide +kernel
theorem dX7_fitNow_65 : decode mX7_fitNow.2.1 65 = .ok (.iconst 0, 1) := by decide +kernel
theorem dX7_fitNow_66 : decode mX7_fitNow.2.1 66 = .ok (.ior, 1) := by decide +kernel
theorem dX7_fitNow_67 : decode mX7_fitNow.2.1 67 = .ok (.istore_n 3, 1) := by decide +kernel
theorem dX7_fitNow_68 : decode mX7_fitNow.2.1 68 = .ok (.iload 7, 2) := by decide +kernel
theorem dX7_fitNow_70 : decode mX7_fitNow.2.1 70 = .ok (.ifCond .le 15, 3) := by decide +kernel
theorem dX7_fitNow_73 : decode mX7_fitNow.2.1 73 = .ok (.iload 7, 2) := by decide +kernel
theorem dX7_fitNow_75 : decode mX7_fitNow.2.1 75 = .ok (.iload 5, 2) := by decide +kernel
theorem dX7_fitNow_77 : decode mX7_fitNow.2.1 77 = .ok (.if_icmp .ge 8, 3) := by decide +kernel
theorem dX7_fitNow_80 : decode mX7_fitNow.2.1 80 = .ok (.iload 6, 2) := by decide +kernel
theorem dX7_fitNow_82 : decode mX7_fitNow.2.1 82 = .ok (.goto 5, 3) := by decide +kernel
theorem dX7_fitNow_85 : decode mX7_fitNow.2.1 85 = .ok (.iload 4, 2) := by decide +kernel
theorem dX7_fitNow_87 : decode mX7_fitNow.2.1 87 = .ok (.istore 4, 2) := by decide +kernel
theorem dX7_fitNow_89 : decode mX7_fitNow.2.1 89 = .ok (.iload 7, 2) := by decide +kernel
theorem dX7_fitNow_91 : decode mX7_fitNow.2.1 91 = .ok (.ifCond .le 15, 3) := by decide +kernel
theorem dX7_fitNow_94 : decode mX7_fitNow.2.1 94 = .ok (.iload 7, 2) := by decide +kernel
theorem dX7_fitNow_96 : decode mX7_fitNow.2.1 96 = .ok (.iload 5, 2) := by decide +kernel
theorem dX7_fitNow_98 : decode mX7_fitNow.2.1 98 = .ok (.if_icmp .ge 8, 3) := by decide +kernel
theorem dX7_fitNow_101 : decode mX7_fitNow.2.1 101 = .ok (.iload 7, 2) := by decide +kernel
theorem dX7_fitNow_103 : decode mX7_fitNow.2.1 103 = .ok (.goto 5, 3) := by decide +kernel
theorem dX7_fitNow_106 : decode mX7_fitNow.2.1 106 = .ok (.iload 5, 2) := by decide +kernel
theorem dX7_fitNow_108 : decode mX7_fitNow.2.1 108 = .ok (.istore 5, 2) := by decide +kernel
theorem dX7_fitNow_110 : decode mX7_fitNow.2.1 110 = .ok (.iinc 6 1, 3) := by decide +kernel
theorem dX7_fitNow_113 : decode mX7_fitNow.2.1 113 = .ok (.goto (-90), 3) := by decide +kernel
theorem dX7_fitNow_116 : decode mX7_fitNow.2.1 116 = .ok (.iload_n 2, 1) := by decide +kernel
theorem dX7_fitNow_117 : decode mX7_fitNow.2.1 117 = .ok (.iconst 1, 1) := by decide +kernel
theorem dX7_fitNow_118 : decode mX7_fitNow.2.1 118 = .ok (.if_icmp .ne 7, 3) := by decide +kernel
theorem dX7_fitNow_121 : decode mX7_fitNow.2.1 121 = .ok (.iload_n 3, 1) := by decide +kernel
theorem dX7_fitNow_122 : decode mX7_fitNow.2.1 122 = .ok (.goto 5, 3) := by decide +kernel
theorem dX7_fitNow_125 : decode mX7_fitNow.2.1 125 = .ok (.iload 4, 2) := by decide +kernel
theorem dX7_fitNow_127 : decode mX7_fitNow.2.1 127 = .ok (.ireturn, 1) := by decide +kernel
theorem dX7_fit_0 : decode mX7_fit.2.1 0 = .ok (.iload_n 1, 1) := by decide +kernel
theorem dX7_fit_1 : decode mX7_fit.2.1 1 = .ok (.iconst 0, 1) := by decide +kernel
theorem dX7_fit_2 : decode mX7_fit.2.1 2 = .ok (.aload_n 0, 1) := by decide +kernel
theorem dX7_fit_3 : decode mX7_fit.2.1 3 = .ok (.getfield 268, 3) := by decide +kernel
theorem dX7_fit_6 : decode mX7_fit.2.1 6 = .ok (.iconst 1, 1) := by decide +kernel
theorem dX7_fit_7 : decode mX7_fit.2.1 7 = .ok (.isub, 1) := by decide +kernel
theorem dX7_fit_8 : decode mX7_fit.2.1 8 = .ok (.invokestatic 77, 3) := by decide +kernel
theorem dX7_fit_11 : decode mX7_fit.2.1 11 = .ok (.ifCond .ne 7, 3) := by decide +kernel
theorem dX7_fit_14 : decode mX7_fit.2.1 14 = .ok (.sipush (-1001), 3) := by decide +kernel
theorem dX7_fit_17 : decode mX7_fit.2.1 17 = .ok (.ireturn, 1) := by decide +kernel
theorem dX7_fit_18 : decode mX7_fit.2.1 18 = .ok (.iload_n 2, 1) := by decide +kernel
theorem dX7_fit_19 : decode mX7_fit.2.1 19 = .ok (.iconst 0, 1) := by decide +kernel
theorem dX7_fit_20 : decode mX7_fit.2.1 20 = .ok (.iconst 2, 1) := by decide +kernel
theorem dX7_fit_21 : decode mX7_fit.2.1 21 = .ok (.invokestatic 77, 3) := by decide +kernel
theorem dX7_fit_24 : decode mX7_fit.2.1 24 = .ok (.ifCond .eq 12, 3) := by decide +kernel
theorem dX7_fit_27 : decode mX7_fit.2.1 27 = .ok (.aload_n 0, 1) := by decide +kernel
theorem dX7_fit_28 : decode mX7_fit.2.1 28 = .ok (.iload_n 1, 1) := by decide +kernel
theorem dX7_fit_29 : decode mX7_fit.2.1 29 = .ok (.iload_n 2, 1) := by decide +kernel
theorem dX7_fit_30 : decode mX7_fit.2.1 30 = .ok (.invokevirtual 274, 3) := by decide +kernel
theorem dX7_fit_33 : decode mX7_fit.2.1 33 = .ok (.goto 6, 3) := by decide +kernel
theorem dX7_fit_36 : decode mX7_fit.2.1 36 = .ok (.sipush (-1002), 3) := by decide +kernel
theorem dX7_fit_39 : decode mX7_fit.2.1 39 = .ok (.ireturn, 1) := by decide +kernel
theorem dX7_common_0 : decode mX7_common.2.1 0 = .ok (.iload_n 1, 1) := by decide +kernel
theorem dX7_common_1 : decode mX7_common.2.1 1 = .ok (.iconst 1, 1) := by decide +kernel
theorem dX7_common_2 : decode mX7_common.2.1 2 = .ok (.iconst 1, 1) := by decide +kernel
theorem dX7_common_3 : decode mX7_common.2.1 3 = .ok (.aload_n 0, 1) := by decide +kernel
theorem dX7_common_4 : decode mX7_common.2.1 4 = .ok (.getfield 112, 3) := by decide +kernel
theorem dX7_common_7 : decode mX7_common.2.1 7 = .ok (.ishl, 1) := by decide +kernel
theorem dX7_common_8 : decode mX7_common.2.1 8 = .ok (.iconst 1, 1) := by decide +kernel
theorem dX7_common_9 : decode mX7_common.2.1 9 = .ok (.isub, 1) := by decide +kernel
theorem dX7_common_10 : decode mX7_common.2.1 10 = .ok (.invokestatic 77, 3) := by decide +kernel
theorem dX7_common_13 : decode mX7_common.2.1 13 = .ok (.ifCond .ne 7, 3) := by decide +kernel
theorem dX7_common_16 : decode mX7_common.2.1 16 = .ok (.sipush (-1002), 3) := by decide +kernel
theorem dX7_common_19 : decode mX7_common.2.1 19 = .ok (.ireturn, 1) := by decide +kernel
theorem dX7_common_20 : decode mX7_common.2.1 20 = .ok (.bipush 63, 2) := by decide +kernel
theorem dX7_common_22 : decode mX7_common.2.1 22 = .ok (.istore_n 2, 1) := by decide +kernel
theorem dX7_common_23 : decode mX7_common.2.1 23 = .ok (.iconst 0, 1) := by decide +kernel
theorem dX7_common_24 : decode mX7_common.2.1 24 = .ok (.istore_n 3, 1) := by decide +kernel
theorem dX7_common_25 : decode mX7_common.2.1 25 = .ok (.iload_n 3, 1) := by decide +kernel
theorem dX7_common_26 : decode mX7_common.2.1 26 = .ok (.aload_n 0, 1) := by decide +kernel
theorem dX7_common_27 : decode mX7_common.2.1 27 = .ok (.getfield 112, 3) := by decide +kernel
theorem dX7_common_30 : decode mX7_common.2.1 30 = .ok (.if_icmp .ge 30, 3) := by decide +kernel
theorem dX7_common_33 : decode mX7_common.2.1 33 = .ok (.iload_n 2, 1) := by decide +kernel
theorem dX7_common_34 : decode mX7_common.2.1 34 = .ok (.iload_n 1, 1) := by decide +kernel
theorem dX7_common_35 : decode mX7_common.2.1 35 = .ok (.iload_n 3, 1) := by decide +kernel
theorem dX7_common_36 : decode mX7_common.2.1 36 = .ok (.invokestatic 92, 3) := by decide +kernel
theorem dX7_common_39 : decode mX7_common.2.1 39 = .ok (.ifCond .eq 11, 3) := by decide +kernel
theorem dX7_common_42 : decode mX7_common.2.1 42 = .ok (.aload_n 0, 1) := by decide +kernel
theorem dX7_common_43 : decode mX7_common.2.1 43 = .ok (.iload_n 3, 1) := by decide +kernel
theorem dX7_common_44 : decode mX7_common.2.1 44 = .ok (.invokevirtual 164, 3) := by decide +kernel
theorem dX7_common_47 : decode mX7_common.2.1 47 = .ok (.goto 5, 3) := by decide +kernel
theorem dX7_common_50 : decode mX7_common.2.1 50 = .ok (.bipush 63, 2) := by decide +kernel
theorem dX7_common_52 : decode mX7_common.2.1 52 = .ok (.iand, 1) := by decide +kernel
theorem dX7_common_53 : decode mX7_common.2.1 53 = .ok (.istore_n 2, 1) := by decide +kernel
theorem dX7_common_54 : decode mX7_common.2.1 54 = .ok (.iinc 3 1, 3) := by decide +kernel
theorem dX7_common_57 : decode mX7_common.2.1 57 = .ok (.goto (-32), 3) := by decide +kernel
theorem dX7_common_60 : decode mX7_common.2.1 60 = .ok (.iload_n 2, 1) := by decide +kernel
theorem dX7_common_61 : decode mX7_common.2.1 61 = .ok (.ireturn, 1) := by decide +kernel
theorem dX7_layMet_0 : decode mX7_layMet.2.1 0 = .ok (.iconst 0, 1) := by decide +kernel
theorem dX7_layMet_1 : decode mX7_layMet.2.1 1 = .ok (.istore_n 1, 1) := by decide +kernel
theorem dX7_layMet_2 : decode mX7_layMet.2.1 2 = .ok (.iload_n 1, 1) := by decide +kernel
theorem dX7_layMet_3 : decode mX7_layMet.2.1 3 = .ok (.bipush 40, 2) := by decide +kernel
theorem dX7_layMet_5 : decode mX7_layMet.2.1 5 = .ok (.if_icmp .ge 16, 3) := by decide +kernel
theorem dX7_layMet_8 : decode mX7_layMet.2.1 8 = .ok (.aload_n 0, 1) := by decide +kernel
theorem dX7_layMet_9 : decode mX7_layMet.2.1 9 = .ok (.getfield 74, 3) := by decide +kernel
theorem dX7_layMet_12 : decode mX7_layMet.2.1 12 = .ok (.iload_n 1, 1) := by decide +kernel
theorem dX7_layMet_13 : decode mX7_layMet.2.1 13 = .ok (.iconst 0, 1) := by decide +kernel
theorem dX7_layMet_14 : decode mX7_layMet.2.1 14 = .ok (.bastore, 1) := by decide +kernel
theorem dX7_layMet_15 : decode mX7_layMet.2.1 15 = .ok (.iinc 1 1, 3) := by decide +kernel
theorem dX7_layMet_18 : decode mX7_layMet.2.1 18 = .ok (.goto (-16), 3) := by decide +kernel
theorem dX7_layMet_21 : decode mX7_layMet.2.1 21 = .ok (.aload_n 0, 1) := by decide +kernel
theorem dX7_layMet_22 : decode mX7_layMet.2.1 22 = .ok (.iconst 0, 1) := by decide +kernel
theorem dX7_layMet_23 : decode mX7_layMet.2.1 23 = .ok (.putfield 277, 3) := by decide +kernel
theorem dX7_layMet_26 : decode mX7_layMet.2.1 26 = .ok (.iconst 0, 1) := by decide +kernel
theorem dX7_layMet_27 : decode mX7_layMet.2.1 27 = .ok (.istore_n 1, 1) := by decide +kernel
theorem dX7_layMet_28 : decode mX7_layMet.2.1 28 = .ok (.iload_n 1, 1) := by decide +kernel
theorem dX7_layMet_29 : decode mX7_layMet.2.1 29 = .ok (.bipush 6, 2) := by decide +kernel
theorem dX7_layMet_31 : decode mX7_layMet.2.1 31 = .ok (.aload_n 0, 1) := by decide +kernel
theorem dX7_layMet_32 : decode mX7_layMet.2.1 32 = .ok (.getfield 112, 3) := by decide +kernel
theorem dX7_layMet_35 : decode mX7_layMet.2.1 35 = .ok (.imul, 1) := by decide +kernel
theorem dX7_layMet_36 : decode mX7_layMet.2.1 36 = .ok (.if_icmp .ge 98, 3) := by decide +kernel
theorem dX7_layMet_39 : decode mX7_layMet.2.1 39 = .ok (.aload_n 0, 1) := by decide +kernel
theorem dX7_layMet_40 : decode mX7_layMet.2.1 40 = .ok (.getfield 16, 3) := by decide +kernel
theorem dX7_layMet_43 : decode mX7_layMet.2.1 43 = .ok (.iload_n 1, 1) := by decide +kernel
theorem dX7_layMet_44 : decode mX7_layMet.2.1 44 = .ok (.bipush 6, 2) := by decide +kernel
theorem dX7_layMet_46 : decode mX7_layMet.2.1 46 = .ok (.idiv, 1) := by decide +kernel
theorem dX7_layMet_47 : decode mX7_layMet.2.1 47 = .ok (.baload, 1) := by decide +kernel
theorem dX7_layMet_48 : decode mX7_layMet.2.1 48 = .ok (.ifCond .ne 80, 3) := by decide +kernel
theorem dX7_layMet_51 : decode mX7_layMet.2.1 51 = .ok (.aload_n 0, 1) := by decide +kernel
theorem dX7_layMet_52 : decode mX7_layMet.2.1 52 = .ok (.iload_n 1, 1) := by decide +kernel
theorem dX7_layMet_53 : decode mX7_layMet.2.1 53 = .ok (.bipush 6, 2) := by decide +kernel
theorem dX7_layMet_55 : decode mX7_layMet.2.1 55 = .ok (.idiv, 1) := by decide +kernel
theorem dX7_layMet_56 : decode mX7_layMet.2.1 56 = .ok (.iload_n 1, 1) := by decide +kernel
theorem dX7_layMet_57 : decode mX7_layMet.2.1 57 = .ok (.bipush 6, 2) := by decide +kernel
theorem dX7_layMet_59 : decode mX7_layMet.2.1 59 = .ok (.irem, 1) := by decide +kernel
theorem dX7_layMet_60 : decode mX7_layMet.2.1 60 = .ok (.invokevirtual 211, 3) := by decide +kernel
theorem dX7_layMet_63 : decode mX7_layMet.2.1 63 = .ok (.ifCond .eq 65, 3) := by decide +kernel
theorem dX7_layMet_66 : decode mX7_layMet.2.1 66 = .ok (.iconst 0, 1) := by decide +kernel
theorem dX7_layMet_67 : decode mX7_layMet.2.1 67 = .ok (.istore_n 2, 1) := by decide +kernel
theorem dX7_layMet_68 : decode mX7_layMet.2.1 68 = .ok (.iload_n 2, 1) := by decide +kernel
theorem dX7_layMet_69 : decode mX7_layMet.2.1 69 = .ok (.aload_n 0, 1) := by decide +kernel
theorem dX7_layMet_70 : decode mX7_layMet.2.1 70 = .ok (.getfield 185, 3) := by decide +kernel
theorem dX7_layMet_73 : decode mX7_layMet.2.1 73 = .ok (.if_icmp .ge 55, 3) := by decide +kernel
theorem dX7_layMet_76 : decode mX7_layMet.2.1 76 = .ok (.aload_n 0, 1) := by decide +kernel
theorem dX7_layMet_77 : decode mX7_layMet.2.1 77 = .ok (.dup, 1) := by decide +kernel
theorem dX7_layMet_78 : decode mX7_layMet.2.1 78 = .ok (.getfield 277, 3) := by decide +kernel
theorem dX7_layMet_81 : decode mX7_layMet.2.1 81 = .ok (.aload_n 0, 1) := by decide +kernel
theorem dX7_layMet_82 : decode mX7_layMet.2.1 82 = .ok (.getfield 53, 3) := by decide +kernel
theorem dX7_layMet_85 : decode mX7_layMet.2.1 85 = .ok (.iload_n 2, 1) := by decide +kernel
theorem dX7_layMet_86 : decode mX7_layMet.2.1 86 = .ok (.iaload, 1) := by decide +kernel
theorem dX7_layMet_87 : decode mX7_layMet.2.1 87 = .ok (.iconst 3, 1) := by decide +kernel
theorem dX7_layMet_88 : decode mX7_layMet.2.1 88 = .ok (.if_icmp .ne 7, 3) := by decide +kernel
theorem dX7_layMet_91 : decode mX7_layMet.2.1 91 = .ok (.iconst 1, 1) := by decide +kernel
theorem dX7_layMet_92 : decode mX7_layMet.2.1 92 = .ok (.goto 4, 3) := by decide +kernel
theorem dX7_layMet_95 : decode mX7_layMet.2.1 95 = .ok (.iconst 0, 1) := by decide +kernel
theorem dX7_layMet_96 : decode mX7_layMet.2.1 96 = .ok (.iadd, 1) := by decide +kernel
theorem dX7_layMet_97 : decode mX7_layMet.2.1 97 = .ok (.putfield 277, 3) := by decide +kernel
theorem dX7_layMet_100 : decode mX7_layMet.2.1 100 = .ok (.aload_n 0, 1) := by decide +kernel
theorem dX7_layMet_101 : decode mX7_layMet.2.1 101 = .ok (.getfield 53, 3) := by decide +kernel
theorem dX7_layMet_104 : decode mX7_layMet.2.1 104 = .ok (.iload_n 2, 1) := by decide +kernel
theorem dX7_layMet_105 : decode mX7_layMet.2.1 105 = .ok (.iaload, 1) := by decide +kernel
theorem dX7_layMet_106 : decode mX7_layMet.2.1 106 = .ok (.iconst 2, 1) := by decide +kernel
theorem dX7_layMet_107 : decode mX7_layMet.2.1 107 = .ok (.if_icmp .ge 15, 3) := by decide +kernel
theorem dX7_layMet_110 : decode mX7_layMet.2.1 110 = .ok (.aload_n 0, 1) := by decide +kernel
theorem dX7_layMet_111 : decode mX7_layMet.2.1 111 = .ok (.getfield 74, 3) := by decide +kernel
theorem dX7_layMet_114 : decode mX7_layMet.2.1 114 = .ok (.aload_n 0, 1) := by decide +kernel
theorem dX7_layMet_115 : decode mX7_layMet.2.1 115 = .ok (.getfield 56, 3) := by decide +kernel
theorem dX7_layMet_118 : decode mX7_layMet.2.1 118 = .ok (.iload_n 2, 1) := by decide +kernel
theorem dX7_layMet_119 : decode mX7_layMet.2.1 119 = .ok (.iaload, 1) := by decide +kernel
theorem dX7_layMet_120 : decode mX7_layMet.2.1 120 = .ok (.iconst 1, 1) := by decide +kernel
theorem dX7_layMet_121 : decode mX7_layMet.2.1 121 = .ok (.bastore, 1) := by decide +kernel
theorem dX7_layMet_122 : decode mX7_layMet.2.1 122 = .ok (.iinc 2 1, 3) := by decide +kernel
theorem dX7_layMet_125 : decode mX7_layMet.2.1 125 = .ok (.goto (-57), 3) := by decide +kernel
theorem dX7_layMet_128 : decode mX7_layMet.2.1 128 = .ok (.iinc 1 1, 3) := by decide +kernel
theorem dX7_layMet_131 : decode mX7_layMet.2.1 131 = .ok (.goto (-103), 3) := by decide +kernel
theorem dX7_layMet_134 : decode mX7_layMet.2.1 134 = .ok (.return_, 1) := by decide +kernel
theorem dX7_deadNow_0 : decode mX7_deadNow.2.1 0 = .ok (.aload_n 0, 1) := by decide +kernel
theorem dX7_deadNow_1 : decode mX7_deadNow.2.1 1 = .ok (.getfield 74, 3) := by decide +kernel
theorem dX7_deadNow_4 : decode mX7_deadNow.2.1 4 = .ok (.iload_n 1, 1) := by decide +kernel
theorem dX7_deadNow_5 : decode mX7_deadNow.2.1 5 = .ok (.baload, 1) := by decide +kernel
theorem dX7_deadNow_6 : decode mX7_deadNow.2.1 6 = .ok (.ifCond .eq 7, 3) := by decide +kernel
theorem dX7_deadNow_9 : decode mX7_deadNow.2.1 9 = .ok (.iconst 0, 1) := by decide +kernel
theorem dX7_deadNow_10 : decode mX7_deadNow.2.1 10 = .ok (.goto 4, 3) := by decide +kernel
theorem dX7_deadNow_13 : decode mX7_deadNow.2.1 13 = .ok (.iconst 1, 1) := by decide +kernel
theorem dX7_deadNow_14 : decode mX7_deadNow.2.1 14 = .ok (.ireturn, 1) := by decide +kernel
theorem dX7_dead_0 : decode mX7_dead.2.1 0 = .ok (.iload_n 1, 1) := by decide +kernel
theorem dX7_dead_1 : decode mX7_dead.2.1 1 = .ok (.iconst 0, 1) := by decide +kernel
theorem dX7_dead_2 : decode mX7_dead.2.1 2 = .ok (.aload_n 0, 1) := by decide +kernel
theorem dX7_dead_3 : decode mX7_dead.2.1 3 = .ok (.getfield 134, 3) := by decide +kernel
theorem dX7_dead_6 : decode mX7_dead.2.1 6 = .ok (.iconst 1, 1) := by decide +kernel
theorem dX7_dead_7 : decode mX7_dead.2.1 7 = .ok (.isub, 1) := by decide +kernel
theorem dX7_dead_8 : decode mX7_dead.2.1 8 = .ok (.invokestatic 77, 3) := by decide +kernel
theorem dX7_dead_11 : decode mX7_dead.2.1 11 = .ok (.ifCond .ne 7, 3) := by decide +kernel
theorem dX7_dead_14 : decode mX7_dead.2.1 14 = .ok (.sipush (-1001), 3) := by decide +kernel
theorem dX7_dead_17 : decode mX7_dead.2.1 17 = .ok (.ireturn, 1) := by decide +kernel
theorem dX7_dead_18 : decode mX7_dead.2.1 18 = .ok (.aload_n 0, 1) := by decide +kernel
theorem dX7_dead_19 : decode mX7_dead.2.1 19 = .ok (.invokevirtual 280, 3) := by decide +kernel
theorem dX7_dead_22 : decode mX7_dead.2.1 22 = .ok (.aload_n 0, 1) := by decide +kernel
theorem dX7_dead_23 : decode mX7_dead.2.1 23 = .ok (.iload_n 1, 1) := by decide +kernel
theorem dX7_dead_24 : decode mX7_dead.2.1 24 = .ok (.invokevirtual 283, 3) := by decide +kernel
theorem dX7_dead_27 : decode mX7_dead.2.1 27 = .ok (.ireturn, 1) := by decide +kernel
theorem dX7_deadMany_0 : decode mX7_deadMany.2.1 0 = .ok (.aload_n 0, 1) := by decide +kernel
theorem dX7_deadMany_1 : decode mX7_deadMany.2.1 1 = .ok (.invokevirtual 280, 3) := by decide +kernel
theorem dX7_deadMany_4 : decode mX7_deadMany.2.1 4 = .ok (.iconst 0, 1) := by decide +kernel
theorem dX7_deadMany_5 : decode mX7_deadMany.2.1 5 = .ok (.istore_n 1, 1) := by decide +kernel
theorem dX7_deadMany_6 : decode mX7_deadMany.2.1 6 = .ok (.iconst 0, 1) := by decide +kernel
theorem dX7_deadMany_7 : decode mX7_deadMany.2.1 7 = .ok (.istore_n 2, 1) := by decide +kernel
theorem dX7_deadMany_8 : decode mX7_deadMany.2.1 8 = .ok (.iload_n 2, 1) := by decide +kernel
theorem dX7_deadMany_9 : decode mX7_deadMany.2.1 9 = .ok (.aload_n 0, 1) := by decide +kernel
theorem dX7_deadMany_10 : decode mX7_deadMany.2.1 10 = .ok (.getfield 134, 3) := by decide +kernel
theorem dX7_deadMany_13 : decode mX7_deadMany.2.1 13 = .ok (.if_icmp .ge 17, 3) := by decide +kernel
theorem dX7_deadMany_16 : decode mX7_deadMany.2.1 16 = .ok (.iload_n 1, 1) := by decide +kernel
theorem dX7_deadMany_17 : decode mX7_deadMany.2.1 17 = .ok (.aload_n 0, 1) := by decide +kernel
theorem dX7_deadMany_18 : decode mX7_deadMany.2.1 18 = .ok (.iload_n 2, 1) := by decide +kernel
theorem dX7_deadMany_19 : decode mX7_deadMany.2.1 19 = .ok (.invokevirtual 283, 3) := by decide +kernel
theorem dX7_deadMany_22 : decode mX7_deadMany.2.1 22 = .ok (.iadd, 1) := by decide +kernel
theorem dX7_deadMany_23 : decode mX7_deadMany.2.1 23 = .ok (.istore_n 1, 1) := by decide +kernel
theorem dX7_deadMany_24 : decode mX7_deadMany.2.1 24 = .ok (.iinc 2 1, 3) := by decide +kernel
theorem dX7_deadMany_27 : decode mX7_deadMany.2.1 27 = .ok (.goto (-19), 3) := by decide +kernel
theorem dX7_deadMany_30 : decode mX7_deadMany.2.1 30 = .ok (.iload_n 1, 1) := by decide +kernel
theorem dX7_deadMany_31 : decode mX7_deadMany.2.1 31 = .ok (.ireturn, 1) := by decide +kernel
theorem dX7_missingMany_0 : decode mX7_missingMany.2.1 0 = .ok (.aload_n 0, 1) := by decide +kernel
theorem dX7_missingMany_1 : decode mX7_missingMany.2.1 1 = .ok (.invokevirtual 280, 3) := by decide +kernel
theorem dX7_missingMany_4 : decode mX7_missingMany.2.1 4 = .ok (.aload_n 0, 1) := by decide +kernel
theorem dX7_missingMany_5 : decode mX7_missingMany.2.1 5 = .ok (.getfield 277, 3) := by decide +kernel
theorem dX7_missingMany_8 : decode mX7_missingMany.2.1 8 = .ok (.ireturn, 1) := by decide +kernel
theorem dX7_howMany_0 : decode mX7_howMany.2.1 0 = .ok (.iload_n 1, 1) := by decide +kernel
theorem dX7_howMany_1 : decode mX7_howMany.2.1 1 = .ok (.tableswitch 96 0 8 #[51, 56, 61, 66, 71, 76, 81, 86, 91], 51) := by decide +kernel
theorem dX7_howMany_52 : decode mX7_howMany.2.1 52 = .ok (.aload_n 0, 1) := by decide +kernel
theorem dX7_howMany_53 : decode mX7_howMany.2.1 53 = .ok (.getfield 81, 3) := by decide +kernel
theorem dX7_howMany_56 : decode mX7_howMany.2.1 56 = .ok (.ireturn, 1) := by decide +kernel
theorem dX7_howMany_57 : decode mX7_howMany.2.1 57 = .ok (.aload_n 0, 1) := by decide +kernel
theorem dX7_howMany_58 : decode mX7_howMany.2.1 58 = .ok (.getfield 112, 3) := by decide +kernel
theorem dX7_howMany_61 : decode mX7_howMany.2.1 61 = .ok (.ireturn, 1) := by decide +kernel
theorem dX7_howMany_62 : decode mX7_howMany.2.1 62 = .ok (.aload_n 0, 1) := by decide +kernel
theorem dX7_howMany_63 : decode mX7_howMany.2.1 63 = .ok (.getfield 134, 3) := by decide +kernel
theorem dX7_howMany_66 : decode mX7_howMany.2.1 66 = .ok (.ireturn, 1) := by decide +kernel
theorem dX7_howMany_67 : decode mX7_howMany.2.1 67 = .ok (.aload_n 0, 1) := by decide +kernel
theorem dX7_howMany_68 : decode mX7_howMany.2.1 68 = .ok (.getfield 137, 3) := by decide +kernel
theorem dX7_howMany_71 : decode mX7_howMany.2.1 71 = .ok (.ireturn, 1) := by decide +kernel
theorem dX7_howMany_72 : decode mX7_howMany.2.1 72 = .ok (.aload_n 0, 1) := by decide +kernel
theorem dX7_howMany_73 : decode mX7_howMany.2.1 73 = .ok (.getfield 268, 3) := by decide +kernel
theorem dX7_howMany_76 : decode mX7_howMany.2.1 76 = .ok (.ireturn, 1) := by decide +kernel
theorem dX7_howMany_77 : decode mX7_howMany.2.1 77 = .ok (.aload_n 0, 1) := by decide +kernel
theorem dX7_howMany_78 : decode mX7_howMany.2.1 78 = .ok (.getfield 250, 3) := by decide +kernel
theorem dX7_howMany_81 : decode mX7_howMany.2.1 81 = .ok (.ireturn, 1) := by decide +kernel
theorem dX7_howMany_82 : decode mX7_howMany.2.1 82 = .ok (.aload_n 0, 1) := by decide +kernel
theorem dX7_howMany_83 : decode mX7_howMany.2.1 83 = .ok (.getfield 253, 3) := by decide +kernel
theorem dX7_howMany_86 : decode mX7_howMany.2.1 86 = .ok (.ireturn, 1) := by decide +kernel
theorem dX7_howMany_87 : decode mX7_howMany.2.1 87 = .ok (.aload_n 0, 1) := by decide +kernel
theorem dX7_howMany_88 : decode mX7_howMany.2.1 88 = .ok (.invokevirtual 286, 3) := by decide +kernel
theorem dX7_howMany_91 : decode mX7_howMany.2.1 91 = .ok (.ireturn, 1) := by decide +kernel
theorem dX7_howMany_92 : decode mX7_howMany.2.1 92 = .ok (.aload_n 0, 1) := by decide +kernel
theorem dX7_howMany_93 : decode mX7_howMany.2.1 93 = .ok (.invokevirtual 289, 3) := by decide +kernel
theorem dX7_howMany_96 : decode mX7_howMany.2.1 96 = .ok (.ireturn, 1) := by decide +kernel
theorem dX7_howMany_97 : decode mX7_howMany.2.1 97 = .ok (.sipush (-1002), 3) := by decide +kernel
theorem dX7_howMany_100 : decode mX7_howMany.2.1 100 = .ok (.ireturn, 1) := by decide +kernel
theorem dX7_count_0 : decode mX7_count.2.1 0 = .ok (.aload_n 0, 1) := by decide +kernel
theorem dX7_count_1 : decode mX7_count.2.1 1 = .ok (.iload_n 1, 1) := by decide +kernel
theorem dX7_count_2 : decode mX7_count.2.1 2 = .ok (.invokevirtual 292, 3) := by decide +kernel
theorem dX7_count_5 : decode mX7_count.2.1 5 = .ok (.ireturn, 1) := by decide +kernel
theorem dX7_mix_0 : decode mX7_mix.2.1 0 = .ok (.aload_n 0, 1) := by decide +kernel
theorem dX7_mix_1 : decode mX7_mix.2.1 1 = .ok (.ldc2_w 295, 3) := by decide +kernel
theorem dX7_mix_4 : decode mX7_mix.2.1 4 = .ok (.aload_n 0, 1) := by decide +kernel
theorem dX7_mix_5 : decode mX7_mix.2.1 5 = .ok (.getfield 297, 3) := by decide +kernel
theorem dX7_mix_8 : decode mX7_mix.2.1 8 = .ok (.lmul, 1) := by decide +kernel
theorem dX7_mix_9 : decode mX7_mix.2.1 9 = .ok (.lload_n 1, 1) := by decide +kernel
theorem dX7_mix_10 : decode mX7_mix.2.1 10 = .ok (.ladd, 1) := by decide +kernel
theorem dX7_mix_11 : decode mX7_mix.2.1 11 = .ok (.putfield 297, 3) := by decide +kernel
theorem dX7_mix_14 : decode mX7_mix.2.1 14 = .ok (.return_, 1) := by decide +kernel
theorem dX7_mixMethod_0 : decode mX7_mixMethod.2.1 0 = .ok (.aload_n 0, 1) := by decide +kernel
theorem dX7_mixMethod_1 : decode mX7_mixMethod.2.1 1 = .ok (.aload_n 0, 1) := by decide +kernel
theorem dX7_mixMethod_2 : decode mX7_mixMethod.2.1 2 = .ok (.iload_n 1, 1) := by decide +kernel
theorem dX7_mixMethod_3 : decode mX7_mixMethod.2.1 3 = .ok (.iload_n 2, 1) := by decide +kernel
theorem dX7_mixMethod_4 : decode mX7_mixMethod.2.1 4 = .ok (.iconst 0, 1) := by decide +kernel
theorem dX7_mixMethod_5 : decode mX7_mixMethod.2.1 5 = .ok (.invokevirtual 179, 3) := by decide +kernel
theorem dX7_mixMethod_8 : decode mX7_mixMethod.2.1 8 = .ok (.i2l, 1) := by decide +kernel
theorem dX7_mixMethod_9 : decode mX7_mixMethod.2.1 9 = .ok (.invokevirtual 301, 3) := by decide +kernel
theorem dX7_mixMethod_12 : decode mX7_mixMethod.2.1 12 = .ok (.aload_n 0, 1) := by decide +kernel
theorem dX7_mixMethod_13 : decode mX7_mixMethod.2.1 13 = .ok (.aload_n 0, 1) := by decide +kernel
theorem dX7_mixMethod_14 : decode mX7_mixMethod.2.1 14 = .ok (.iload_n 1, 1) := by decide +kernel
theorem dX7_mixMethod_15 : decode mX7_mixMethod.2.1 15 = .ok (.iload_n 2, 1) := by decide +kernel
theorem dX7_mixMethod_16 : decode mX7_mixMethod.2.1 16 = .ok (.iconst 1, 1) := by decide +kernel
theorem dX7_mixMethod_17 : decode mX7_mixMethod.2.1 17 = .ok (.invokevirtual 179, 3) := by decide +kernel
theorem dX7_mixMethod_20 : decode mX7_mixMethod.2.1 20 = .ok (.i2l, 1) := by decide +kernel
theorem dX7_mixMethod_21 : decode mX7_mixMethod.2.1 21 = .ok (.invokevirtual 301, 3) := by decide +kernel
theorem dX7_mixMethod_24 : decode mX7_mixMethod.2.1 24 = .ok (.aload_n 0, 1) := by decide +kernel
theorem dX7_mixMethod_25 : decode mX7_mixMethod.2.1 25 = .ok (.aload_n 0, 1) := by decide +kernel
theorem dX7_mixMethod_26 : decode mX7_mixMethod.2.1 26 = .ok (.iload_n 1, 1) := by decide +kernel
theorem dX7_mixMethod_27 : decode mX7_mixMethod.2.1 27 = .ok (.iload_n 2, 1) := by decide +kernel
theorem dX7_mixMethod_28 : decode mX7_mixMethod.2.1 28 = .ok (.iconst 0, 1) := by decide +kernel
theorem dX7_mixMethod_29 : decode mX7_mixMethod.2.1 29 = .ok (.invokevirtual 214, 3) := by decide +kernel
theorem dX7_mixMethod_32 : decode mX7_mixMethod.2.1 32 = .ok (.i2l, 1) := by decide +kernel
theorem dX7_mixMethod_33 : decode mX7_mixMethod.2.1 33 = .ok (.invokevirtual 301, 3) := by decide +kernel
theorem dX7_mixMethod_36 : decode mX7_mixMethod.2.1 36 = .ok (.aload_n 0, 1) := by decide +kernel
theorem dX7_mixMethod_37 : decode mX7_mixMethod.2.1 37 = .ok (.aload_n 0, 1) := by decide +kernel
theorem dX7_mixMethod_38 : decode mX7_mixMethod.2.1 38 = .ok (.iload_n 1, 1) := by decide +kernel
theorem dX7_mixMethod_39 : decode mX7_mixMethod.2.1 39 = .ok (.iload_n 2, 1) := by decide +kernel
theorem dX7_mixMethod_40 : decode mX7_mixMethod.2.1 40 = .ok (.iconst 1, 1) := by decide +kernel
theorem dX7_mixMethod_41 : decode mX7_mixMethod.2.1 41 = .ok (.invokevirtual 214, 3) := by decide +kernel
theorem dX7_mixMethod_44 : decode mX7_mixMethod.2.1 44 = .ok (.i2l, 1) := by decide +kernel
theorem dX7_mixMethod_45 : decode mX7_mixMethod.2.1 45 = .ok (.invokevirtual 301, 3) := by decide +kernel
theorem dX7_mixMethod_48 : decode mX7_mixMethod.2.1 48 = .ok (.iconst 0, 1) := by decide +kernel
theorem dX7_mixMethod_49 : decode mX7_mixMethod.2.1 49 = .ok (.istore_n 3, 1) := by decide +kernel
theorem dX7_mixMethod_50 : decode mX7_mixMethod.2.1 50 = .ok (.iload_n 3, 1) := by decide +kernel
theorem dX7_mixMethod_51 : decode mX7_mixMethod.2.1 51 = .ok (.aload_n 0, 1) := by decide +kernel
theorem dX7_mixMethod_52 : decode mX7_mixMethod.2.1 52 = .ok (.getfield 185, 3) := by decide +kernel
theorem dX7_mixMethod_55 : decode mX7_mixMethod.2.1 55 = .ok (.if_icmp .ge 31, 3) := by decide +kernel
theorem dX7_mixMethod_58 : decode mX7_mixMethod.2.1 58 = .ok (.aload_n 0, 1) := by decide +kernel
theorem dX7_mixMethod_59 : decode mX7_mixMethod.2.1 59 = .ok (.aload_n 0, 1) := by decide +kernel
theorem dX7_mixMethod_60 : decode mX7_mixMethod.2.1 60 = .ok (.getfield 53, 3) := by decide +kernel
theorem dX7_mixMethod_63 : decode mX7_mixMethod.2.1 63 = .ok (.iload_n 3, 1) := by decide +kernel
theorem dX7_mixMethod_64 : decode mX7_mixMethod.2.1 64 = .ok (.iaload, 1) := by decide +kernel
theorem dX7_mixMethod_65 : decode mX7_mixMethod.2.1 65 = .ok (.i2l, 1) := by decide +kernel
theorem dX7_mixMethod_66 : decode mX7_mixMethod.2.1 66 = .ok (.invokevirtual 301, 3) := by decide +kernel
theorem dX7_mixMethod_69 : decode mX7_mixMethod.2.1 69 = .ok (.aload_n 0, 1) := by decide +kernel
theorem dX7_mixMethod_70 : decode mX7_mixMethod.2.1 70 = .ok (.aload_n 0, 1) := by decide +kernel
theorem dX7_mixMethod_71 : decode mX7_mixMethod.2.1 71 = .ok (.getfield 56, 3) := by decide +kernel
theorem dX7_mixMethod_74 : decode mX7_mixMethod.2.1 74 = .ok (.iload_n 3, 1) := by decide +kernel
theorem dX7_mixMethod_75 : decode mX7_mixMethod.2.1 75 = .ok (.iaload, 1) := by decide +kernel
theorem dX7_mixMethod_76 : decode mX7_mixMethod.2.1 76 = .ok (.i2l, 1) := by decide +kernel
theorem dX7_mixMethod_77 : decode mX7_mixMethod.2.1 77 = .ok (.invokevirtual 301, 3) := by decide +kernel
theorem dX7_mixMethod_80 : decode mX7_mixMethod.2.1 80 = .ok (.iinc 3 1, 3) := by decide +kernel
theorem dX7_mixMethod_83 : decode mX7_mixMethod.2.1 83 = .ok (.goto (-33), 3) := by decide +kernel
theorem dX7_mixMethod_86 : decode mX7_mixMethod.2.1 86 = .ok (.return_, 1) := by decide +kernel
theorem dX7_mixTypes_0 : decode mX7_mixTypes.2.1 0 = .ok (.iconst 0, 1) := by decide +kernel
theorem dX7_mixTypes_1 : decode mX7_mixTypes.2.1 1 = .ok (.istore_n 1, 1) := by decide +kernel
theorem dX7_mixTypes_2 : decode mX7_mixTypes.2.1 2 = .ok (.iload_n 1, 1) := by decide +kernel
theorem dX7_mixTypes_3 : decode mX7_mixTypes.2.1 3 = .ok (.aload_n 0, 1) := by decide +kernel
theorem dX7_mixTypes_4 : decode mX7_mixTypes.2.1 4 = .ok (.getfield 112, 3) := by decide +kernel
theorem dX7_mixTypes_7 : decode mX7_mixTypes.2.1 7 = .ok (.if_icmp .ge 79, 3) := by decide +kernel
theorem dX7_mixTypes_10 : decode mX7_mixTypes.2.1 10 = .ok (.iconst 0, 1) := by decide +kernel
theorem dX7_mixTypes_11 : decode mX7_mixTypes.2.1 11 = .ok (.istore_n 2, 1) := by decide +kernel
theorem dX7_mixTypes_12 : decode mX7_mixTypes.2.1 12 = .ok (.iload_n 2, 1) := by decide +kernel
theorem dX7_mixTypes_13 : decode mX7_mixTypes.2.1 13 = .ok (.bipush 7, 2) := by decide +kernel
theorem dX7_mixTypes_15 : decode mX7_mixTypes.2.1 15 = .ok (.if_icmp .ge 20, 3) := by decide +kernel
theorem dX7_mixTypes_18 : decode mX7_mixTypes.2.1 18 = .ok (.aload_n 0, 1) := by decide +kernel
theorem dX7_mixTypes_19 : decode mX7_mixTypes.2.1 19 = .ok (.aload_n 0, 1) := by decide +kernel
theorem dX7_mixTypes_20 : decode mX7_mixTypes.2.1 20 = .ok (.iload_n 1, 1) := by decide +kernel
theorem dX7_mixTypes_21 : decode mX7_mixTypes.2.1 21 = .ok (.iload_n 2, 1) := by decide +kernel
theorem dX7_mixTypes_22 : decode mX7_mixTypes.2.1 22 = .ok (.invokevirtual 170, 3) := by decide +kernel
theorem dX7_mixTypes_25 : decode mX7_mixTypes.2.1 25 = .ok (.i2l, 1) := by decide +kernel
theorem dX7_mixTypes_26 : decode mX7_mixTypes.2.1 26 = .ok (.invokevirtual 301, 3) := by decide +kernel
theorem dX7_mixTypes_29 : decode mX7_mixTypes.2.1 29 = .ok (.iinc 2 1, 3) := by decide +kernel
theorem dX7_mixTypes_32 : decode mX7_mixTypes.2.1 32 = .ok (.goto (-20), 3) := by decide +kernel
theorem dX7_mixTypes_35 : decode mX7_mixTypes.2.1 35 = .ok (.iconst 0, 1) := by decide +kernel
theorem dX7_mixTypes_36 : decode mX7_mixTypes.2.1 36 = .ok (.istore_n 2, 1) := by decide +kernel
theorem dX7_mixTypes_37 : decode mX7_mixTypes.2.1 37 = .ok (.iload_n 2, 1) := by decide +kernel
theorem dX7_mixTypes_38 : decode mX7_mixTypes.2.1 38 = .ok (.bipush 12, 2) := by decide +kernel
theorem dX7_mixTypes_40 : decode mX7_mixTypes.2.1 40 = .ok (.if_icmp .ge 20, 3) := by decide +kernel
theorem dX7_mixTypes_43 : decode mX7_mixTypes.2.1 43 = .ok (.aload_n 0, 1) := by decide +kernel
theorem dX7_mixTypes_44 : decode mX7_mixTypes.2.1 44 = .ok (.aload_n 0, 1) := by decide +kernel
theorem dX7_mixTypes_45 : decode mX7_mixTypes.2.1 45 = .ok (.iload_n 1, 1) := by decide +kernel
theorem dX7_mixTypes_46 : decode mX7_mixTypes.2.1 46 = .ok (.iload_n 2, 1) := by decide +kernel
theorem dX7_mixTypes_47 : decode mX7_mixTypes.2.1 47 = .ok (.invokevirtual 150, 3) := by decide +kernel
theorem dX7_mixTypes_50 : decode mX7_mixTypes.2.1 50 = .ok (.i2l, 1) := by decide +kernel
theorem dX7_mixTypes_51 : decode mX7_mixTypes.2.1 51 = .ok (.invokevirtual 301, 3) := by decide +kernel
theorem dX7_mixTypes_54 : decode mX7_mixTypes.2.1 54 = .ok (.iinc 2 1, 3) := by decide +kernel
theorem dX7_mixTypes_57 : decode mX7_mixTypes.2.1 57 = .ok (.goto (-20), 3) := by decide +kernel
theorem dX7_mixTypes_60 : decode mX7_mixTypes.2.1 60 = .ok (.iconst 0, 1) := by decide +kernel
theorem dX7_mixTypes_61 : decode mX7_mixTypes.2.1 61 = .ok (.istore_n 2, 1) := by decide +kernel
theorem dX7_mixTypes_62 : decode mX7_mixTypes.2.1 62 = .ok (.iload_n 2, 1) := by decide +kernel
theorem dX7_mixTypes_63 : decode mX7_mixTypes.2.1 63 = .ok (.bipush 6, 2) := by decide +kernel
theorem dX7_mixTypes_65 : decode mX7_mixTypes.2.1 65 = .ok (.if_icmp .ge 15, 3) := by decide +kernel
theorem dX7_mixTypes_68 : decode mX7_mixTypes.2.1 68 = .ok (.aload_n 0, 1) := by decide +kernel
theorem dX7_mixTypes_69 : decode mX7_mixTypes.2.1 69 = .ok (.iload_n 1, 1) := by decide +kernel
theorem dX7_mixTypes_70 : decode mX7_mixTypes.2.1 70 = .ok (.iload_n 2, 1) := by decide +kernel
theorem dX7_mixTypes_71 : decode mX7_mixTypes.2.1 71 = .ok (.invokevirtual 305, 3) := by decide +kernel
theorem dX7_mixTypes_74 : decode mX7_mixTypes.2.1 74 = .ok (.iinc 2 1, 3) := by decide +kernel
theorem dX7_mixTypes_77 : decode mX7_mixTypes.2.1 77 = .ok (.goto (-15), 3) := by decide +kernel
theorem dX7_mixTypes_80 : decode mX7_mixTypes.2.1 80 = .ok (.iinc 1 1, 3) := by decide +kernel
theorem dX7_mixTypes_83 : decode mX7_mixTypes.2.1 83 = .ok (.goto (-81), 3) := by decide +kernel
theorem dX7_mixTypes_86 : decode mX7_mixTypes.2.1 86 = .ok (.return_, 1) := by decide +kernel
theorem dX7_digest_0 : decode mX7_digest.2.1 0 = .ok (.aload_n 0, 1) := by decide +kernel
theorem dX7_digest_1 : decode mX7_digest.2.1 1 = .ok (.ldc2_w 308, 3) := by decide +kernel
theorem dX7_digest_4 : decode mX7_digest.2.1 4 = .ok (.putfield 297, 3) := by decide +kernel
theorem dX7_digest_7 : decode mX7_digest.2.1 7 = .ok (.aload_n 0, 1) := by decide +kernel
theorem dX7_digest_8 : decode mX7_digest.2.1 8 = .ok (.invokevirtual 310, 3) := by decide +kernel
theorem dX7_digest_11 : decode mX7_digest.2.1 11 = .ok (.aload_n 0, 1) := by decide +kernel
theorem dX7_digest_12 : decode mX7_digest.2.1 12 = .ok (.invokevirtual 280, 3) := by decide +kernel
theorem dX7_digest_15 : decode mX7_digest.2.1 15 = .ok (.iconst 0, 1) := by decide +kernel
theorem dX7_digest_16 : decode mX7_digest.2.1 16 = .ok (.istore_n 1, 1) := by decide +kernel
theorem dX7_digest_17 : decode mX7_digest.2.1 17 = .ok (.iload_n 1, 1) := by decide +kernel
theorem dX7_digest_18 : decode mX7_digest.2.1 18 = .ok (.aload_n 0, 1) := by decide +kernel
theorem dX7_digest_19 : decode mX7_digest.2.1 19 = .ok (.getfield 134, 3) := by decide +kernel
theorem dX7_digest_22 : decode mX7_digest.2.1 22 = .ok (.if_icmp .ge 56, 3) := by decide +kernel
theorem dX7_digest_25 : decode mX7_digest.2.1 25 = .ok (.aload_n 0, 1) := by decide +kernel
theorem dX7_digest_26 : decode mX7_digest.2.1 26 = .ok (.aload_n 0, 1) := by decide +kernel
theorem dX7_digest_27 : decode mX7_digest.2.1 27 = .ok (.iload_n 1, 1) := by decide +kernel
theorem dX7_digest_28 : decode mX7_digest.2.1 28 = .ok (.iconst 0, 1) := by decide +kernel
theorem dX7_digest_29 : decode mX7_digest.2.1 29 = .ok (.invokevirtual 182, 3) := by decide +kernel
theorem dX7_digest_32 : decode mX7_digest.2.1 32 = .ok (.i2l, 1) := by decide +kernel
theorem dX7_digest_33 : decode mX7_digest.2.1 33 = .ok (.invokevirtual 301, 3) := by decide +kernel
theorem dX7_digest_36 : decode mX7_digest.2.1 36 = .ok (.bipush 10, 2) := by decide +kernel
theorem dX7_digest_38 : decode mX7_digest.2.1 38 = .ok (.istore_n 2, 1) := by decide +kernel
theorem dX7_digest_39 : decode mX7_digest.2.1 39 = .ok (.iload_n 2, 1) := by decide +kernel
theorem dX7_digest_40 : decode mX7_digest.2.1 40 = .ok (.bipush 16, 2) := by decide +kernel
theorem dX7_digest_42 : decode mX7_digest.2.1 42 = .ok (.if_icmp .ge 20, 3) := by decide +kernel
theorem dX7_digest_45 : decode mX7_digest.2.1 45 = .ok (.aload_n 0, 1) := by decide +kernel
theorem dX7_digest_46 : decode mX7_digest.2.1 46 = .ok (.aload_n 0, 1) := by decide +kernel
theorem dX7_digest_47 : decode mX7_digest.2.1 47 = .ok (.iload_n 1, 1) := by decide +kernel
theorem dX7_digest_48 : decode mX7_digest.2.1 48 = .ok (.iload_n 2, 1) := by decide +kernel
theorem dX7_digest_49 : decode mX7_digest.2.1 49 = .ok (.invokevirtual 182, 3) := by decide +kernel
theorem dX7_digest_52 : decode mX7_digest.2.1 52 = .ok (.i2l, 1) := by decide +kernel
theorem dX7_digest_53 : decode mX7_digest.2.1 53 = .ok (.invokevirtual 301, 3) := by decide +kernel
theorem dX7_digest_56 : decode mX7_digest.2.1 56 = .ok (.iinc 2 1, 3) := by decide +kernel
theorem dX7_digest_59 : decode mX7_digest.2.1 59 = .ok (.goto (-20), 3) := by decide +kernel
theorem dX7_digest_62 : decode mX7_digest.2.1 62 = .ok (.aload_n 0, 1) := by decide +kernel
theorem dX7_digest_63 : decode mX7_digest.2.1 63 = .ok (.aload_n 0, 1) := by decide +kernel
theorem dX7_digest_64 : decode mX7_digest.2.1 64 = .ok (.iload_n 1, 1) := by decide +kernel
theorem dX7_digest_65 : decode mX7_digest.2.1 65 = .ok (.invokevirtual 283, 3) := by decide +kernel
theorem dX7_digest_68 : decode mX7_digest.2.1 68 = .ok (.i2l, 1) := by decide +kernel
theorem dX7_digest_69 : decode mX7_digest.2.1 69 = .ok (.invokevirtual 301, 3) := by decide +kernel
theorem dX7_digest_72 : decode mX7_digest.2.1 72 = .ok (.iinc 1 1, 3) := by decide +kernel
theorem dX7_digest_75 : decode mX7_digest.2.1 75 = .ok (.goto (-58), 3) := by decide +kernel
theorem dX7_digest_78 : decode mX7_digest.2.1 78 = .ok (.aload_n 0, 1) := by decide +kernel
theorem dX7_digest_79 : decode mX7_digest.2.1 79 = .ok (.invokevirtual 265, 3) := by decide +kernel
theorem dX7_digest_82 : decode mX7_digest.2.1 82 = .ok (.aload_n 0, 1) := by decide +kernel
theorem dX7_digest_83 : decode mX7_digest.2.1 83 = .ok (.aload_n 0, 1) := by decide +kernel
theorem dX7_digest_84 : decode mX7_digest.2.1 84 = .ok (.getfield 256, 3) := by decide +kernel
theorem dX7_digest_87 : decode mX7_digest.2.1 87 = .ok (.i2l, 1) := by decide +kernel
theorem dX7_digest_88 : decode mX7_digest.2.1 88 = .ok (.invokevirtual 301, 3) := by decide +kernel
theorem dX7_digest_91 : decode mX7_digest.2.1 91 = .ok (.aload_n 0, 1) := by decide +kernel
theorem dX7_digest_92 : decode mX7_digest.2.1 92 = .ok (.aload_n 0, 1) := by decide +kernel
theorem dX7_digest_93 : decode mX7_digest.2.1 93 = .ok (.getfield 259, 3) := by decide +kernel
theorem dX7_digest_96 : decode mX7_digest.2.1 96 = .ok (.i2l, 1) := by decide +kernel
theorem dX7_digest_97 : decode mX7_digest.2.1 97 = .ok (.invokevirtual 301, 3) := by decide +kernel
theorem dX7_digest_100 : decode mX7_digest.2.1 100 = .ok (.aload_n 0, 1) := by decide +kernel
theorem dX7_digest_101 : decode mX7_digest.2.1 101 = .ok (.aload_n 0, 1) := by decide +kernel
theorem dX7_digest_102 : decode mX7_digest.2.1 102 = .ok (.getfield 262, 3) := by decide +kernel
theorem dX7_digest_105 : decode mX7_digest.2.1 105 = .ok (.i2l, 1) := by decide +kernel
theorem dX7_digest_106 : decode mX7_digest.2.1 106 = .ok (.invokevirtual 301, 3) := by decide +kernel
theorem dX7_digest_109 : decode mX7_digest.2.1 109 = .ok (.iconst 0, 1) := by decide +kernel
theorem dX7_digest_110 : decode mX7_digest.2.1 110 = .ok (.istore_n 1, 1) := by decide +kernel
theorem dX7_digest_111 : decode mX7_digest.2.1 111 = .ok (.iload_n 1, 1) := by decide +kernel
theorem dX7_digest_112 : decode mX7_digest.2.1 112 = .ok (.iconst 3, 1) := by decide +kernel
theorem dX7_digest_113 : decode mX7_digest.2.1 113 = .ok (.aload_n 0, 1) := by decide +kernel
theorem dX7_digest_114 : decode mX7_digest.2.1 114 = .ok (.getfield 268, 3) := by decide +kernel
theorem dX7_digest_117 : decode mX7_digest.2.1 117 = .ok (.imul, 1) := by decide +kernel
theorem dX7_digest_118 : decode mX7_digest.2.1 118 = .ok (.if_icmp .ge 24, 3) := by decide +kernel
theorem dX7_digest_121 : decode mX7_digest.2.1 121 = .ok (.aload_n 0, 1) := by decide +kernel
theorem dX7_digest_122 : decode mX7_digest.2.1 122 = .ok (.aload_n 0, 1) := by decide +kernel
theorem dX7_digest_123 : decode mX7_digest.2.1 123 = .ok (.iload_n 1, 1) := by decide +kernel
theorem dX7_digest_124 : decode mX7_digest.2.1 124 = .ok (.iconst 3, 1) := by decide +kernel
theorem dX7_digest_125 : decode mX7_digest.2.1 125 = .ok (.idiv, 1) := by decide +kernel
theorem dX7_digest_126 : decode mX7_digest.2.1 126 = .ok (.iload_n 1, 1) := by decide +kernel
theorem dX7_digest_127 : decode mX7_digest.2.1 127 = .ok (.iconst 3, 1) := by decide +kernel
theorem dX7_digest_128 : decode mX7_digest.2.1 128 = .ok (.irem, 1) := by decide +kernel
theorem dX7_digest_129 : decode mX7_digest.2.1 129 = .ok (.invokevirtual 274, 3) := by decide +kernel
theorem dX7_digest_132 : decode mX7_digest.2.1 132 = .ok (.i2l, 1) := by decide +kernel
theorem dX7_digest_133 : decode mX7_digest.2.1 133 = .ok (.invokevirtual 301, 3) := by decide +kernel
theorem dX7_digest_136 : decode mX7_digest.2.1 136 = .ok (.iinc 1 1, 3) := by decide +kernel
theorem dX7_digest_139 : decode mX7_digest.2.1 139 = .ok (.goto (-28), 3) := by decide +kernel
theorem dX7_digest_142 : decode mX7_digest.2.1 142 = .ok (.iconst 0, 1) := by decide +kernel
theorem dX7_digest_143 : decode mX7_digest.2.1 143 = .ok (.istore_n 1, 1) := by decide +kernel
theorem dX7_digest_144 : decode mX7_digest.2.1 144 = .ok (.iload_n 1, 1) := by decide +kernel
theorem dX7_digest_145 : decode mX7_digest.2.1 145 = .ok (.aload_n 0, 1) := by decide +kernel
theorem dX7_digest_146 : decode mX7_digest.2.1 146 = .ok (.getfield 81, 3) := by decide +kernel
theorem dX7_digest_149 : decode mX7_digest.2.1 149 = .ok (.if_icmp .ge 20, 3) := by decide +kernel
theorem dX7_digest_152 : decode mX7_digest.2.1 152 = .ok (.aload_n 0, 1) := by decide +kernel
theorem dX7_digest_153 : decode mX7_digest.2.1 153 = .ok (.aload_n 0, 1) := by decide +kernel
theorem dX7_digest_154 : decode mX7_digest.2.1 154 = .ok (.getfield 7, 3) := by decide +kernel
theorem dX7_digest_157 : decode mX7_digest.2.1 157 = .ok (.iload_n 1, 1) := by decide +kernel
theorem dX7_digest_158 : decode mX7_digest.2.1 158 = .ok (.iaload, 1) := by decide +kernel
theorem dX7_digest_159 : decode mX7_digest.2.1 159 = .ok (.i2l, 1) := by decide +kernel
theorem dX7_digest_160 : decode mX7_digest.2.1 160 = .ok (.invokevirtual 301, 3) := by decide +kernel
theorem dX7_digest_163 : decode mX7_digest.2.1 163 = .ok (.iinc 1 1, 3) := by decide +kernel
theorem dX7_digest_166 : decode mX7_digest.2.1 166 = .ok (.goto (-22), 3) := by decide +kernel
theorem dX7_digest_169 : decode mX7_digest.2.1 169 = .ok (.iconst 0, 1) := by decide +kernel
theorem dX7_digest_170 : decode mX7_digest.2.1 170 = .ok (.istore_n 1, 1) := by decide +kernel
theorem dX7_digest_171 : decode mX7_digest.2.1 171 = .ok (.iload_n 1, 1) := by decide +kernel
theorem dX7_digest_172 : decode mX7_digest.2.1 172 = .ok (.bipush 9, 2) := by decide +kernel
theorem dX7_digest_174 : decode mX7_digest.2.1 174 = .ok (.if_icmp .ge 19, 3) := by decide +kernel
theorem dX7_digest_177 : decode mX7_digest.2.1 177 = .ok (.aload_n 0, 1) := by decide +kernel
theorem dX7_digest_178 : decode mX7_digest.2.1 178 = .ok (.aload_n 0, 1) := by decide +kernel
theorem dX7_digest_179 : decode mX7_digest.2.1 179 = .ok (.iload_n 1, 1) := by decide +kernel
theorem dX7_digest_180 : decode mX7_digest.2.1 180 = .ok (.invokevirtual 292, 3) := by decide +kernel
theorem dX7_digest_183 : decode mX7_digest.2.1 183 = .ok (.i2l, 1) := by decide +kernel
theorem dX7_digest_184 : decode mX7_digest.2.1 184 = .ok (.invokevirtual 301, 3) := by decide +kernel
theorem dX7_digest_187 : decode mX7_digest.2.1 187 = .ok (.iinc 1 1, 3) := by decide +kernel
theorem dX7_digest_190 : decode mX7_digest.2.1 190 = .ok (.goto (-19), 3) := by decide +kernel
theorem dX7_digest_193 : decode mX7_digest.2.1 193 = .ok (.aload_n 0, 1) := by decide +kernel
theorem dX7_digest_194 : decode mX7_digest.2.1 194 = .ok (.getfield 297, 3) := by decide +kernel
theorem dX7_digest_197 : decode mX7_digest.2.1 197 = .ok (.lreturn, 1) := by decide +kernel
