theorem dX1_init_0 : decode cX1_init 0 = .ok (.aload_n 0, 1) := by decide +kernel
theorem dX1_init_1 : decode cX1_init 1 = .ok (.invokespecial 1, 3) := by decide +kernel
theorem dX1_init_4 : decode cX1_init 4 = .ok (.aload_n 0, 1) := by decide +kernel
theorem dX1_init_5 : decode cX1_init 5 = .ok (.iconst 4, 1) := by decide +kernel
theorem dX1_init_6 : decode cX1_init 6 = .ok (.putfield 7, 3) := by decide +kernel
theorem dX1_init_9 : decode cX1_init 9 = .ok (.aload_n 0, 1) := by decide +kernel
theorem dX1_init_10 : decode cX1_init 10 = .ok (.sipush 256, 3) := by decide +kernel
theorem dX1_init_13 : decode cX1_init 13 = .ok (.newarray .int, 2) := by decide +kernel
theorem dX1_init_15 : decode cX1_init 15 = .ok (.putfield 13, 3) := by decide +kernel
theorem dX1_init_18 : decode cX1_init 18 = .ok (.aload_n 0, 1) := by decide +kernel
theorem dX1_init_19 : decode cX1_init 19 = .ok (.sipush 2048, 3) := by decide +kernel
theorem dX1_init_22 : decode cX1_init 22 = .ok (.newarray .int, 2) := by decide +kernel
theorem dX1_init_24 : decode cX1_init 24 = .ok (.putfield 17, 3) := by decide +kernel
theorem dX1_init_27 : decode cX1_init 27 = .ok (.aload_n 0, 1) := by decide +kernel
theorem dX1_init_28 : decode cX1_init 28 = .ok (.bipush 16, 2) := by decide +kernel
theorem dX1_init_30 : decode cX1_init 30 = .ok (.newarray .int, 2) := by decide +kernel
theorem dX1_init_32 : decode cX1_init 32 = .ok (.putfield 20, 3) := by decide +kernel
theorem dX1_init_35 : decode cX1_init 35 = .ok (.aload_n 0, 1) := by decide +kernel
theorem dX1_init_36 : decode cX1_init 36 = .ok (.sipush 2064, 3) := by decide +kernel
theorem dX1_init_39 : decode cX1_init 39 = .ok (.newarray .int, 2) := by decide +kernel
theorem dX1_init_41 : decode cX1_init 41 = .ok (.putfield 23, 3) := by decide +kernel
theorem dX1_init_44 : decode cX1_init 44 = .ok (.aload_n 0, 1) := by decide +kernel
theorem dX1_init_45 : decode cX1_init 45 = .ok (.sipush 4099, 3) := by decide +kernel
theorem dX1_init_48 : decode cX1_init 48 = .ok (.newarray .int, 2) := by decide +kernel
theorem dX1_init_50 : decode cX1_init 50 = .ok (.putfield 26, 3) := by decide +kernel
theorem dX1_init_53 : decode cX1_init 53 = .ok (.aload_n 0, 1) := by decide +kernel
theorem dX1_init_54 : decode cX1_init 54 = .ok (.sipush 4099, 3) := by decide +kernel
theorem dX1_init_57 : decode cX1_init 57 = .ok (.newarray .int, 2) := by decide +kernel
theorem dX1_init_59 : decode cX1_init 59 = .ok (.putfield 29, 3) := by decide +kernel
theorem dX1_init_62 : decode cX1_init 62 = .ok (.iconst 0, 1) := by decide +kernel
theorem dX1_init_63 : decode cX1_init 63 = .ok (.istore_n 1, 1) := by decide +kernel
theorem dX1_init_64 : decode cX1_init 64 = .ok (.iload_n 1, 1) := by decide +kernel
theorem dX1_init_65 : decode cX1_init 65 = .ok (.iconst 4, 1) := by decide +kernel
theorem dX1_init_66 : decode cX1_init 66 = .ok (.if_icmp .ge 16, 3) := by decide +kernel
theorem dX1_init_69 : decode cX1_init 69 = .ok (.aload_n 0, 1) := by decide +kernel
theorem dX1_init_70 : decode cX1_init 70 = .ok (.getfield 13, 3) := by decide +kernel
theorem dX1_init_73 : decode cX1_init 73 = .ok (.iload_n 1, 1) := by decide +kernel
theorem dX1_init_74 : decode cX1_init 74 = .ok (.iload_n 1, 1) := by decide +kernel
theorem dX1_init_75 : decode cX1_init 75 = .ok (.iastore, 1) := by decide +kernel
theorem dX1_init_76 : decode cX1_init 76 = .ok (.iinc 1 1, 3) := by decide +kernel
theorem dX1_init_79 : decode cX1_init 79 = .ok (.goto (-15), 3) := by decide +kernel
theorem dX1_init_82 : decode cX1_init 82 = .ok (.return_, 1) := by decide +kernel
theorem dX1_thrown_0 : decode cX1_thrown 0 = .ok (.aload_n 0, 1) := by decide +kernel
theorem dX1_thrown_1 : decode cX1_thrown 1 = .ok (.getfield 32, 3) := by decide +kernel
theorem dX1_thrown_4 : decode cX1_thrown 4 = .ok (.ireturn, 1) := by decide +kernel
theorem dX1_goes_0 : decode cX1_goes 0 = .ok (.aload_n 0, 1) := by decide +kernel
theorem dX1_goes_1 : decode cX1_goes 1 = .ok (.iload_n 1, 1) := by decide +kernel
theorem dX1_goes_2 : decode cX1_goes 2 = .ok (.ifCond .ne 7, 3) := by decide +kernel
theorem dX1_goes_5 : decode cX1_goes 5 = .ok (.iconst 1, 1) := by decide +kernel
theorem dX1_goes_6 : decode cX1_goes 6 = .ok (.goto 12, 3) := by decide +kernel
theorem dX1_goes_9 : decode cX1_goes 9 = .ok (.iload_n 2, 1) := by decide +kernel
theorem dX1_goes_10 : decode cX1_goes 10 = .ok (.ifCond .ne 7, 3) := by decide +kernel
theorem dX1_goes_13 : decode cX1_goes 13 = .ok (.iconst 2, 1) := by decide +kernel
theorem dX1_goes_14 : decode cX1_goes 14 = .ok (.goto 4, 3) := by decide +kernel
theorem dX1_goes_17 : decode cX1_goes 17 = .ok (.iconst 0, 1) := by decide +kernel
theorem dX1_goes_18 : decode cX1_goes 18 = .ok (.putfield 32, 3) := by decide +kernel
theorem dX1_goes_21 : decode cX1_goes 21 = .ok (.aload_n 0, 1) := by decide +kernel
theorem dX1_goes_22 : decode cX1_goes 22 = .ok (.getfield 32, 3) := by decide +kernel
theorem dX1_goes_25 : decode cX1_goes 25 = .ok (.ifCond .ne 7, 3) := by decide +kernel
theorem dX1_goes_28 : decode cX1_goes 28 = .ok (.iconst 1, 1) := by decide +kernel
theorem dX1_goes_29 : decode cX1_goes 29 = .ok (.goto 4, 3) := by decide +kernel
theorem dX1_goes_32 : decode cX1_goes 32 = .ok (.iconst 0, 1) := by decide +kernel
theorem dX1_goes_33 : decode cX1_goes 33 = .ok (.ireturn, 1) := by decide +kernel
theorem dX1_isMutator_0 : decode cX1_isMutator 0 = .ok (.iload_n 0, 1) := by decide +kernel
theorem dX1_isMutator_1 : decode cX1_isMutator 1 = .ok (.ifCond .lt 12, 3) := by decide +kernel
theorem dX1_isMutator_4 : decode cX1_isMutator 4 = .ok (.iload_n 0, 1) := by decide +kernel
theorem dX1_isMutator_5 : decode cX1_isMutator 5 = .ok (.iconst 4, 1) := by decide +kernel
theorem dX1_isMutator_6 : decode cX1_isMutator 6 = .ok (.if_icmp .ge 7, 3) := by decide +kernel
theorem dX1_isMutator_9 : decode cX1_isMutator 9 = .ok (.iconst 1, 1) := by decide +kernel
theorem dX1_isMutator_10 : decode cX1_isMutator 10 = .ok (.goto 4, 3) := by decide +kernel
theorem dX1_isMutator_13 : decode cX1_isMutator 13 = .ok (.iconst 0, 1) := by decide +kernel
theorem dX1_isMutator_14 : decode cX1_isMutator 14 = .ok (.ireturn, 1) := by decide +kernel
theorem dX1_isValue_0 : decode cX1_isValue 0 = .ok (.iload_n 0, 1) := by decide +kernel
theorem dX1_isValue_1 : decode cX1_isValue 1 = .ok (.ifCond .lt 13, 3) := by decide +kernel
theorem dX1_isValue_4 : decode cX1_isValue 4 = .ok (.iload_n 0, 1) := by decide +kernel
theorem dX1_isValue_5 : decode cX1_isValue 5 = .ok (.ldc 35, 2) := by decide +kernel
theorem dX1_isValue_7 : decode cX1_isValue 7 = .ok (.if_icmp .gt 7, 3) := by decide +kernel
theorem dX1_isValue_10 : decode cX1_isValue 10 = .ok (.iconst 1, 1) := by decide +kernel
theorem dX1_isValue_11 : decode cX1_isValue 11 = .ok (.goto 4, 3) := by decide +kernel
theorem dX1_isValue_14 : decode cX1_isValue 14 = .ok (.iconst 0, 1) := by decide +kernel
theorem dX1_isValue_15 : decode cX1_isValue 15 = .ok (.ireturn, 1) := by decide +kernel
theorem dX1_framesOf_0 : decode cX1_framesOf 0 = .ok (.iconst 0, 1) := by decide +kernel
theorem dX1_framesOf_1 : decode cX1_framesOf 1 = .ok (.istore_n 2, 1) := by decide +kernel
theorem dX1_framesOf_2 : decode cX1_framesOf 2 = .ok (.iconst 0, 1) := by decide +kernel
theorem dX1_framesOf_3 : decode cX1_framesOf 3 = .ok (.istore_n 3, 1) := by decide +kernel
theorem dX1_framesOf_4 : decode cX1_framesOf 4 = .ok (.iload_n 3, 1) := by decide +kernel
theorem dX1_framesOf_5 : decode cX1_framesOf 5 = .ok (.aload_n 0, 1) := by decide +kernel
theorem dX1_framesOf_6 : decode cX1_framesOf 6 = .ok (.getfield 7, 3) := by decide +kernel
theorem dX1_framesOf_9 : decode cX1_framesOf 9 = .ok (.if_icmp .ge 27, 3) := by decide +kernel
theorem dX1_framesOf_12 : decode cX1_framesOf 12 = .ok (.aload_n 0, 1) := by decide +kernel
theorem dX1_framesOf_13 : decode cX1_framesOf 13 = .ok (.getfield 13, 3) := by decide +kernel
theorem dX1_framesOf_16 : decode cX1_framesOf 16 = .ok (.iload_n 3, 1) := by decide +kernel
theorem dX1_framesOf_17 : decode cX1_framesOf 17 = .ok (.iaload, 1) := by decide +kernel
theorem dX1_framesOf_18 : decode cX1_framesOf 18 = .ok (.iload_n 1, 1) := by decide +kernel
theorem dX1_framesOf_19 : decode cX1_framesOf 19 = .ok (.if_icmp .ne 9, 3) := by decide +kernel
theorem dX1_framesOf_22 : decode cX1_framesOf 22 = .ok (.iload_n 2, 1) := by decide +kernel
theorem dX1_framesOf_23 : decode cX1_framesOf 23 = .ok (.iconst 1, 1) := by decide +kernel
theorem dX1_framesOf_24 : decode cX1_framesOf 24 = .ok (.iadd, 1) := by decide +kernel
theorem dX1_framesOf_25 : decode cX1_framesOf 25 = .ok (.goto 4, 3) := by decide +kernel
theorem dX1_framesOf_28 : decode cX1_framesOf 28 = .ok (.iload_n 2, 1) := by decide +kernel
theorem dX1_framesOf_29 : decode cX1_framesOf 29 = .ok (.istore_n 2, 1) := by decide +kernel
theorem dX1_framesOf_30 : decode cX1_framesOf 30 = .ok (.iinc 3 1, 3) := by decide +kernel
theorem dX1_framesOf_33 : decode cX1_framesOf 33 = .ok (.goto (-29), 3) := by decide +kernel
theorem dX1_framesOf_36 : decode cX1_framesOf 36 = .ok (.iload_n 2, 1) := by decide +kernel
theorem dX1_framesOf_37 : decode cX1_framesOf 37 = .ok (.ireturn, 1) := by decide +kernel
theorem dX1_frame_0 : decode cX1_frame 0 = .ok (.iload_n 2, 1) := by decide +kernel
theorem dX1_frame_1 : decode cX1_frame 1 = .ok (.istore_n 3, 1) := by decide +kernel
theorem dX1_frame_2 : decode cX1_frame 2 = .ok (.iconst 0, 1) := by decide +kernel
theorem dX1_frame_3 : decode cX1_frame 3 = .ok (.istore 4, 2) := by decide +kernel
theorem dX1_frame_5 : decode cX1_frame 5 = .ok (.iload 4, 2) := by decide +kernel
theorem dX1_frame_7 : decode cX1_frame 7 = .ok (.aload_n 0, 1) := by decide +kernel
theorem dX1_frame_8 : decode cX1_frame 8 = .ok (.getfield 7, 3) := by decide +kernel
theorem dX1_frame_11 : decode cX1_frame 11 = .ok (.if_icmp .ge 43, 3) := by decide +kernel
theorem dX1_frame_14 : decode cX1_frame 14 = .ok (.aload_n 0, 1) := by decide +kernel
theorem dX1_frame_15 : decode cX1_frame 15 = .ok (.getfield 13, 3) := by decide +kernel
theorem dX1_frame_18 : decode cX1_frame 18 = .ok (.iload 4, 2) := by decide +kernel
theorem dX1_frame_20 : decode cX1_frame 20 = .ok (.iaload, 1) := by decide +kernel
theorem dX1_frame_21 : decode cX1_frame 21 = .ok (.iload_n 1, 1) := by decide +kernel
theorem dX1_frame_22 : decode cX1_frame 22 = .ok (.if_icmp .ne 9, 3) := by decide +kernel
theorem dX1_frame_25 : decode cX1_frame 25 = .ok (.iload_n 3, 1) := by decide +kernel
theorem dX1_frame_26 : decode cX1_frame 26 = .ok (.iconst 1, 1) := by decide +kernel
theorem dX1_frame_27 : decode cX1_frame 27 = .ok (.isub, 1) := by decide +kernel
theorem dX1_frame_28 : decode cX1_frame 28 = .ok (.goto 4, 3) := by decide +kernel
theorem dX1_frame_31 : decode cX1_frame 31 = .ok (.iload_n 3, 1) := by decide +kernel
theorem dX1_frame_32 : decode cX1_frame 32 = .ok (.istore_n 3, 1) := by decide +kernel
theorem dX1_frame_33 : decode cX1_frame 33 = .ok (.iload_n 3, 1) := by decide +kernel
theorem dX1_frame_34 : decode cX1_frame 34 = .ok (.ifCond .ge 14, 3) := by decide +kernel
theorem dX1_frame_37 : decode cX1_frame 37 = .ok (.iload_n 2, 1) := by decide +kernel
theorem dX1_frame_38 : decode cX1_frame 38 = .ok (.ifCond .ge 7, 3) := by decide +kernel
theorem dX1_frame_41 : decode cX1_frame 41 = .ok (.iconst (-1), 1) := by decide +kernel
theorem dX1_frame_42 : decode cX1_frame 42 = .ok (.goto 5, 3) := by decide +kernel
theorem dX1_frame_45 : decode cX1_frame 45 = .ok (.iload 4, 2) := by decide +kernel
theorem dX1_frame_47 : decode cX1_frame 47 = .ok (.ireturn, 1) := by decide +kernel
theorem dX1_frame_48 : decode cX1_frame 48 = .ok (.iinc 4 1, 3) := by decide +kernel
theorem dX1_frame_51 : decode cX1_frame 51 = .ok (.goto (-46), 3) := by decide +kernel
theorem dX1_frame_54 : decode cX1_frame 54 = .ok (.iconst (-1), 1) := by decide +kernel
theorem dX1_frame_55 : decode cX1_frame 55 = .ok (.ireturn, 1) := by decide +kernel
theorem dX1_drop_0 : decode cX1_drop 0 = .ok (.iload_n 1, 1) := by decide +kernel
theorem dX1_drop_1 : decode cX1_drop 1 = .ok (.istore_n 2, 1) := by decide +kernel
theorem dX1_drop_2 : decode cX1_drop 2 = .ok (.iload_n 2, 1) := by decide +kernel
theorem dX1_drop_3 : decode cX1_drop 3 = .ok (.iconst 1, 1) := by decide +kernel
theorem dX1_drop_4 : decode cX1_drop 4 = .ok (.iadd, 1) := by decide +kernel
theorem dX1_drop_5 : decode cX1_drop 5 = .ok (.aload_n 0, 1) := by decide +kernel
theorem dX1_drop_6 : decode cX1_drop 6 = .ok (.getfield 7, 3) := by decide +kernel
theorem dX1_drop_9 : decode cX1_drop 9 = .ok (.if_icmp .ge 62, 3) := by decide +kernel
theorem dX1_drop_12 : decode cX1_drop 12 = .ok (.aload_n 0, 1) := by decide +kernel
theorem dX1_drop_13 : decode cX1_drop 13 = .ok (.getfield 13, 3) := by decide +kernel
theorem dX1_drop_16 : decode cX1_drop 16 = .ok (.iload_n 2, 1) := by decide +kernel
theorem dX1_drop_17 : decode cX1_drop 17 = .ok (.aload_n 0, 1) := by decide +kernel
theorem dX1_drop_18 : decode cX1_drop 18 = .ok (.getfield 13, 3) := by decide +kernel
theorem dX1_drop_21 : decode cX1_drop 21 = .ok (.iload_n 2, 1) := by decide +kernel
theorem dX1_drop_22 : decode cX1_drop 22 = .ok (.iconst 1, 1) := by decide +kernel
theorem dX1_drop_23 : decode cX1_drop 23 = .ok (.iadd, 1) := by decide +kernel
theorem dX1_drop_24 : decode cX1_drop 24 = .ok (.iaload, 1) := by decide +kernel
theorem dX1_drop_25 : decode cX1_drop 25 = .ok (.iastore, 1) := by decide +kernel
theorem dX1_drop_26 : decode cX1_drop 26 = .ok (.iconst 0, 1) := by decide +kernel
theorem dX1_drop_27 : decode cX1_drop 27 = .ok (.istore_n 3, 1) := by decide +kernel
theorem dX1_drop_28 : decode cX1_drop 28 = .ok (.iload_n 3, 1) := by decide +kernel
theorem dX1_drop_29 : decode cX1_drop 29 = .ok (.bipush 8, 2) := by decide +kernel
theorem dX1_drop_31 : decode cX1_drop 31 = .ok (.if_icmp .ge 34, 3) := by decide +kernel
theorem dX1_drop_34 : decode cX1_drop 34 = .ok (.aload_n 0, 1) := by decide +kernel
theorem dX1_drop_35 : decode cX1_drop 35 = .ok (.getfield 17, 3) := by decide +kernel
theorem dX1_drop_38 : decode cX1_drop 38 = .ok (.bipush 8, 2) := by decide +kernel
theorem dX1_drop_40 : decode cX1_drop 40 = .ok (.iload_n 2, 1) := by decide +kernel
theorem dX1_drop_41 : decode cX1_drop 41 = .ok (.imul, 1) := by decide +kernel
theorem dX1_drop_42 : decode cX1_drop 42 = .ok (.iload_n 3, 1) := by decide +kernel
theorem dX1_drop_43 : decode cX1_drop 43 = .ok (.iadd, 1) := by decide +kernel
theorem dX1_drop_44 : decode cX1_drop 44 = .ok (.aload_n 0, 1) := by decide +kernel
theorem dX1_drop_45 : decode cX1_drop 45 = .ok (.getfield 17, 3) := by decide +kernel
theorem dX1_drop_48 : decode cX1_drop 48 = .ok (.bipush 8, 2) := by decide +kernel
theorem dX1_drop_50 : decode cX1_drop 50 = .ok (.iload_n 2, 1) := by decide +kernel
theorem dX1_drop_51 : decode cX1_drop 51 = .ok (.imul, 1) := by decide +kernel
theorem dX1_drop_52 : decode cX1_drop 52 = .ok (.bipush 8, 2) := by decide +kernel
theorem dX1_drop_54 : decode cX1_drop 54 = .ok (.iadd, 1) := by decide +kernel
theorem dX1_drop_55 : decode cX1_drop 55 = .ok (.iload_n 3, 1) := by decide +kernel
theorem dX1_drop_56 : decode cX1_drop 56 = .ok (.iadd, 1) := by decide +kernel
theorem dX1_drop_57 : decode cX1_drop 57 = .ok (.iaload, 1) := by decide +kernel
theorem dX1_drop_58 : decode cX1_drop 58 = .ok (.iastore, 1) := by decide +kernel
theorem dX1_drop_59 : decode cX1_drop 59 = .ok (.iinc 3 1, 3) := by decide +kernel
theorem dX1_drop_62 : decode cX1_drop 62 = .ok (.goto (-34), 3) := by decide +kernel
theorem dX1_drop_65 : decode cX1_drop 65 = .ok (.iinc 2 1, 3) := by decide +kernel
theorem dX1_drop_68 : decode cX1_drop 68 = .ok (.goto (-66), 3) := by decide +kernel
theorem dX1_drop_71 : decode cX1_drop 71 = .ok (.aload_n 0, 1) := by decide +kernel
theorem dX1_drop_72 : decode cX1_drop 72 = .ok (.dup, 1) := by decide +kernel
theorem dX1_drop_73 : decode cX1_drop 73 = .ok (.getfield 7, 3) := by decide +kernel
theorem dX1_drop_76 : decode cX1_drop 76 = .ok (.iconst 1, 1) := by decide +kernel
theorem dX1_drop_77 : decode cX1_drop 77 = .ok (.isub, 1) := by decide +kernel
theorem dX1_drop_78 : decode cX1_drop 78 = .ok (.putfield 7, 3) := by decide +kernel
theorem dX1_drop_81 : decode cX1_drop 81 = .ok (.return_, 1) := by decide +kernel
theorem dX1_call_0 : decode cX1_call 0 = .ok (.aload_n 0, 1) := by decide +kernel
theorem dX1_call_1 : decode cX1_call 1 = .ok (.iload_n 1, 1) := by decide +kernel
theorem dX1_call_2 : decode cX1_call 2 = .ok (.invokestatic 36, 3) := by decide +kernel
theorem dX1_call_5 : decode cX1_call 5 = .ok (.aload_n 0, 1) := by decide +kernel
theorem dX1_call_6 : decode cX1_call 6 = .ok (.iload_n 1, 1) := by decide +kernel
theorem dX1_call_7 : decode cX1_call 7 = .ok (.invokevirtual 40, 3) := by decide +kernel
theorem dX1_call_10 : decode cX1_call 10 = .ok (.bipush 64, 2) := by decide +kernel
theorem dX1_call_12 : decode cX1_call 12 = .ok (.if_icmp .ge 7, 3) := by decide +kernel
theorem dX1_call_15 : decode cX1_call 15 = .ok (.iconst 1, 1) := by decide +kernel
theorem dX1_call_16 : decode cX1_call 16 = .ok (.goto 4, 3) := by decide +kernel
theorem dX1_call_19 : decode cX1_call 19 = .ok (.iconst 0, 1) := by decide +kernel
theorem dX1_call_20 : decode cX1_call 20 = .ok (.invokevirtual 44, 3) := by decide +kernel
theorem dX1_call_23 : decode cX1_call 23 = .ok (.ifCond .ne 5, 3) := by decide +kernel
theorem dX1_call_26 : decode cX1_call 26 = .ok (.iconst 0, 1) := by decide +kernel
theorem dX1_call_27 : decode cX1_call 27 = .ok (.ireturn, 1) := by decide +kernel
theorem dX1_call_28 : decode cX1_call 28 = .ok (.aload_n 0, 1) := by decide +kernel
theorem dX1_call_29 : decode cX1_call 29 = .ok (.getfield 13, 3) := by decide +kernel
theorem dX1_call_32 : decode cX1_call 32 = .ok (.aload_n 0, 1) := by decide +kernel
theorem dX1_call_33 : decode cX1_call 33 = .ok (.getfield 7, 3) := by decide +kernel
theorem dX1_call_36 : decode cX1_call 36 = .ok (.iload_n 1, 1) := by decide +kernel
theorem dX1_call_37 : decode cX1_call 37 = .ok (.iastore, 1) := by decide +kernel
theorem dX1_call_38 : decode cX1_call 38 = .ok (.iconst 0, 1) := by decide +kernel
theorem dX1_call_39 : decode cX1_call 39 = .ok (.istore_n 2, 1) := by decide +kernel
theorem dX1_call_40 : decode cX1_call 40 = .ok (.iload_n 2, 1) := by decide +kernel
theorem dX1_call_41 : decode cX1_call 41 = .ok (.bipush 8, 2) := by decide +kernel
theorem dX1_call_43 : decode cX1_call 43 = .ok (.if_icmp .ge 24, 3) := by decide +kernel
theorem dX1_call_46 : decode cX1_call 46 = .ok (.aload_n 0, 1) := by decide +kernel
theorem dX1_call_47 : decode cX1_call 47 = .ok (.getfield 17, 3) := by decide +kernel
theorem dX1_call_50 : decode cX1_call 50 = .ok (.bipush 8, 2) := by decide +kernel
theorem dX1_call_52 : decode cX1_call 52 = .ok (.aload_n 0, 1) := by decide +kernel
theorem dX1_call_53 : decode cX1_call 53 = .ok (.getfield 7, 3) := by decide +kernel
theorem dX1_call_56 : decode cX1_call 56 = .ok (.imul, 1) := by decide +kernel
theorem dX1_call_57 : decode cX1_call 57 = .ok (.iload_n 2, 1) := by decide +kernel
theorem dX1_call_58 : decode cX1_call 58 = .ok (.iadd, 1) := by decide +kernel
theorem dX1_call_59 : decode cX1_call 59 = .ok (.iconst 0, 1) := by decide +kernel
theorem dX1_call_60 : decode cX1_call 60 = .ok (.iastore, 1) := by decide +kernel
theorem dX1_call_61 : decode cX1_call 61 = .ok (.iinc 2 1, 3) := by decide +kernel
theorem dX1_call_64 : decode cX1_call 64 = .ok (.goto (-24), 3) := by decide +kernel
theorem dX1_call_67 : decode cX1_call 67 = .ok (.aload_n 0, 1) := by decide +kernel
theorem dX1_call_68 : decode cX1_call 68 = .ok (.dup, 1) := by decide +kernel
theorem dX1_call_69 : decode cX1_call 69 = .ok (.getfield 7, 3) := by decide +kernel
theorem dX1_call_72 : decode cX1_call 72 = .ok (.iconst 1, 1) := by decide +kernel
theorem dX1_call_73 : decode cX1_call 73 = .ok (.iadd, 1) := by decide +kernel
theorem dX1_call_74 : decode cX1_call 74 = .ok (.putfield 7, 3) := by decide +kernel
theorem dX1_call_77 : decode cX1_call 77 = .ok (.aload_n 0, 1) := by decide +kernel
theorem dX1_call_78 : decode cX1_call 78 = .ok (.dup, 1) := by decide +kernel
theorem dX1_call_79 : decode cX1_call 79 = .ok (.getfield 48, 3) := by decide +kernel
theorem dX1_call_82 : decode cX1_call 82 = .ok (.iconst 1, 1) := by decide +kernel
theorem dX1_call_83 : decode cX1_call 83 = .ok (.iadd, 1) := by decide +kernel
theorem dX1_call_84 : decode cX1_call 84 = .ok (.putfield 48, 3) := by decide +kernel
theorem dX1_call_87 : decode cX1_call 87 = .ok (.aload_n 0, 1) := by decide +kernel
theorem dX1_call_88 : decode cX1_call 88 = .ok (.iload_n 1, 1) := by decide +kernel
theorem dX1_call_89 : decode cX1_call 89 = .ok (.invokevirtual 40, 3) := by decide +kernel
theorem dX1_call_92 : decode cX1_call 92 = .ok (.ireturn, 1) := by decide +kernel
theorem dX1_leave_0 : decode cX1_leave 0 = .ok (.aload_n 0, 1) := by decide +kernel
theorem dX1_leave_1 : decode cX1_leave 1 = .ok (.iload_n 1, 1) := by decide +kernel
theorem dX1_leave_2 : decode cX1_leave 2 = .ok (.invokestatic 36, 3) := by decide +kernel
theorem dX1_leave_5 : decode cX1_leave 5 = .ok (.ifCond .eq 17, 3) := by decide +kernel
theorem dX1_leave_8 : decode cX1_leave 8 = .ok (.iload_n 2, 1) := by decide +kernel
theorem dX1_leave_9 : decode cX1_leave 9 = .ok (.ifCond .lt 13, 3) := by decide +kernel
theorem dX1_leave_12 : decode cX1_leave 12 = .ok (.iload_n 2, 1) := by decide +kernel
theorem dX1_leave_13 : decode cX1_leave 13 = .ok (.bipush 8, 2) := by decide +kernel
theorem dX1_leave_15 : decode cX1_leave 15 = .ok (.if_icmp .ge 7, 3) := by decide +kernel
theorem dX1_leave_18 : decode cX1_leave 18 = .ok (.iconst 1, 1) := by decide +kernel
theorem dX1_leave_19 : decode cX1_leave 19 = .ok (.goto 4, 3) := by decide +kernel
theorem dX1_leave_22 : decode cX1_leave 22 = .ok (.iconst 0, 1) := by decide +kernel
theorem dX1_leave_23 : decode cX1_leave 23 = .ok (.aload_n 0, 1) := by decide +kernel
theorem dX1_leave_24 : decode cX1_leave 24 = .ok (.iload_n 1, 1) := by decide +kernel
theorem dX1_leave_25 : decode cX1_leave 25 = .ok (.invokevirtual 40, 3) := by decide +kernel
theorem dX1_leave_28 : decode cX1_leave 28 = .ok (.iconst 1, 1) := by decide +kernel
theorem dX1_leave_29 : decode cX1_leave 29 = .ok (.if_icmp .le 7, 3) := by decide +kernel
theorem dX1_leave_32 : decode cX1_leave 32 = .ok (.iconst 1, 1) := by decide +kernel
theorem dX1_leave_33 : decode cX1_leave 33 = .ok (.goto 4, 3) := by decide +kernel
theorem dX1_leave_36 : decode cX1_leave 36 = .ok (.iconst 0, 1) := by decide +kernel
theorem dX1_leave_37 : decode cX1_leave 37 = .ok (.invokevirtual 44, 3) := by decide +kernel
theorem dX1_leave_40 : decode cX1_leave 40 = .ok (.ifCond .ne 5, 3) := by decide +kernel
theorem dX1_leave_43 : decode cX1_leave 43 = .ok (.iconst 0, 1) := by decide +kernel
theorem dX1_leave_44 : decode cX1_leave 44 = .ok (.ireturn, 1) := by decide +kernel
theorem dX1_leave_45 : decode cX1_leave 45 = .ok (.aload_n 0, 1) := by decide +kernel
theorem dX1_leave_46 : decode cX1_leave 46 = .ok (.iload_n 1, 1) := by decide +kernel
theorem dX1_leave_47 : decode cX1_leave 47 = .ok (.invokevirtual 40, 3) := by decide +kernel
theorem dX1_leave_50 : decode cX1_leave 50 = .ok (.istore_n 3, 1) := by decide +kernel
theorem dX1_leave_51 : decode cX1_leave 51 = .ok (.aload_n 0, 1) := by decide +kernel
theorem dX1_leave_52 : decode cX1_leave 52 = .ok (.iload_n 1, 1) := by decide +kernel
theorem dX1_leave_53 : decode cX1_leave 53 = .ok (.iload_n 3, 1) := by decide +kernel
theorem dX1_leave_54 : decode cX1_leave 54 = .ok (.iconst 1, 1) := by decide +kernel
theorem dX1_leave_55 : decode cX1_leave 55 = .ok (.isub, 1) := by decide +kernel
theorem dX1_leave_56 : decode cX1_leave 56 = .ok (.invokevirtual 51, 3) := by decide +kernel
theorem dX1_leave_59 : decode cX1_leave 59 = .ok (.istore 4, 2) := by decide +kernel
theorem dX1_leave_61 : decode cX1_leave 61 = .ok (.aload_n 0, 1) := by decide +kernel
theorem dX1_leave_62 : decode cX1_leave 62 = .ok (.getfield 17, 3) := by decide +kernel
theorem dX1_leave_65 : decode cX1_leave 65 = .ok (.bipush 8, 2) := by decide +kernel
theorem dX1_leave_67 : decode cX1_leave 67 = .ok (.aload_n 0, 1) := by decide +kernel
theorem dX1_leave_68 : decode cX1_leave 68 = .ok (.iload_n 1, 1) := by decide +kernel
theorem dX1_leave_69 : decode cX1_leave 69 = .ok (.iload_n 3, 1) := by decide +kernel
theorem dX1_leave_70 : decode cX1_leave 70 = .ok (.iconst 2, 1) := by decide +kernel
theorem dX1_leave_71 : decode cX1_leave 71 = .ok (.isub, 1) := by decide +kernel
theorem dX1_leave_72 : decode cX1_leave 72 = .ok (.invokevirtual 51, 3) := by decide +kernel
theorem dX1_leave_75 : decode cX1_leave 75 = .ok (.imul, 1) := by decide +kernel
theorem dX1_leave_76 : decode cX1_leave 76 = .ok (.aload_n 0, 1) := by decide +kernel
theorem dX1_leave_77 : decode cX1_leave 77 = .ok (.getfield 17, 3) := by decide +kernel
theorem dX1_leave_80 : decode cX1_leave 80 = .ok (.bipush 8, 2) := by decide +kernel
theorem dX1_leave_82 : decode cX1_leave 82 = .ok (.iload 4, 2) := by decide +kernel
theorem dX1_leave_84 : decode cX1_leave 84 = .ok (.imul, 1) := by decide +kernel
theorem dX1_leave_85 : decode cX1_leave 85 = .ok (.iload_n 2, 1) := by decide +kernel
theorem dX1_leave_86 : decode cX1_leave 86 = .ok (.iadd, 1) := by decide +kernel
theorem dX1_leave_87 : decode cX1_leave 87 = .ok (.iaload, 1) := by decide +kernel
theorem dX1_leave_88 : decode cX1_leave 88 = .ok (.iastore, 1) := by decide +kernel
theorem dX1_leave_89 : decode cX1_leave 89 = .ok (.aload_n 0, 1) := by decide +kernel
theorem dX1_leave_90 : decode cX1_leave 90 = .ok (.iload 4, 2) := by decide +kernel
theorem dX1_leave_92 : decode cX1_leave 92 = .ok (.invokevirtual 55, 3) := by decide +kernel
theorem dX1_leave_95 : decode cX1_leave 95 = .ok (.iload_n 3, 1) := by decide +kernel
theorem dX1_leave_96 : decode cX1_leave 96 = .ok (.iconst 1, 1) := by decide +kernel
theorem dX1_leave_97 : decode cX1_leave 97 = .ok (.isub, 1) := by decide +kernel
theorem dX1_leave_98 : decode cX1_leave 98 = .ok (.ireturn, 1) := by decide +kernel
theorem dX1_cut_0 : decode cX1_cut 0 = .ok (.aload_n 0, 1) := by decide +kernel
theorem dX1_cut_1 : decode cX1_cut 1 = .ok (.iload_n 1, 1) := by decide +kernel
theorem dX1_cut_2 : decode cX1_cut 2 = .ok (.invokestatic 36, 3) := by decide +kernel
theorem dX1_cut_5 : decode cX1_cut 5 = .ok (.ifCond .eq 21, 3) := by decide +kernel
theorem dX1_cut_8 : decode cX1_cut 8 = .ok (.iload_n 2, 1) := by decide +kernel
theorem dX1_cut_9 : decode cX1_cut 9 = .ok (.iconst 1, 1) := by decide +kernel
theorem dX1_cut_10 : decode cX1_cut 10 = .ok (.if_icmp .lt 16, 3) := by decide +kernel
theorem dX1_cut_13 : decode cX1_cut 13 = .ok (.iload_n 2, 1) := by decide +kernel
theorem dX1_cut_14 : decode cX1_cut 14 = .ok (.aload_n 0, 1) := by decide +kernel
theorem dX1_cut_15 : decode cX1_cut 15 = .ok (.iload_n 1, 1) := by decide +kernel
theorem dX1_cut_16 : decode cX1_cut 16 = .ok (.invokevirtual 40, 3) := by decide +kernel
theorem dX1_cut_19 : decode cX1_cut 19 = .ok (.if_icmp .gt 7, 3) := by decide +kernel
theorem dX1_cut_22 : decode cX1_cut 22 = .ok (.iconst 1, 1) := by decide +kernel
theorem dX1_cut_23 : decode cX1_cut 23 = .ok (.goto 4, 3) := by decide +kernel
theorem dX1_cut_26 : decode cX1_cut 26 = .ok (.iconst 0, 1) := by decide +kernel
theorem dX1_cut_27 : decode cX1_cut 27 = .ok (.iconst 1, 1) := by decide +kernel
theorem dX1_cut_28 : decode cX1_cut 28 = .ok (.invokevirtual 44, 3) := by decide +kernel
theorem dX1_cut_31 : decode cX1_cut 31 = .ok (.ifCond .ne 5, 3) := by decide +kernel
theorem dX1_cut_34 : decode cX1_cut 34 = .ok (.iconst 0, 1) := by decide +kernel
theorem dX1_cut_35 : decode cX1_cut 35 = .ok (.ireturn, 1) := by decide +kernel
theorem dX1_cut_36 : decode cX1_cut 36 = .ok (.aload_n 0, 1) := by decide +kernel
theorem dX1_cut_37 : decode cX1_cut 37 = .ok (.iload_n 1, 1) := by decide +kernel
theorem dX1_cut_38 : decode cX1_cut 38 = .ok (.invokevirtual 40, 3) := by decide +kernel
theorem dX1_cut_41 : decode cX1_cut 41 = .ok (.iload_n 2, 1) := by decide +kernel
theorem dX1_cut_42 : decode cX1_cut 42 = .ok (.isub, 1) := by decide +kernel
theorem dX1_cut_43 : decode cX1_cut 43 = .ok (.istore_n 3, 1) := by decide +kernel
theorem dX1_cut_44 : decode cX1_cut 44 = .ok (.iconst 0, 1) := by decide +kernel
theorem dX1_cut_45 : decode cX1_cut 45 = .ok (.istore 4, 2) := by decide +kernel
theorem dX1_cut_47 : decode cX1_cut 47 = .ok (.iload 4, 2) := by decide +kernel
theorem dX1_cut_49 : decode cX1_cut 49 = .ok (.iload_n 3, 1) := by decide +kernel
theorem dX1_cut_50 : decode cX1_cut 50 = .ok (.if_icmp .ge 25, 3) := by decide +kernel
theorem dX1_cut_53 : decode cX1_cut 53 = .ok (.aload_n 0, 1) := by decide +kernel
theorem dX1_cut_54 : decode cX1_cut 54 = .ok (.aload_n 0, 1) := by decide +kernel
theorem dX1_cut_55 : decode cX1_cut 55 = .ok (.iload_n 1, 1) := by decide +kernel
theorem dX1_cut_56 : decode cX1_cut 56 = .ok (.aload_n 0, 1) := by decide +kernel
theorem dX1_cut_57 : decode cX1_cut 57 = .ok (.iload_n 1, 1) := by decide +kernel
theorem dX1_cut_58 : decode cX1_cut 58 = .ok (.invokevirtual 40, 3) := by decide +kernel
theorem dX1_cut_61 : decode cX1_cut 61 = .ok (.iconst 1, 1) := by decide +kernel
theorem dX1_cut_62 : decode cX1_cut 62 = .ok (.isub, 1) := by decide +kernel
theorem dX1_cut_63 : decode cX1_cut 63 = .ok (.invokevirtual 51, 3) := by decide +kernel
theorem dX1_cut_66 : decode cX1_cut 66 = .ok (.invokevirtual 55, 3) := by decide +kernel
theorem dX1_cut_69 : decode cX1_cut 69 = .ok (.iinc 4 1, 3) := by decide +kernel
theorem dX1_cut_72 : decode cX1_cut 72 = .ok (.goto (-25), 3) := by decide +kernel
theorem dX1_cut_75 : decode cX1_cut 75 = .ok (.iload_n 3, 1) := by decide +kernel
theorem dX1_cut_76 : decode cX1_cut 76 = .ok (.ireturn, 1) := by decide +kernel
theorem dX1_isPlace_0 : decode cX1_isPlace 0 = .ok (.iload_n 0, 1) := by decide +kernel
theorem dX1_isPlace_1 : decode cX1_isPlace 1 = .ok (.invokestatic 36, 3) := by decide +kernel
theorem dX1_isPlace_4 : decode cX1_isPlace 4 = .ok (.ifCond .eq 17, 3) := by decide +kernel
theorem dX1_isPlace_7 : decode cX1_isPlace 7 = .ok (.iload_n 1, 1) := by decide +kernel
theorem dX1_isPlace_8 : decode cX1_isPlace 8 = .ok (.ifCond .lt 13, 3) := by decide +kernel
theorem dX1_isPlace_11 : decode cX1_isPlace 11 = .ok (.iload_n 1, 1) := by decide +kernel
theorem dX1_isPlace_12 : decode cX1_isPlace 12 = .ok (.bipush 24, 2) := by decide +kernel
theorem dX1_isPlace_14 : decode cX1_isPlace 14 = .ok (.if_icmp .ge 7, 3) := by decide +kernel
theorem dX1_isPlace_17 : decode cX1_isPlace 17 = .ok (.iconst 1, 1) := by decide +kernel
theorem dX1_isPlace_18 : decode cX1_isPlace 18 = .ok (.goto 4, 3) := by decide +kernel
theorem dX1_isPlace_21 : decode cX1_isPlace 21 = .ok (.iconst 0, 1) := by decide +kernel
theorem dX1_isPlace_22 : decode cX1_isPlace 22 = .ok (.ireturn, 1) := by decide +kernel
theorem dX1_get_0 : decode cX1_get 0 = .ok (.aload_n 0, 1) := by decide +kernel
theorem dX1_get_1 : decode cX1_get 1 = .ok (.iload_n 1, 1) := by decide +kernel
theorem dX1_get_2 : decode cX1_get 2 = .ok (.iload_n 2, 1) := by decide +kernel
theorem dX1_get_3 : decode cX1_get 3 = .ok (.invokestatic 59, 3) := by decide +kernel
theorem dX1_get_6 : decode cX1_get 6 = .ok (.iconst 1, 1) := by decide +kernel
theorem dX1_get_7 : decode cX1_get 7 = .ok (.invokevirtual 44, 3) := by decide +kernel
theorem dX1_get_10 : decode cX1_get 10 = .ok (.ifCond .ne 5, 3) := by decide +kernel
theorem dX1_get_13 : decode cX1_get 13 = .ok (.iconst 0, 1) := by decide +kernel
theorem dX1_get_14 : decode cX1_get 14 = .ok (.ireturn, 1) := by decide +kernel
theorem dX1_get_15 : decode cX1_get 15 = .ok (.iload_n 2, 1) := by decide +kernel
theorem dX1_get_16 : decode cX1_get 16 = .ok (.bipush 8, 2) := by decide +kernel
theorem dX1_get_18 : decode cX1_get 18 = .ok (.if_icmp .ge 28, 3) := by decide +kernel
theorem dX1_get_21 : decode cX1_get 21 = .ok (.aload_n 0, 1) := by decide +kernel
theorem dX1_get_22 : decode cX1_get 22 = .ok (.getfield 17, 3) := by decide +kernel
theorem dX1_get_25 : decode cX1_get 25 = .ok (.bipush 8, 2) := by decide +kernel
theorem dX1_get_27 : decode cX1_get 27 = .ok (.aload_n 0, 1) := by decide +kernel
theorem dX1_get_28 : decode cX1_get 28 = .ok (.iload_n 1, 1) := by decide +kernel
theorem dX1_get_29 : decode cX1_get 29 = .ok (.aload_n 0, 1) := by decide +kernel
theorem dX1_get_30 : decode cX1_get 30 = .ok (.iload_n 1, 1) := by decide +kernel
theorem dX1_get_31 : decode cX1_get 31 = .ok (.invokevirtual 40, 3) := by decide +kernel
theorem dX1_get_34 : decode cX1_get 34 = .ok (.iconst 1, 1) := by decide +kernel
theorem dX1_get_35 : decode cX1_get 35 = .ok (.isub, 1) := by decide +kernel
theorem dX1_get_36 : decode cX1_get 36 = .ok (.invokevirtual 51, 3) := by decide +kernel
theorem dX1_get_39 : decode cX1_get 39 = .ok (.imul, 1) := by decide +kernel
theorem dX1_get_40 : decode cX1_get 40 = .ok (.iload_n 2, 1) := by decide +kernel
theorem dX1_get_41 : decode cX1_get 41 = .ok (.iadd, 1) := by decide +kernel
theorem dX1_get_42 : decode cX1_get 42 = .ok (.iaload, 1) := by decide +kernel
theorem dX1_get_43 : decode cX1_get 43 = .ok (.goto 12, 3) := by decide +kernel
theorem dX1_get_46 : decode cX1_get 46 = .ok (.aload_n 0, 1) := by decide +kernel
theorem dX1_get_47 : decode cX1_get 47 = .ok (.getfield 20, 3) := by decide +kernel
theorem dX1_get_50 : decode cX1_get 50 = .ok (.iload_n 2, 1) := by decide +kernel
theorem dX1_get_51 : decode cX1_get 51 = .ok (.bipush 8, 2) := by decide +kernel
theorem dX1_get_53 : decode cX1_get 53 = .ok (.isub, 1) := by decide +kernel
theorem dX1_get_54 : decode cX1_get 54 = .ok (.iaload, 1) := by decide +kernel
theorem dX1_get_55 : decode cX1_get 55 = .ok (.ireturn, 1) := by decide +kernel
theorem dX1_put_0 : decode cX1_put 0 = .ok (.aload_n 0, 1) := by decide +kernel
theorem dX1_put_1 : decode cX1_put 1 = .ok (.iload_n 1, 1) := by decide +kernel
theorem dX1_put_2 : decode cX1_put 2 = .ok (.iload_n 2, 1) := by decide +kernel
theorem dX1_put_3 : decode cX1_put 3 = .ok (.invokestatic 59, 3) := by decide +kernel
theorem dX1_put_6 : decode cX1_put 6 = .ok (.iload_n 3, 1) := by decide +kernel
theorem dX1_put_7 : decode cX1_put 7 = .ok (.invokestatic 63, 3) := by decide +kernel
theorem dX1_put_10 : decode cX1_put 10 = .ok (.invokevirtual 44, 3) := by decide +kernel
theorem dX1_put_13 : decode cX1_put 13 = .ok (.ifCond .ne 5, 3) := by decide +kernel
theorem dX1_put_16 : decode cX1_put 16 = .ok (.iconst 0, 1) := by decide +kernel
theorem dX1_put_17 : decode cX1_put 17 = .ok (.ireturn, 1) := by decide +kernel
theorem dX1_put_18 : decode cX1_put 18 = .ok (.aload_n 0, 1) := by decide +kernel
theorem dX1_put_19 : decode cX1_put 19 = .ok (.iload_n 1, 1) := by decide +kernel
theorem dX1_put_20 : decode cX1_put 20 = .ok (.iload_n 2, 1) := by decide +kernel
theorem dX1_put_21 : decode cX1_put 21 = .ok (.invokevirtual 66, 3) := by decide +kernel
theorem dX1_put_24 : decode cX1_put 24 = .ok (.istore 4, 2) := by decide +kernel
theorem dX1_put_26 : decode cX1_put 26 = .ok (.iload_n 2, 1) := by decide +kernel
theorem dX1_put_27 : decode cX1_put 27 = .ok (.bipush 8, 2) := by decide +kernel
theorem dX1_put_29 : decode cX1_put 29 = .ok (.if_icmp .ge 29, 3) := by decide +kernel
theorem dX1_put_32 : decode cX1_put 32 = .ok (.aload_n 0, 1) := by decide +kernel
theorem dX1_put_33 : decode cX1_put 33 = .ok (.getfield 17, 3) := by decide +kernel
theorem dX1_put_36 : decode cX1_put 36 = .ok (.bipush 8, 2) := by decide +kernel
theorem dX1_put_38 : decode cX1_put 38 = .ok (.aload_n 0, 1) := by decide +kernel
theorem dX1_put_39 : decode cX1_put 39 = .ok (.iload_n 1, 1) := by decide +kernel
theorem dX1_put_40 : decode cX1_put 40 = .ok (.aload_n 0, 1) := by decide +kernel
theorem dX1_put_41 : decode cX1_put 41 = .ok (.iload_n 1, 1) := by decide +kernel
theorem dX1_put_42 : decode cX1_put 42 = .ok (.invokevirtual 40, 3) := by decide +kernel
theorem dX1_put_45 : decode cX1_put 45 = .ok (.iconst 1, 1) := by decide +kernel
theorem dX1_put_46 : decode cX1_put 46 = .ok (.isub, 1) := by decide +kernel
theorem dX1_put_47 : decode cX1_put 47 = .ok (.invokevirtual 51, 3) := by decide +kernel
theorem dX1_put_50 : decode cX1_put 50 = .ok (.imul, 1) := by decide +kernel
theorem dX1_put_51 : decode cX1_put 51 = .ok (.iload_n 2, 1) := by decide +kernel
theorem dX1_put_52 : decode cX1_put 52 = .ok (.iadd, 1) := by decide +kernel
theorem dX1_put_53 : decode cX1_put 53 = .ok (.iload_n 3, 1) := by decide +kernel
theorem dX1_put_54 : decode cX1_put 54 = .ok (.iastore, 1) := by decide +kernel
theorem dX1_put_55 : decode cX1_put 55 = .ok (.goto 13, 3) := by decide +kernel
theorem dX1_put_58 : decode cX1_put 58 = .ok (.aload_n 0, 1) := by decide +kernel
theorem dX1_put_59 : decode cX1_put 59 = .ok (.getfield 20, 3) := by decide +kernel
theorem dX1_put_62 : decode cX1_put 62 = .ok (.iload_n 2, 1) := by decide +kernel
theorem dX1_put_63 : decode cX1_put 63 = .ok (.bipush 8, 2) := by decide +kernel
theorem dX1_put_65 : decode cX1_put 65 = .ok (.isub, 1) := by decide +kernel
theorem dX1_put_66 : decode cX1_put 66 = .ok (.iload_n 3, 1) := by decide +kernel
theorem dX1_put_67 : decode cX1_put 67 = .ok (.iastore, 1) := by decide +kernel
theorem dX1_put_68 : decode cX1_put 68 = .ok (.iload 4, 2) := by decide +kernel
theorem dX1_put_70 : decode cX1_put 70 = .ok (.ireturn, 1) := by decide +kernel
theorem dX1_peek_0 : decode cX1_peek 0 = .ok (.iload_n 1, 1) := by decide +kernel
theorem dX1_peek_1 : decode cX1_peek 1 = .ok (.invokestatic 36, 3) := by decide +kernel
theorem dX1_peek_4 : decode cX1_peek 4 = .ok (.ifCond .eq 26, 3) := by decide +kernel
theorem dX1_peek_7 : decode cX1_peek 7 = .ok (.iload_n 3, 1) := by decide +kernel
theorem dX1_peek_8 : decode cX1_peek 8 = .ok (.ifCond .lt 22, 3) := by decide +kernel
theorem dX1_peek_11 : decode cX1_peek 11 = .ok (.iload_n 3, 1) := by decide +kernel
theorem dX1_peek_12 : decode cX1_peek 12 = .ok (.bipush 8, 2) := by decide +kernel
theorem dX1_peek_14 : decode cX1_peek 14 = .ok (.if_icmp .ge 16, 3) := by decide +kernel
theorem dX1_peek_17 : decode cX1_peek 17 = .ok (.aload_n 0, 1) := by decide +kernel
theorem dX1_peek_18 : decode cX1_peek 18 = .ok (.iload_n 1, 1) := by decide +kernel
theorem dX1_peek_19 : decode cX1_peek 19 = .ok (.iload_n 2, 1) := by decide +kernel
theorem dX1_peek_20 : decode cX1_peek 20 = .ok (.invokevirtual 51, 3) := by decide +kernel
theorem dX1_peek_23 : decode cX1_peek 23 = .ok (.ifCond .lt 7, 3) := by decide +kernel
theorem dX1_peek_26 : decode cX1_peek 26 = .ok (.iconst 1, 1) := by decide +kernel
theorem dX1_peek_27 : decode cX1_peek 27 = .ok (.goto 4, 3) := by decide +kernel
theorem dX1_peek_30 : decode cX1_peek 30 = .ok (.iconst 0, 1) := by decide +kernel
theorem dX1_peek_31 : decode cX1_peek 31 = .ok (.istore 4, 2) := by decide +kernel
theorem dX1_peek_33 : decode cX1_peek 33 = .ok (.aload_n 0, 1) := by decide +kernel
theorem dX1_peek_34 : decode cX1_peek 34 = .ok (.iload 4, 2) := by decide +kernel
theorem dX1_peek_36 : decode cX1_peek 36 = .ok (.iconst 1, 1) := by decide +kernel
theorem dX1_peek_37 : decode cX1_peek 37 = .ok (.invokevirtual 44, 3) := by decide +kernel
theorem dX1_peek_40 : decode cX1_peek 40 = .ok (.ifCond .eq 22, 3) := by decide +kernel
theorem dX1_peek_43 : decode cX1_peek 43 = .ok (.aload_n 0, 1) := by decide +kernel
theorem dX1_peek_44 : decode cX1_peek 44 = .ok (.getfield 17, 3) := by decide +kernel
theorem dX1_peek_47 : decode cX1_peek 47 = .ok (.bipush 8, 2) := by decide +kernel
theorem dX1_peek_49 : decode cX1_peek 49 = .ok (.aload_n 0, 1) := by decide +kernel
theorem dX1_peek_50 : decode cX1_peek 50 = .ok (.iload_n 1, 1) := by decide +kernel
theorem dX1_peek_51 : decode cX1_peek 51 = .ok (.iload_n 2, 1) := by decide +kernel
theorem dX1_peek_52 : decode cX1_peek 52 = .ok (.invokevirtual 51, 3) := by decide +kernel
theorem dX1_peek_55 : decode cX1_peek 55 = .ok (.imul, 1) := by decide +kernel
theorem dX1_peek_56 : decode cX1_peek 56 = .ok (.iload_n 3, 1) := by decide +kernel
theorem dX1_peek_57 : decode cX1_peek 57 = .ok (.iadd, 1) := by decide +kernel
theorem dX1_peek_58 : decode cX1_peek 58 = .ok (.iaload, 1) := by decide +kernel
theorem dX1_peek_59 : decode cX1_peek 59 = .ok (.goto 4, 3) := by decide +kernel
theorem dX1_peek_62 : decode cX1_peek 62 = .ok (.iconst 0, 1) := by decide +kernel
theorem dX1_peek_63 : decode cX1_peek 63 = .ok (.ireturn, 1) := by decide +kernel
theorem dX1_gather_0 : decode cX1_gather 0 = .ok (.aload_n 0, 1) := by decide +kernel
theorem dX1_gather_1 : decode cX1_gather 1 = .ok (.iconst 0, 1) := by decide +kernel
theorem dX1_gather_2 : decode cX1_gather 2 = .ok (.putfield 69, 3) := by decide +kernel
theorem dX1_gather_5 : decode cX1_gather 5 = .ok (.iconst 0, 1) := by decide +kernel
theorem dX1_gather_6 : decode cX1_gather 6 = .ok (.istore_n 1, 1) := by decide +kernel
theorem dX1_gather_7 : decode cX1_gather 7 = .ok (.iload_n 1, 1) := by decide +kernel
theorem dX1_gather_8 : decode cX1_gather 8 = .ok (.iconst 4, 1) := by decide +kernel
theorem dX1_gather_9 : decode cX1_gather 9 = .ok (.if_icmp .ge 68, 3) := by decide +kernel
theorem dX1_gather_12 : decode cX1_gather 12 = .ok (.iconst 0, 1) := by decide +kernel
theorem dX1_gather_13 : decode cX1_gather 13 = .ok (.istore_n 2, 1) := by decide +kernel
theorem dX1_gather_14 : decode cX1_gather 14 = .ok (.iload_n 2, 1) := by decide +kernel
theorem dX1_gather_15 : decode cX1_gather 15 = .ok (.aload_n 0, 1) := by decide +kernel
theorem dX1_gather_16 : decode cX1_gather 16 = .ok (.getfield 7, 3) := by decide +kernel
theorem dX1_gather_19 : decode cX1_gather 19 = .ok (.if_icmp .ge 52, 3) := by decide +kernel
theorem dX1_gather_22 : decode cX1_gather 22 = .ok (.iconst 0, 1) := by decide +kernel
theorem dX1_gather_23 : decode cX1_gather 23 = .ok (.istore_n 3, 1) := by decide +kernel
theorem dX1_gather_24 : decode cX1_gather 24 = .ok (.iload_n 3, 1) := by decide +kernel
theorem dX1_gather_25 : decode cX1_gather 25 = .ok (.bipush 8, 2) := by decide +kernel
theorem dX1_gather_27 : decode cX1_gather 27 = .ok (.if_icmp .ge 38, 3) := by decide +kernel
theorem dX1_gather_30 : decode cX1_gather 30 = .ok (.aload_n 0, 1) := by decide +kernel
theorem dX1_gather_31 : decode cX1_gather 31 = .ok (.aload_n 0, 1) := by decide +kernel
theorem dX1_gather_32 : decode cX1_gather 32 = .ok (.getfield 13, 3) := by decide +kernel
theorem dX1_gather_35 : decode cX1_gather 35 = .ok (.iload_n 2, 1) := by decide +kernel
theorem dX1_gather_36 : decode cX1_gather 36 = .ok (.iaload, 1) := by decide +kernel
theorem dX1_gather_37 : decode cX1_gather 37 = .ok (.iload_n 1, 1) := by decide +kernel
theorem dX1_gather_38 : decode cX1_gather 38 = .ok (.if_icmp .ne 17, 3) := by decide +kernel
theorem dX1_gather_41 : decode cX1_gather 41 = .ok (.aload_n 0, 1) := by decide +kernel
theorem dX1_gather_42 : decode cX1_gather 42 = .ok (.getfield 17, 3) := by decide +kernel
theorem dX1_gather_45 : decode cX1_gather 45 = .ok (.bipush 8, 2) := by decide +kernel
theorem dX1_gather_47 : decode cX1_gather 47 = .ok (.iload_n 2, 1) := by decide +kernel
theorem dX1_gather_48 : decode cX1_gather 48 = .ok (.imul, 1) := by decide +kernel
theorem dX1_gather_49 : decode cX1_gather 49 = .ok (.iload_n 3, 1) := by decide +kernel
theorem dX1_gather_50 : decode cX1_gather 50 = .ok (.iadd, 1) := by decide +kernel
theorem dX1_gather_51 : decode cX1_gather 51 = .ok (.iaload, 1) := by decide +kernel
theorem dX1_gather_52 : decode cX1_gather 52 = .ok (.goto 4, 3) := by decide +kernel
theorem dX1_gather_55 : decode cX1_gather 55 = .ok (.iconst 0, 1) := by decide +kernel
theorem dX1_gather_56 : decode cX1_gather 56 = .ok (.invokevirtual 72, 3) := by decide +kernel
theorem dX1_gather_59 : decode cX1_gather 59 = .ok (.iinc 3 1, 3) := by decide +kernel
theorem dX1_gather_62 : decode cX1_gather 62 = .ok (.goto (-38), 3) := by decide +kernel
theorem dX1_gather_65 : decode cX1_gather 65 = .ok (.iinc 2 1, 3) := by decide +kernel
theorem dX1_gather_68 : decode cX1_gather 68 = .ok (.goto (-54), 3) := by decide +kernel
theorem dX1_gather_71 : decode cX1_gather 71 = .ok (.iinc 1 1, 3) := by decide +kernel
theorem dX1_gather_74 : decode cX1_gather 74 = .ok (.goto (-67), 3) := by decide +kernel
theorem dX1_gather_77 : decode cX1_gather 77 = .ok (.iconst 0, 1) := by decide +kernel
theorem dX1_gather_78 : decode cX1_gather 78 = .ok (.istore_n 1, 1) := by decide +kernel
theorem dX1_gather_79 : decode cX1_gather 79 = .ok (.iload_n 1, 1) := by decide +kernel
theorem dX1_gather_80 : decode cX1_gather 80 = .ok (.bipush 16, 2) := by decide +kernel
theorem dX1_gather_82 : decode cX1_gather 82 = .ok (.if_icmp .ge 19, 3) := by decide +kernel
theorem dX1_gather_85 : decode cX1_gather 85 = .ok (.aload_n 0, 1) := by decide +kernel
theorem dX1_gather_86 : decode cX1_gather 86 = .ok (.aload_n 0, 1) := by decide +kernel
theorem dX1_gather_87 : decode cX1_gather 87 = .ok (.getfield 20, 3) := by decide +kernel
theorem dX1_gather_90 : decode cX1_gather 90 = .ok (.iload_n 1, 1) := by decide +kernel
theorem dX1_gather_91 : decode cX1_gather 91 = .ok (.iaload, 1) := by decide +kernel
theorem dX1_gather_92 : decode cX1_gather 92 = .ok (.invokevirtual 72, 3) := by decide +kernel
theorem dX1_gather_95 : decode cX1_gather 95 = .ok (.iinc 1 1, 3) := by decide +kernel
theorem dX1_gather_98 : decode cX1_gather 98 = .ok (.goto (-19), 3) := by decide +kernel
theorem dX1_gather_101 : decode cX1_gather 101 = .ok (.return_, 1) := by decide +kernel
theorem dX1_note_0 : decode cX1_note 0 = .ok (.iload_n 1, 1) := by decide +kernel
theorem dX1_note_1 : decode cX1_note 1 = .ok (.ifCond .le 23, 3) := by decide +kernel
theorem dX1_note_4 : decode cX1_note 4 = .ok (.aload_n 0, 1) := by decide +kernel
theorem dX1_note_5 : decode cX1_note 5 = .ok (.getfield 23, 3) := by decide +kernel
theorem dX1_note_8 : decode cX1_note 8 = .ok (.aload_n 0, 1) := by decide +kernel
theorem dX1_note_9 : decode cX1_note 9 = .ok (.getfield 69, 3) := by decide +kernel
theorem dX1_note_12 : decode cX1_note 12 = .ok (.iload_n 1, 1) := by decide +kernel
theorem dX1_note_13 : decode cX1_note 13 = .ok (.iastore, 1) := by decide +kernel
theorem dX1_note_14 : decode cX1_note 14 = .ok (.aload_n 0, 1) := by decide +kernel
theorem dX1_note_15 : decode cX1_note 15 = .ok (.dup, 1) := by decide +kernel
theorem dX1_note_16 : decode cX1_note 16 = .ok (.getfield 69, 3) := by decide +kernel
theorem dX1_note_19 : decode cX1_note 19 = .ok (.iconst 1, 1) := by decide +kernel
theorem dX1_note_20 : decode cX1_note 20 = .ok (.iadd, 1) := by decide +kernel
theorem dX1_note_21 : decode cX1_note 21 = .ok (.putfield 69, 3) := by decide +kernel
theorem dX1_note_24 : decode cX1_note 24 = .ok (.return_, 1) := by decide +kernel
theorem dX1_find_0 : decode cX1_find 0 = .ok (.iload_n 1, 1) := by decide +kernel
theorem dX1_find_1 : decode cX1_find 1 = .ok (.sipush 4099, 3) := by decide +kernel
theorem dX1_find_4 : decode cX1_find 4 = .ok (.irem, 1) := by decide +kernel
theorem dX1_find_5 : decode cX1_find 5 = .ok (.istore_n 2, 1) := by decide +kernel
theorem dX1_find_6 : decode cX1_find 6 = .ok (.aload_n 0, 1) := by decide +kernel
theorem dX1_find_7 : decode cX1_find 7 = .ok (.getfield 26, 3) := by decide +kernel
theorem dX1_find_10 : decode cX1_find 10 = .ok (.iload_n 2, 1) := by decide +kernel
theorem dX1_find_11 : decode cX1_find 11 = .ok (.iaload, 1) := by decide +kernel
theorem dX1_find_12 : decode cX1_find 12 = .ok (.ifCond .eq 33, 3) := by decide +kernel
theorem dX1_find_15 : decode cX1_find 15 = .ok (.aload_n 0, 1) := by decide +kernel
theorem dX1_find_16 : decode cX1_find 16 = .ok (.getfield 26, 3) := by decide +kernel
theorem dX1_find_19 : decode cX1_find 19 = .ok (.iload_n 2, 1) := by decide +kernel
theorem dX1_find_20 : decode cX1_find 20 = .ok (.iaload, 1) := by decide +kernel
theorem dX1_find_21 : decode cX1_find 21 = .ok (.iload_n 1, 1) := by decide +kernel
theorem dX1_find_22 : decode cX1_find 22 = .ok (.if_icmp .eq 23, 3) := by decide +kernel
theorem dX1_find_25 : decode cX1_find 25 = .ok (.iload_n 2, 1) := by decide +kernel
theorem dX1_find_26 : decode cX1_find 26 = .ok (.iconst 1, 1) := by decide +kernel
theorem dX1_find_27 : decode cX1_find 27 = .ok (.iadd, 1) := by decide +kernel
theorem dX1_find_28 : decode cX1_find 28 = .ok (.sipush 4099, 3) := by decide +kernel
theorem dX1_find_31 : decode cX1_find 31 = .ok (.if_icmp .ne 7, 3) := by decide +kernel
theorem dX1_find_34 : decode cX1_find 34 = .ok (.iconst 0, 1) := by decide +kernel
theorem dX1_find_35 : decode cX1_find 35 = .ok (.goto 6, 3) := by decide +kernel
theorem dX1_find_38 : decode cX1_find 38 = .ok (.iload_n 2, 1) := by decide +kernel
theorem dX1_find_39 : decode cX1_find 39 = .ok (.iconst 1, 1) := by decide +kernel
theorem dX1_find_40 : decode cX1_find 40 = .ok (.iadd, 1) := by decide +kernel
theorem dX1_find_41 : decode cX1_find 41 = .ok (.istore_n 2, 1) := by decide +kernel
theorem dX1_find_42 : decode cX1_find 42 = .ok (.goto (-36), 3) := by decide +kernel
theorem dX1_find_45 : decode cX1_find 45 = .ok (.iload_n 2, 1) := by decide +kernel
theorem dX1_find_46 : decode cX1_find 46 = .ok (.ireturn, 1) := by decide +kernel
theorem dX1_findFirsts_0 : decode cX1_findFirsts 0 = .ok (.iconst 0, 1) := by decide +kernel
theorem dX1_findFirsts_1 : decode cX1_findFirsts 1 = .ok (.istore_n 1, 1) := by decide +kernel
theorem dX1_findFirsts_2 : decode cX1_findFirsts 2 = .ok (.iconst 0, 1) := by decide +kernel
theorem dX1_findFirsts_3 : decode cX1_findFirsts 3 = .ok (.istore_n 2, 1) := by decide +kernel
theorem dX1_findFirsts_4 : decode cX1_findFirsts 4 = .ok (.iload_n 2, 1) := by decide +kernel
theorem dX1_findFirsts_5 : decode cX1_findFirsts 5 = .ok (.sipush 4099, 3) := by decide +kernel
theorem dX1_findFirsts_8 : decode cX1_findFirsts 8 = .ok (.if_icmp .ge 16, 3) := by decide +kernel
theorem dX1_findFirsts_11 : decode cX1_findFirsts 11 = .ok (.aload_n 0, 1) := by decide +kernel
theorem dX1_findFirsts_12 : decode cX1_findFirsts 12 = .ok (.getfield 26, 3) := by decide +kernel
theorem dX1_findFirsts_15 : decode cX1_findFirsts 15 = .ok (.iload_n 2, 1) := by decide +kernel
theorem dX1_findFirsts_16 : decode cX1_findFirsts 16 = .ok (.iconst 0, 1) := by decide +kernel
theorem dX1_findFirsts_17 : decode cX1_findFirsts 17 = .ok (.iastore, 1) := by decide +kernel
theorem dX1_findFirsts_18 : decode cX1_findFirsts 18 = .ok (.iinc 2 1, 3) := by decide +kernel
theorem dX1_findFirsts_21 : decode cX1_findFirsts 21 = .ok (.goto (-17), 3) := by decide +kernel
theorem dX1_findFirsts_24 : decode cX1_findFirsts 24 = .ok (.iconst 0, 1) := by decide +kernel
theorem dX1_findFirsts_25 : decode cX1_findFirsts 25 = .ok (.istore_n 2, 1) := by decide +kernel
theorem dX1_findFirsts_26 : decode cX1_findFirsts 26 = .ok (.iload_n 2, 1) := by decide +kernel
theorem dX1_findFirsts_27 : decode cX1_findFirsts 27 = .ok (.aload_n 0, 1) := by decide +kernel
theorem dX1_findFirsts_28 : decode cX1_findFirsts 28 = .ok (.getfield 69, 3) := by decide +kernel
theorem dX1_findFirsts_31 : decode cX1_findFirsts 31 = .ok (.if_icmp .ge 51, 3) := by decide +kernel
theorem dX1_findFirsts_34 : decode cX1_findFirsts 34 = .ok (.aload_n 0, 1) := by decide +kernel
theorem dX1_findFirsts_35 : decode cX1_findFirsts 35 = .ok (.aload_n 0, 1) := by decide +kernel
theorem dX1_findFirsts_36 : decode cX1_findFirsts 36 = .ok (.getfield 23, 3) := by decide +kernel
theorem dX1_findFirsts_39 : decode cX1_findFirsts 39 = .ok (.iload_n 2, 1) := by decide +kernel
theorem dX1_findFirsts_40 : decode cX1_findFirsts 40 = .ok (.iaload, 1) := by decide +kernel
theorem dX1_findFirsts_41 : decode cX1_findFirsts 41 = .ok (.invokevirtual 75, 3) := by decide +kernel
theorem dX1_findFirsts_44 : decode cX1_findFirsts 44 = .ok (.istore_n 3, 1) := by decide +kernel
theorem dX1_findFirsts_45 : decode cX1_findFirsts 45 = .ok (.aload_n 0, 1) := by decide +kernel
theorem dX1_findFirsts_46 : decode cX1_findFirsts 46 = .ok (.getfield 26, 3) := by decide +kernel
theorem dX1_findFirsts_49 : decode cX1_findFirsts 49 = .ok (.iload_n 3, 1) := by decide +kernel
theorem dX1_findFirsts_50 : decode cX1_findFirsts 50 = .ok (.iaload, 1) := by decide +kernel
theorem dX1_findFirsts_51 : decode cX1_findFirsts 51 = .ok (.ifCond .ne 25, 3) := by decide +kernel
theorem dX1_findFirsts_54 : decode cX1_findFirsts 54 = .ok (.iinc 1 1, 3) := by decide +kernel
theorem dX1_findFirsts_57 : decode cX1_findFirsts 57 = .ok (.aload_n 0, 1) := by decide +kernel
theorem dX1_findFirsts_58 : decode cX1_findFirsts 58 = .ok (.getfield 26, 3) := by decide +kernel
theorem dX1_findFirsts_61 : decode cX1_findFirsts 61 = .ok (.iload_n 3, 1) := by decide +kernel
theorem dX1_findFirsts_62 : decode cX1_findFirsts 62 = .ok (.aload_n 0, 1) := by decide +kernel
theorem dX1_findFirsts_63 : decode cX1_findFirsts 63 = .ok (.getfield 23, 3) := by decide +kernel
theorem dX1_findFirsts_66 : decode cX1_findFirsts 66 = .ok (.iload_n 2, 1) := by decide +kernel
theorem dX1_findFirsts_67 : decode cX1_findFirsts 67 = .ok (.iaload, 1) := by decide +kernel
theorem dX1_findFirsts_68 : decode cX1_findFirsts 68 = .ok (.iastore, 1) := by decide +kernel
theorem dX1_findFirsts_69 : decode cX1_findFirsts 69 = .ok (.aload_n 0, 1) := by decide +kernel
theorem dX1_findFirsts_70 : decode cX1_findFirsts 70 = .ok (.getfield 29, 3) := by decide +kernel
theorem dX1_findFirsts_73 : decode cX1_findFirsts 73 = .ok (.iload_n 3, 1) := by decide +kernel
theorem dX1_findFirsts_74 : decode cX1_findFirsts 74 = .ok (.iload_n 1, 1) := by decide +kernel
theorem dX1_findFirsts_75 : decode cX1_findFirsts 75 = .ok (.iastore, 1) := by decide +kernel
theorem dX1_findFirsts_76 : decode cX1_findFirsts 76 = .ok (.iinc 2 1, 3) := by decide +kernel
theorem dX1_findFirsts_79 : decode cX1_findFirsts 79 = .ok (.goto (-53), 3) := by decide +kernel
theorem dX1_findFirsts_82 : decode cX1_findFirsts 82 = .ok (.iload_n 1, 1) := by decide +kernel
theorem dX1_findFirsts_83 : decode cX1_findFirsts 83 = .ok (.ireturn, 1) := by decide +kernel
theorem dX1_rank_0 : decode cX1_rank 0 = .ok (.aload_n 0, 1) := by decide +kernel
theorem dX1_rank_1 : decode cX1_rank 1 = .ok (.getfield 29, 3) := by decide +kernel
theorem dX1_rank_4 : decode cX1_rank 4 = .ok (.aload_n 0, 1) := by decide +kernel
theorem dX1_rank_5 : decode cX1_rank 5 = .ok (.iload_n 1, 1) := by decide +kernel
theorem dX1_rank_6 : decode cX1_rank 6 = .ok (.invokevirtual 75, 3) := by decide +kernel
theorem dX1_rank_9 : decode cX1_rank 9 = .ok (.iaload, 1) := by decide +kernel
theorem dX1_rank_10 : decode cX1_rank 10 = .ok (.ireturn, 1) := by decide +kernel
theorem dX1_holds_0 : decode cX1_holds 0 = .ok (.aload_n 0, 1) := by decide +kernel
theorem dX1_holds_1 : decode cX1_holds 1 = .ok (.iload_n 1, 1) := by decide +kernel
theorem dX1_holds_2 : decode cX1_holds 2 = .ok (.invokestatic 63, 3) := by decide +kernel
theorem dX1_holds_5 : decode cX1_holds 5 = .ok (.iconst 1, 1) := by decide +kernel
theorem dX1_holds_6 : decode cX1_holds 6 = .ok (.invokevirtual 44, 3) := by decide +kernel
theorem dX1_holds_9 : decode cX1_holds 9 = .ok (.ifCond .ne 5, 3) := by decide +kernel
theorem dX1_holds_12 : decode cX1_holds 12 = .ok (.iconst 0, 1) := by decide +kernel
theorem dX1_holds_13 : decode cX1_holds 13 = .ok (.ireturn, 1) := by decide +kernel
theorem dX1_holds_14 : decode cX1_holds 14 = .ok (.aload_n 0, 1) := by decide +kernel
theorem dX1_holds_15 : decode cX1_holds 15 = .ok (.invokevirtual 78, 3) := by decide +kernel
theorem dX1_holds_18 : decode cX1_holds 18 = .ok (.iconst 0, 1) := by decide +kernel
theorem dX1_holds_19 : decode cX1_holds 19 = .ok (.istore_n 2, 1) := by decide +kernel
theorem dX1_holds_20 : decode cX1_holds 20 = .ok (.iconst 0, 1) := by decide +kernel
theorem dX1_holds_21 : decode cX1_holds 21 = .ok (.istore_n 3, 1) := by decide +kernel
theorem dX1_holds_22 : decode cX1_holds 22 = .ok (.iload_n 3, 1) := by decide +kernel
theorem dX1_holds_23 : decode cX1_holds 23 = .ok (.aload_n 0, 1) := by decide +kernel
theorem dX1_holds_24 : decode cX1_holds 24 = .ok (.getfield 69, 3) := by decide +kernel
theorem dX1_holds_27 : decode cX1_holds 27 = .ok (.if_icmp .ge 27, 3) := by decide +kernel
theorem dX1_holds_30 : decode cX1_holds 30 = .ok (.aload_n 0, 1) := by decide +kernel
theorem dX1_holds_31 : decode cX1_holds 31 = .ok (.getfield 23, 3) := by decide +kernel
theorem dX1_holds_34 : decode cX1_holds 34 = .ok (.iload_n 3, 1) := by decide +kernel
theorem dX1_holds_35 : decode cX1_holds 35 = .ok (.iaload, 1) := by decide +kernel
theorem dX1_holds_36 : decode cX1_holds 36 = .ok (.iload_n 1, 1) := by decide +kernel
theorem dX1_holds_37 : decode cX1_holds 37 = .ok (.if_icmp .ne 9, 3) := by decide +kernel
theorem dX1_holds_40 : decode cX1_holds 40 = .ok (.iload_n 2, 1) := by decide +kernel
theorem dX1_holds_41 : decode cX1_holds 41 = .ok (.iconst 1, 1) := by decide +kernel
theorem dX1_holds_42 : decode cX1_holds 42 = .ok (.iadd, 1) := by decide +kernel
theorem dX1_holds_43 : decode cX1_holds 43 = .ok (.goto 4, 3) := by decide +kernel
theorem dX1_holds_46 : decode cX1_holds 46 = .ok (.iload_n 2, 1) := by decide +kernel
theorem dX1_holds_47 : decode cX1_holds 47 = .ok (.istore_n 2, 1) := by decide +kernel
theorem dX1_holds_48 : decode cX1_holds 48 = .ok (.iinc 3 1, 3) := by decide +kernel
theorem dX1_holds_51 : decode cX1_holds 51 = .ok (.goto (-29), 3) := by decide +kernel
theorem dX1_holds_54 : decode cX1_holds 54 = .ok (.iload_n 1, 1) := by decide +kernel
theorem dX1_holds_55 : decode cX1_holds 55 = .ok (.ifCond .ne 21, 3) := by decide +kernel
theorem dX1_holds_58 : decode cX1_holds 58 = .ok (.bipush 8, 2) := by decide +kernel
theorem dX1_holds_60 : decode cX1_holds 60 = .ok (.aload_n 0, 1) := by decide +kernel
theorem dX1_holds_61 : decode cX1_holds 61 = .ok (.getfield 7, 3) := by decide +kernel
theorem dX1_holds_64 : decode cX1_holds 64 = .ok (.imul, 1) := by decide +kernel
theorem dX1_holds_65 : decode cX1_holds 65 = .ok (.bipush 16, 2) := by decide +kernel
theorem dX1_holds_67 : decode cX1_holds 67 = .ok (.iadd, 1) := by decide +kernel
theorem dX1_holds_68 : decode cX1_holds 68 = .ok (.aload_n 0, 1) := by decide +kernel
theorem dX1_holds_69 : decode cX1_holds 69 = .ok (.getfield 69, 3) := by decide +kernel
theorem dX1_holds_72 : decode cX1_holds 72 = .ok (.isub, 1) := by decide +kernel
theorem dX1_holds_73 : decode cX1_holds 73 = .ok (.goto 4, 3) := by decide +kernel
theorem dX1_holds_76 : decode cX1_holds 76 = .ok (.iload_n 2, 1) := by decide +kernel
theorem dX1_holds_77 : decode cX1_holds 77 = .ok (.ireturn, 1) := by decide +kernel
theorem dX1_root_0 : decode cX1_root 0 = .ok (.aload_n 0, 1) := by decide +kernel
theorem dX1_root_1 : decode cX1_root 1 = .ok (.iload_n 1, 1) := by decide +kernel
theorem dX1_root_2 : decode cX1_root 2 = .ok (.ifCond .lt 7, 3) := by decide +kernel
theorem dX1_root_5 : decode cX1_root 5 = .ok (.iconst 1, 1) := by decide +kernel
theorem dX1_root_6 : decode cX1_root 6 = .ok (.goto 4, 3) := by decide +kernel
theorem dX1_root_9 : decode cX1_root 9 = .ok (.iconst 0, 1) := by decide +kernel
theorem dX1_root_10 : decode cX1_root 10 = .ok (.iconst 1, 1) := by decide +kernel
theorem dX1_root_11 : decode cX1_root 11 = .ok (.invokevirtual 44, 3) := by decide +kernel
theorem dX1_root_14 : decode cX1_root 14 = .ok (.ifCond .ne 5, 3) := by decide +kernel
theorem dX1_root_17 : decode cX1_root 17 = .ok (.iconst 0, 1) := by decide +kernel
theorem dX1_root_18 : decode cX1_root 18 = .ok (.ireturn, 1) := by decide +kernel
theorem dX1_root_19 : decode cX1_root 19 = .ok (.aload_n 0, 1) := by decide +kernel
theorem dX1_root_20 : decode cX1_root 20 = .ok (.invokevirtual 78, 3) := by decide +kernel
theorem dX1_root_23 : decode cX1_root 23 = .ok (.iload_n 1, 1) := by decide +kernel
theorem dX1_root_24 : decode cX1_root 24 = .ok (.aload_n 0, 1) := by decide +kernel
theorem dX1_root_25 : decode cX1_root 25 = .ok (.getfield 69, 3) := by decide +kernel
theorem dX1_root_28 : decode cX1_root 28 = .ok (.if_icmp .ge 12, 3) := by decide +kernel
theorem dX1_root_31 : decode cX1_root 31 = .ok (.aload_n 0, 1) := by decide +kernel
theorem dX1_root_32 : decode cX1_root 32 = .ok (.getfield 23, 3) := by decide +kernel
theorem dX1_root_35 : decode cX1_root 35 = .ok (.iload_n 1, 1) := by decide +kernel
theorem dX1_root_36 : decode cX1_root 36 = .ok (.iaload, 1) := by decide +kernel
theorem dX1_root_37 : decode cX1_root 37 = .ok (.goto 4, 3) := by decide +kernel
theorem dX1_root_40 : decode cX1_root 40 = .ok (.iconst 0, 1) := by decide +kernel
theorem dX1_root_41 : decode cX1_root 41 = .ok (.ireturn, 1) := by decide +kernel
theorem dX1_turn_0 : decode cX1_turn 0 = .ok (.aload_n 0, 1) := by decide +kernel
theorem dX1_turn_1 : decode cX1_turn 1 = .ok (.iload_n 1, 1) := by decide +kernel
theorem dX1_turn_2 : decode cX1_turn 2 = .ok (.ifCond .le 21, 3) := by decide +kernel
theorem dX1_turn_5 : decode cX1_turn 5 = .ok (.iload_n 1, 1) := by decide +kernel
theorem dX1_turn_6 : decode cX1_turn 6 = .ok (.invokestatic 63, 3) := by decide +kernel
theorem dX1_turn_9 : decode cX1_turn 9 = .ok (.ifCond .eq 14, 3) := by decide +kernel
theorem dX1_turn_12 : decode cX1_turn 12 = .ok (.iload_n 2, 1) := by decide +kernel
theorem dX1_turn_13 : decode cX1_turn 13 = .ok (.invokestatic 63, 3) := by decide +kernel
theorem dX1_turn_16 : decode cX1_turn 16 = .ok (.ifCond .eq 7, 3) := by decide +kernel
theorem dX1_turn_19 : decode cX1_turn 19 = .ok (.iconst 1, 1) := by decide +kernel
theorem dX1_turn_20 : decode cX1_turn 20 = .ok (.goto 4, 3) := by decide +kernel
theorem dX1_turn_23 : decode cX1_turn 23 = .ok (.iconst 0, 1) := by decide +kernel
theorem dX1_turn_24 : decode cX1_turn 24 = .ok (.iconst 1, 1) := by decide +kernel
theorem dX1_turn_25 : decode cX1_turn 25 = .ok (.invokevirtual 44, 3) := by decide +kernel
theorem dX1_turn_28 : decode cX1_turn 28 = .ok (.ifCond .ne 5, 3) := by decide +kernel
theorem dX1_turn_31 : decode cX1_turn 31 = .ok (.iconst 0, 1) := by decide +kernel
theorem dX1_turn_32 : decode cX1_turn 32 = .ok (.ireturn, 1) := by decide +kernel
theorem dX1_turn_33 : decode cX1_turn 33 = .ok (.iconst 0, 1) := by decide +kernel
theorem dX1_turn_34 : decode cX1_turn 34 = .ok (.istore_n 3, 1) := by decide +kernel
theorem dX1_turn_35 : decode cX1_turn 35 = .ok (.iconst 0, 1) := by decide +kernel
theorem dX1_turn_36 : decode cX1_turn 36 = .ok (.istore 4, 2) := by decide +kernel
theorem dX1_turn_38 : decode cX1_turn 38 = .ok (.iload 4, 2) := by decide +kernel
theorem dX1_turn_40 : decode cX1_turn 40 = .ok (.bipush 8, 2) := by decide +kernel
theorem dX1_turn_42 : decode cX1_turn 42 = .ok (.aload_n 0, 1) := by decide +kernel
theorem dX1_turn_43 : decode cX1_turn 43 = .ok (.getfield 7, 3) := by decide +kernel
theorem dX1_turn_46 : decode cX1_turn 46 = .ok (.imul, 1) := by decide +kernel
theorem dX1_turn_47 : decode cX1_turn 47 = .ok (.if_icmp .ge 57, 3) := by decide +kernel
theorem dX1_turn_50 : decode cX1_turn 50 = .ok (.aload_n 0, 1) := by decide +kernel
theorem dX1_turn_51 : decode cX1_turn 51 = .ok (.getfield 17, 3) := by decide +kernel
theorem dX1_turn_54 : decode cX1_turn 54 = .ok (.iload 4, 2) := by decide +kernel
theorem dX1_turn_56 : decode cX1_turn 56 = .ok (.iaload, 1) := by decide +kernel
theorem dX1_turn_57 : decode cX1_turn 57 = .ok (.iload_n 1, 1) := by decide +kernel
theorem dX1_turn_58 : decode cX1_turn 58 = .ok (.if_icmp .ne 9, 3) := by decide +kernel
theorem dX1_turn_61 : decode cX1_turn 61 = .ok (.iload_n 3, 1) := by decide +kernel
theorem dX1_turn_62 : decode cX1_turn 62 = .ok (.iconst 1, 1) := by decide +kernel
theorem dX1_turn_63 : decode cX1_turn 63 = .ok (.iadd, 1) := by decide +kernel
theorem dX1_turn_64 : decode cX1_turn 64 = .ok (.goto 4, 3) := by decide +kernel
theorem dX1_turn_67 : decode cX1_turn 67 = .ok (.iload_n 3, 1) := by decide +kernel
theorem dX1_turn_68 : decode cX1_turn 68 = .ok (.istore_n 3, 1) := by decide +kernel
theorem dX1_turn_69 : decode cX1_turn 69 = .ok (.aload_n 0, 1) := by decide +kernel
theorem dX1_turn_70 : decode cX1_turn 70 = .ok (.getfield 17, 3) := by decide +kernel
theorem dX1_turn_73 : decode cX1_turn 73 = .ok (.iload 4, 2) := by decide +kernel
theorem dX1_turn_75 : decode cX1_turn 75 = .ok (.aload_n 0, 1) := by decide +kernel
theorem dX1_turn_76 : decode cX1_turn 76 = .ok (.getfield 17, 3) := by decide +kernel
theorem dX1_turn_79 : decode cX1_turn 79 = .ok (.iload 4, 2) := by decide +kernel
theorem dX1_turn_81 : decode cX1_turn 81 = .ok (.iaload, 1) := by decide +kernel
theorem dX1_turn_82 : decode cX1_turn 82 = .ok (.iload_n 1, 1) := by decide +kernel
theorem dX1_turn_83 : decode cX1_turn 83 = .ok (.if_icmp .ne 7, 3) := by decide +kernel
theorem dX1_turn_86 : decode cX1_turn 86 = .ok (.iload_n 2, 1) := by decide +kernel
theorem dX1_turn_87 : decode cX1_turn 87 = .ok (.goto 10, 3) := by decide +kernel
theorem dX1_turn_90 : decode cX1_turn 90 = .ok (.aload_n 0, 1) := by decide +kernel
theorem dX1_turn_91 : decode cX1_turn 91 = .ok (.getfield 17, 3) := by decide +kernel
theorem dX1_turn_94 : decode cX1_turn 94 = .ok (.iload 4, 2) := by decide +kernel
theorem dX1_turn_96 : decode cX1_turn 96 = .ok (.iaload, 1) := by decide +kernel
theorem dX1_turn_97 : decode cX1_turn 97 = .ok (.iastore, 1) := by decide +kernel
theorem dX1_turn_98 : decode cX1_turn 98 = .ok (.iinc 4 1, 3) := by decide +kernel
theorem dX1_turn_101 : decode cX1_turn 101 = .ok (.goto (-63), 3) := by decide +kernel
theorem dX1_turn_104 : decode cX1_turn 104 = .ok (.iconst 0, 1) := by decide +kernel
theorem dX1_turn_105 : decode cX1_turn 105 = .ok (.istore 4, 2) := by decide +kernel
theorem dX1_turn_107 : decode cX1_turn 107 = .ok (.iload 4, 2) := by decide +kernel
theorem dX1_turn_109 : decode cX1_turn 109 = .ok (.bipush 16, 2) := by decide +kernel
theorem dX1_turn_111 : decode cX1_turn 111 = .ok (.if_icmp .ge 57, 3) := by decide +kernel
theorem dX1_turn_114 : decode cX1_turn 114 = .ok (.aload_n 0, 1) := by decide +kernel
theorem dX1_turn_115 : decode cX1_turn 115 = .ok (.getfield 20, 3) := by decide +kernel
theorem dX1_turn_118 : decode cX1_turn 118 = .ok (.iload 4, 2) := by decide +kernel
theorem dX1_turn_120 : decode cX1_turn 120 = .ok (.iaload, 1) := by decide +kernel
theorem dX1_turn_121 : decode cX1_turn 121 = .ok (.iload_n 1, 1) := by decide +kernel
theorem dX1_turn_122 : decode cX1_turn 122 = .ok (.if_icmp .ne 9, 3) := by decide +kernel
theorem dX1_turn_125 : decode cX1_turn 125 = .ok (.iload_n 3, 1) := by decide +kernel
theorem dX1_turn_126 : decode cX1_turn 126 = .ok (.iconst 1, 1) := by decide +kernel
theorem dX1_turn_127 : decode cX1_turn 127 = .ok (.iadd, 1) := by decide +kernel
theorem dX1_turn_128 : decode cX1_turn 128 = .ok (.goto 4, 3) := by decide +kernel
theorem dX1_turn_131 : decode cX1_turn 131 = .ok (.iload_n 3, 1) := by decide +kernel
theorem dX1_turn_132 : decode cX1_turn 132 = .ok (.istore_n 3, 1) := by decide +kernel
theorem dX1_turn_133 : decode cX1_turn 133 = .ok (.aload_n 0, 1) := by decide +kernel
theorem dX1_turn_134 : decode cX1_turn 134 = .ok (.getfield 20, 3) := by decide +kernel
theorem dX1_turn_137 : decode cX1_turn 137 = .ok (.iload 4, 2) := by decide +kernel
theorem dX1_turn_139 : decode cX1_turn 139 = .ok (.aload_n 0, 1) := by decide +kernel
theorem dX1_turn_140 : decode cX1_turn 140 = .ok (.getfield 20, 3) := by decide +kernel
theorem dX1_turn_143 : decode cX1_turn 143 = .ok (.iload 4, 2) := by decide +kernel
theorem dX1_turn_145 : decode cX1_turn 145 = .ok (.iaload, 1) := by decide +kernel
theorem dX1_turn_146 : decode cX1_turn 146 = .ok (.iload_n 1, 1) := by decide +kernel
theorem dX1_turn_147 : decode cX1_turn 147 = .ok (.if_icmp .ne 7, 3) := by decide +kernel
theorem dX1_turn_150 : decode cX1_turn 150 = .ok (.iload_n 2, 1) := by decide +kernel
theorem dX1_turn_151 : decode cX1_turn 151 = .ok (.goto 10, 3) := by decide +kernel
theorem dX1_turn_154 : decode cX1_turn 154 = .ok (.aload_n 0, 1) := by decide +kernel
theorem dX1_turn_155 : decode cX1_turn 155 = .ok (.getfield 20, 3) := by decide +kernel
theorem dX1_turn_158 : decode cX1_turn 158 = .ok (.iload 4, 2) := by decide +kernel
theorem dX1_turn_160 : decode cX1_turn 160 = .ok (.iaload, 1) := by decide +kernel
theorem dX1_turn_161 : decode cX1_turn 161 = .ok (.iastore, 1) := by decide +kernel
theorem dX1_turn_162 : decode cX1_turn 162 = .ok (.iinc 4 1, 3) := by decide +kernel
theorem dX1_turn_165 : decode cX1_turn 165 = .ok (.goto (-58), 3) := by decide +kernel
theorem dX1_turn_168 : decode cX1_turn 168 = .ok (.iload_n 3, 1) := by decide +kernel
theorem dX1_turn_169 : decode cX1_turn 169 = .ok (.ireturn, 1) := by decide +kernel
theorem dX1_renew_0 : decode cX1_renew 0 = .ok (.aload_n 0, 1) := by decide +kernel
theorem dX1_renew_1 : decode cX1_renew 1 = .ok (.iconst 0, 1) := by decide +kernel
theorem dX1_renew_2 : decode cX1_renew 2 = .ok (.putfield 32, 3) := by decide +kernel
theorem dX1_renew_5 : decode cX1_renew 5 = .ok (.aload_n 0, 1) := by decide +kernel
theorem dX1_renew_6 : decode cX1_renew 6 = .ok (.invokevirtual 78, 3) := by decide +kernel
theorem dX1_renew_9 : decode cX1_renew 9 = .ok (.aload_n 0, 1) := by decide +kernel
theorem dX1_renew_10 : decode cX1_renew 10 = .ok (.invokevirtual 81, 3) := by decide +kernel
theorem dX1_renew_13 : decode cX1_renew 13 = .ok (.istore_n 1, 1) := by decide +kernel
theorem dX1_renew_14 : decode cX1_renew 14 = .ok (.iconst 0, 1) := by decide +kernel
theorem dX1_renew_15 : decode cX1_renew 15 = .ok (.istore_n 2, 1) := by decide +kernel
theorem dX1_renew_16 : decode cX1_renew 16 = .ok (.iload_n 2, 1) := by decide +kernel
theorem dX1_renew_17 : decode cX1_renew 17 = .ok (.bipush 8, 2) := by decide +kernel
theorem dX1_renew_19 : decode cX1_renew 19 = .ok (.aload_n 0, 1) := by decide +kernel
theorem dX1_renew_20 : decode cX1_renew 20 = .ok (.getfield 7, 3) := by decide +kernel
theorem dX1_renew_23 : decode cX1_renew 23 = .ok (.imul, 1) := by decide +kernel
theorem dX1_renew_24 : decode cX1_renew 24 = .ok (.if_icmp .ge 38, 3) := by decide +kernel
theorem dX1_renew_27 : decode cX1_renew 27 = .ok (.aload_n 0, 1) := by decide +kernel
theorem dX1_renew_28 : decode cX1_renew 28 = .ok (.getfield 17, 3) := by decide +kernel
theorem dX1_renew_31 : decode cX1_renew 31 = .ok (.iload_n 2, 1) := by decide +kernel
theorem dX1_renew_32 : decode cX1_renew 32 = .ok (.aload_n 0, 1) := by decide +kernel
theorem dX1_renew_33 : decode cX1_renew 33 = .ok (.getfield 17, 3) := by decide +kernel
theorem dX1_renew_36 : decode cX1_renew 36 = .ok (.iload_n 2, 1) := by decide +kernel
theorem dX1_renew_37 : decode cX1_renew 37 = .ok (.iaload, 1) := by decide +kernel
theorem dX1_renew_38 : decode cX1_renew 38 = .ok (.ifCond .ne 7, 3) := by decide +kernel
theorem dX1_renew_41 : decode cX1_renew 41 = .ok (.iconst 0, 1) := by decide +kernel
theorem dX1_renew_42 : decode cX1_renew 42 = .ok (.goto 13, 3) := by decide +kernel
theorem dX1_renew_45 : decode cX1_renew 45 = .ok (.aload_n 0, 1) := by decide +kernel
theorem dX1_renew_46 : decode cX1_renew 46 = .ok (.aload_n 0, 1) := by decide +kernel
theorem dX1_renew_47 : decode cX1_renew 47 = .ok (.getfield 17, 3) := by decide +kernel
theorem dX1_renew_50 : decode cX1_renew 50 = .ok (.iload_n 2, 1) := by decide +kernel
theorem dX1_renew_51 : decode cX1_renew 51 = .ok (.iaload, 1) := by decide +kernel
theorem dX1_renew_52 : decode cX1_renew 52 = .ok (.invokevirtual 85, 3) := by decide +kernel
theorem dX1_renew_55 : decode cX1_renew 55 = .ok (.iastore, 1) := by decide +kernel
theorem dX1_renew_56 : decode cX1_renew 56 = .ok (.iinc 2 1, 3) := by decide +kernel
theorem dX1_renew_59 : decode cX1_renew 59 = .ok (.goto (-43), 3) := by decide +kernel
theorem dX1_renew_62 : decode cX1_renew 62 = .ok (.iconst 0, 1) := by decide +kernel
theorem dX1_renew_63 : decode cX1_renew 63 = .ok (.istore_n 2, 1) := by decide +kernel
theorem dX1_renew_64 : decode cX1_renew 64 = .ok (.iload_n 2, 1) := by decide +kernel
theorem dX1_renew_65 : decode cX1_renew 65 = .ok (.bipush 16, 2) := by decide +kernel
theorem dX1_renew_67 : decode cX1_renew 67 = .ok (.if_icmp .ge 38, 3) := by decide +kernel
theorem dX1_renew_70 : decode cX1_renew 70 = .ok (.aload_n 0, 1) := by decide +kernel
theorem dX1_renew_71 : decode cX1_renew 71 = .ok (.getfield 20, 3) := by decide +kernel
theorem dX1_renew_74 : decode cX1_renew 74 = .ok (.iload_n 2, 1) := by decide +kernel
theorem dX1_renew_75 : decode cX1_renew 75 = .ok (.aload_n 0, 1) := by decide +kernel
theorem dX1_renew_76 : decode cX1_renew 76 = .ok (.getfield 20, 3) := by decide +kernel
theorem dX1_renew_79 : decode cX1_renew 79 = .ok (.iload_n 2, 1) := by decide +kernel
theorem dX1_renew_80 : decode cX1_renew 80 = .ok (.iaload, 1) := by decide +kernel
theorem dX1_renew_81 : decode cX1_renew 81 = .ok (.ifCond .ne 7, 3) := by decide +kernel
theorem dX1_renew_84 : decode cX1_renew 84 = .ok (.iconst 0, 1) := by decide +kernel
theorem dX1_renew_85 : decode cX1_renew 85 = .ok (.goto 13, 3) := by decide +kernel
theorem dX1_renew_88 : decode cX1_renew 88 = .ok (.aload_n 0, 1) := by decide +kernel
theorem dX1_renew_89 : decode cX1_renew 89 = .ok (.aload_n 0, 1) := by decide +kernel
theorem dX1_renew_90 : decode cX1_renew 90 = .ok (.getfield 20, 3) := by decide +kernel
theorem dX1_renew_93 : decode cX1_renew 93 = .ok (.iload_n 2, 1) := by decide +kernel
theorem dX1_renew_94 : decode cX1_renew 94 = .ok (.iaload, 1) := by decide +kernel
theorem dX1_renew_95 : decode cX1_renew 95 = .ok (.invokevirtual 85, 3) := by decide +kernel
theorem dX1_renew_98 : decode cX1_renew 98 = .ok (.iastore, 1) := by decide +kernel
theorem dX1_renew_99 : decode cX1_renew 99 = .ok (.iinc 2 1, 3) := by decide +kernel
theorem dX1_renew_102 : decode cX1_renew 102 = .ok (.goto (-38), 3) := by decide +kernel
theorem dX1_renew_105 : decode cX1_renew 105 = .ok (.iload_n 1, 1) := by decide +kernel
theorem dX1_renew_106 : decode cX1_renew 106 = .ok (.ireturn, 1) := by decide +kernel
theorem dX1_count_0 : decode cX1_count 0 = .ok (.aload_n 0, 1) := by decide +kernel
theorem dX1_count_1 : decode cX1_count 1 = .ok (.iload_n 1, 1) := by decide +kernel
theorem dX1_count_2 : decode cX1_count 2 = .ok (.ifCond .lt 12, 3) := by decide +kernel
theorem dX1_count_5 : decode cX1_count 5 = .ok (.iload_n 1, 1) := by decide +kernel
theorem dX1_count_6 : decode cX1_count 6 = .ok (.iconst 4, 1) := by decide +kernel
theorem dX1_count_7 : decode cX1_count 7 = .ok (.if_icmp .gt 7, 3) := by decide +kernel
theorem dX1_count_10 : decode cX1_count 10 = .ok (.iconst 1, 1) := by decide +kernel
theorem dX1_count_11 : decode cX1_count 11 = .ok (.goto 4, 3) := by decide +kernel
theorem dX1_count_14 : decode cX1_count 14 = .ok (.iconst 0, 1) := by decide +kernel
theorem dX1_count_15 : decode cX1_count 15 = .ok (.iconst 1, 1) := by decide +kernel
theorem dX1_count_16 : decode cX1_count 16 = .ok (.invokevirtual 44, 3) := by decide +kernel
theorem dX1_count_19 : decode cX1_count 19 = .ok (.ifCond .ne 5, 3) := by decide +kernel
theorem dX1_count_22 : decode cX1_count 22 = .ok (.iconst 0, 1) := by decide +kernel
theorem dX1_count_23 : decode cX1_count 23 = .ok (.ireturn, 1) := by decide +kernel
theorem dX1_count_24 : decode cX1_count 24 = .ok (.aload_n 0, 1) := by decide +kernel
theorem dX1_count_25 : decode cX1_count 25 = .ok (.invokevirtual 78, 3) := by decide +kernel
theorem dX1_count_28 : decode cX1_count 28 = .ok (.iconst 0, 1) := by decide +kernel
theorem dX1_count_29 : decode cX1_count 29 = .ok (.istore_n 2, 1) := by decide +kernel
theorem dX1_count_30 : decode cX1_count 30 = .ok (.iconst 0, 1) := by decide +kernel
theorem dX1_count_31 : decode cX1_count 31 = .ok (.istore_n 3, 1) := by decide +kernel
theorem dX1_count_32 : decode cX1_count 32 = .ok (.iload_n 3, 1) := by decide +kernel
theorem dX1_count_33 : decode cX1_count 33 = .ok (.iconst 4, 1) := by decide +kernel
theorem dX1_count_34 : decode cX1_count 34 = .ok (.if_icmp .ge 28, 3) := by decide +kernel
theorem dX1_count_37 : decode cX1_count 37 = .ok (.aload_n 0, 1) := by decide +kernel
theorem dX1_count_38 : decode cX1_count 38 = .ok (.iload_n 3, 1) := by decide +kernel
theorem dX1_count_39 : decode cX1_count 39 = .ok (.invokevirtual 40, 3) := by decide +kernel
theorem dX1_count_42 : decode cX1_count 42 = .ok (.iload_n 2, 1) := by decide +kernel
theorem dX1_count_43 : decode cX1_count 43 = .ok (.if_icmp .le 11, 3) := by decide +kernel
theorem dX1_count_46 : decode cX1_count 46 = .ok (.aload_n 0, 1) := by decide +kernel
theorem dX1_count_47 : decode cX1_count 47 = .ok (.iload_n 3, 1) := by decide +kernel
theorem dX1_count_48 : decode cX1_count 48 = .ok (.invokevirtual 40, 3) := by decide +kernel
theorem dX1_count_51 : decode cX1_count 51 = .ok (.goto 4, 3) := by decide +kernel
theorem dX1_count_54 : decode cX1_count 54 = .ok (.iload_n 2, 1) := by decide +kernel
theorem dX1_count_55 : decode cX1_count 55 = .ok (.istore_n 2, 1) := by decide +kernel
theorem dX1_count_56 : decode cX1_count 56 = .ok (.iinc 3 1, 3) := by decide +kernel
theorem dX1_count_59 : decode cX1_count 59 = .ok (.goto (-27), 3) := by decide +kernel
theorem dX1_count_62 : decode cX1_count 62 = .ok (.iload_n 1, 1) := by decide +kernel
theorem dX1_count_63 : decode cX1_count 63 = .ok (.tableswitch 46 0 3 #[29, 34, 39, 41], 29) := by decide +kernel
theorem dX1_count_92 : decode cX1_count 92 = .ok (.aload_n 0, 1) := by decide +kernel
theorem dX1_count_93 : decode cX1_count 93 = .ok (.getfield 7, 3) := by decide +kernel
theorem dX1_count_96 : decode cX1_count 96 = .ok (.ireturn, 1) := by decide +kernel
theorem dX1_count_97 : decode cX1_count 97 = .ok (.aload_n 0, 1) := by decide +kernel
theorem dX1_count_98 : decode cX1_count 98 = .ok (.getfield 69, 3) := by decide +kernel
theorem dX1_count_101 : decode cX1_count 101 = .ok (.ireturn, 1) := by decide +kernel
theorem dX1_count_102 : decode cX1_count 102 = .ok (.iload_n 2, 1) := by decide +kernel
theorem dX1_count_103 : decode cX1_count 103 = .ok (.ireturn, 1) := by decide +kernel
theorem dX1_count_104 : decode cX1_count 104 = .ok (.aload_n 0, 1) := by decide +kernel
theorem dX1_count_105 : decode cX1_count 105 = .ok (.getfield 48, 3) := by decide +kernel
theorem dX1_count_108 : decode cX1_count 108 = .ok (.ireturn, 1) := by decide +kernel
theorem dX1_count_109 : decode cX1_count 109 = .ok (.aload_n 0, 1) := by decide +kernel
theorem dX1_count_110 : decode cX1_count 110 = .ok (.invokevirtual 81, 3) := by decide +kernel
theorem dX1_count_113 : decode cX1_count 113 = .ok (.ireturn, 1) := by decide +kernel
