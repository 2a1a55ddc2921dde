theorem dX0_init_0 : decode cX0_init 0 = .ok (.aload_n 0, 1) := by decide +kernel
theorem dX0_init_1 : decode cX0_init 1 = .ok (.invokespecial 3, 3) := by decide +kernel
theorem dX0_init_4 : decode cX0_init 4 = .ok (.aload_n 0, 1) := by decide +kernel
theorem dX0_init_5 : decode cX0_init 5 = .ok (.sipush 2064, 3) := by decide +kernel
theorem dX0_init_8 : decode cX0_init 8 = .ok (.newarray .int, 2) := by decide +kernel
theorem dX0_init_10 : decode cX0_init 10 = .ok (.putfield 9, 3) := by decide +kernel
theorem dX0_init_13 : decode cX0_init 13 = .ok (.aload_n 0, 1) := by decide +kernel
theorem dX0_init_14 : decode cX0_init 14 = .ok (.iconst 4, 1) := by decide +kernel
theorem dX0_init_15 : decode cX0_init 15 = .ok (.newarray .int, 2) := by decide +kernel
theorem dX0_init_17 : decode cX0_init 17 = .ok (.putfield 13, 3) := by decide +kernel
theorem dX0_init_20 : decode cX0_init 20 = .ok (.aload_n 0, 1) := by decide +kernel
theorem dX0_init_21 : decode cX0_init 21 = .ok (.getfield 13, 3) := by decide +kernel
theorem dX0_init_24 : decode cX0_init 24 = .ok (.iconst 1, 1) := by decide +kernel
theorem dX0_init_25 : decode cX0_init 25 = .ok (.invokestatic 16, 3) := by decide +kernel
theorem dX0_init_28 : decode cX0_init 28 = .ok (.aload_n 0, 1) := by decide +kernel
theorem dX0_init_29 : decode cX0_init 29 = .ok (.bipush 48, 2) := by decide +kernel
theorem dX0_init_31 : decode cX0_init 31 = .ok (.putfield 22, 3) := by decide +kernel
theorem dX0_init_34 : decode cX0_init 34 = .ok (.aload_n 0, 1) := by decide +kernel
theorem dX0_init_35 : decode cX0_init 35 = .ok (.iconst 0, 1) := by decide +kernel
theorem dX0_init_36 : decode cX0_init 36 = .ok (.putfield 26, 3) := by decide +kernel
theorem dX0_init_39 : decode cX0_init 39 = .ok (.return_, 1) := by decide +kernel
theorem dX0_call_0 : decode cX0_call 0 = .ok (.iload_n 1, 1) := by decide +kernel
theorem dX0_call_1 : decode cX0_call 1 = .ok (.invokestatic 29, 3) := by decide +kernel
theorem dX0_call_4 : decode cX0_call 4 = .ok (.aload_n 0, 1) := by decide +kernel
theorem dX0_call_5 : decode cX0_call 5 = .ok (.getfield 13, 3) := by decide +kernel
theorem dX0_call_8 : decode cX0_call 8 = .ok (.iload_n 1, 1) := by decide +kernel
theorem dX0_call_9 : decode cX0_call 9 = .ok (.iaload, 1) := by decide +kernel
theorem dX0_call_10 : decode cX0_call 10 = .ok (.bipush 64, 2) := by decide +kernel
theorem dX0_call_12 : decode cX0_call 12 = .ok (.if_icmp .lt 13, 3) := by decide +kernel
theorem dX0_call_15 : decode cX0_call 15 = .ok (.new 33, 3) := by decide +kernel
theorem dX0_call_18 : decode cX0_call 18 = .ok (.dup, 1) := by decide +kernel
theorem dX0_call_19 : decode cX0_call 19 = .ok (.ldc 35, 2) := by decide +kernel
theorem dX0_call_21 : decode cX0_call 21 = .ok (.invokespecial 37, 3) := by decide +kernel
theorem dX0_call_24 : decode cX0_call 24 = .ok (.athrow, 1) := by decide +kernel
theorem dX0_call_25 : decode cX0_call 25 = .ok (.aload_n 0, 1) := by decide +kernel
theorem dX0_call_26 : decode cX0_call 26 = .ok (.iload_n 1, 1) := by decide +kernel
theorem dX0_call_27 : decode cX0_call 27 = .ok (.invokevirtual 40, 3) := by decide +kernel
theorem dX0_call_30 : decode cX0_call 30 = .ok (.aload_n 0, 1) := by decide +kernel
theorem dX0_call_31 : decode cX0_call 31 = .ok (.dup, 1) := by decide +kernel
theorem dX0_call_32 : decode cX0_call 32 = .ok (.getfield 26, 3) := by decide +kernel
theorem dX0_call_35 : decode cX0_call 35 = .ok (.iconst 1, 1) := by decide +kernel
theorem dX0_call_36 : decode cX0_call 36 = .ok (.iadd, 1) := by decide +kernel
theorem dX0_call_37 : decode cX0_call 37 = .ok (.putfield 26, 3) := by decide +kernel
theorem dX0_call_40 : decode cX0_call 40 = .ok (.aload_n 0, 1) := by decide +kernel
theorem dX0_call_41 : decode cX0_call 41 = .ok (.getfield 13, 3) := by decide +kernel
theorem dX0_call_44 : decode cX0_call 44 = .ok (.iload_n 1, 1) := by decide +kernel
theorem dX0_call_45 : decode cX0_call 45 = .ok (.iaload, 1) := by decide +kernel
theorem dX0_call_46 : decode cX0_call 46 = .ok (.ireturn, 1) := by decide +kernel
theorem dX0_leave_0 : decode cX0_leave 0 = .ok (.iload_n 1, 1) := by decide +kernel
theorem dX0_leave_1 : decode cX0_leave 1 = .ok (.invokestatic 29, 3) := by decide +kernel
theorem dX0_leave_4 : decode cX0_leave 4 = .ok (.iload_n 2, 1) := by decide +kernel
theorem dX0_leave_5 : decode cX0_leave 5 = .ok (.invokestatic 43, 3) := by decide +kernel
theorem dX0_leave_8 : decode cX0_leave 8 = .ok (.aload_n 0, 1) := by decide +kernel
theorem dX0_leave_9 : decode cX0_leave 9 = .ok (.getfield 13, 3) := by decide +kernel
theorem dX0_leave_12 : decode cX0_leave 12 = .ok (.iload_n 1, 1) := by decide +kernel
theorem dX0_leave_13 : decode cX0_leave 13 = .ok (.iaload, 1) := by decide +kernel
theorem dX0_leave_14 : decode cX0_leave 14 = .ok (.iconst 1, 1) := by decide +kernel
theorem dX0_leave_15 : decode cX0_leave 15 = .ok (.if_icmp .gt 13, 3) := by decide +kernel
theorem dX0_leave_18 : decode cX0_leave 18 = .ok (.new 33, 3) := by decide +kernel
theorem dX0_leave_21 : decode cX0_leave 21 = .ok (.dup, 1) := by decide +kernel
theorem dX0_leave_22 : decode cX0_leave 22 = .ok (.ldc 46, 2) := by decide +kernel
theorem dX0_leave_24 : decode cX0_leave 24 = .ok (.invokespecial 37, 3) := by decide +kernel
theorem dX0_leave_27 : decode cX0_leave 27 = .ok (.athrow, 1) := by decide +kernel
theorem dX0_leave_28 : decode cX0_leave 28 = .ok (.aload_n 0, 1) := by decide +kernel
theorem dX0_leave_29 : decode cX0_leave 29 = .ok (.getfield 9, 3) := by decide +kernel
theorem dX0_leave_32 : decode cX0_leave 32 = .ok (.aload_n 0, 1) := by decide +kernel
theorem dX0_leave_33 : decode cX0_leave 33 = .ok (.iload_n 1, 1) := by decide +kernel
theorem dX0_leave_34 : decode cX0_leave 34 = .ok (.invokevirtual 48, 3) := by decide +kernel
theorem dX0_leave_37 : decode cX0_leave 37 = .ok (.iload_n 2, 1) := by decide +kernel
theorem dX0_leave_38 : decode cX0_leave 38 = .ok (.iadd, 1) := by decide +kernel
theorem dX0_leave_39 : decode cX0_leave 39 = .ok (.iaload, 1) := by decide +kernel
theorem dX0_leave_40 : decode cX0_leave 40 = .ok (.istore_n 3, 1) := by decide +kernel
theorem dX0_leave_41 : decode cX0_leave 41 = .ok (.aload_n 0, 1) := by decide +kernel
theorem dX0_leave_42 : decode cX0_leave 42 = .ok (.iload_n 1, 1) := by decide +kernel
theorem dX0_leave_43 : decode cX0_leave 43 = .ok (.aload_n 0, 1) := by decide +kernel
theorem dX0_leave_44 : decode cX0_leave 44 = .ok (.getfield 13, 3) := by decide +kernel
theorem dX0_leave_47 : decode cX0_leave 47 = .ok (.iload_n 1, 1) := by decide +kernel
theorem dX0_leave_48 : decode cX0_leave 48 = .ok (.iaload, 1) := by decide +kernel
theorem dX0_leave_49 : decode cX0_leave 49 = .ok (.iconst 1, 1) := by decide +kernel
theorem dX0_leave_50 : decode cX0_leave 50 = .ok (.isub, 1) := by decide +kernel
theorem dX0_leave_51 : decode cX0_leave 51 = .ok (.invokevirtual 52, 3) := by decide +kernel
theorem dX0_leave_54 : decode cX0_leave 54 = .ok (.aload_n 0, 1) := by decide +kernel
theorem dX0_leave_55 : decode cX0_leave 55 = .ok (.getfield 9, 3) := by decide +kernel
theorem dX0_leave_58 : decode cX0_leave 58 = .ok (.aload_n 0, 1) := by decide +kernel
theorem dX0_leave_59 : decode cX0_leave 59 = .ok (.iload_n 1, 1) := by decide +kernel
theorem dX0_leave_60 : decode cX0_leave 60 = .ok (.invokevirtual 48, 3) := by decide +kernel
theorem dX0_leave_63 : decode cX0_leave 63 = .ok (.iload_n 3, 1) := by decide +kernel
theorem dX0_leave_64 : decode cX0_leave 64 = .ok (.iastore, 1) := by decide +kernel
theorem dX0_leave_65 : decode cX0_leave 65 = .ok (.aload_n 0, 1) := by decide +kernel
theorem dX0_leave_66 : decode cX0_leave 66 = .ok (.getfield 13, 3) := by decide +kernel
theorem dX0_leave_69 : decode cX0_leave 69 = .ok (.iload_n 1, 1) := by decide +kernel
theorem dX0_leave_70 : decode cX0_leave 70 = .ok (.iaload, 1) := by decide +kernel
theorem dX0_leave_71 : decode cX0_leave 71 = .ok (.ireturn, 1) := by decide +kernel
theorem dX0_cut_0 : decode cX0_cut 0 = .ok (.iload_n 1, 1) := by decide +kernel
theorem dX0_cut_1 : decode cX0_cut 1 = .ok (.invokestatic 29, 3) := by decide +kernel
theorem dX0_cut_4 : decode cX0_cut 4 = .ok (.aload_n 0, 1) := by decide +kernel
theorem dX0_cut_5 : decode cX0_cut 5 = .ok (.getfield 13, 3) := by decide +kernel
theorem dX0_cut_8 : decode cX0_cut 8 = .ok (.iload_n 1, 1) := by decide +kernel
theorem dX0_cut_9 : decode cX0_cut 9 = .ok (.iaload, 1) := by decide +kernel
theorem dX0_cut_10 : decode cX0_cut 10 = .ok (.istore_n 3, 1) := by decide +kernel
theorem dX0_cut_11 : decode cX0_cut 11 = .ok (.iload_n 2, 1) := by decide +kernel
theorem dX0_cut_12 : decode cX0_cut 12 = .ok (.iconst 1, 1) := by decide +kernel
theorem dX0_cut_13 : decode cX0_cut 13 = .ok (.if_icmp .lt 8, 3) := by decide +kernel
theorem dX0_cut_16 : decode cX0_cut 16 = .ok (.iload_n 2, 1) := by decide +kernel
theorem dX0_cut_17 : decode cX0_cut 17 = .ok (.iload_n 3, 1) := by decide +kernel
theorem dX0_cut_18 : decode cX0_cut 18 = .ok (.if_icmp .le 13, 3) := by decide +kernel
theorem dX0_cut_21 : decode cX0_cut 21 = .ok (.new 56, 3) := by decide +kernel
theorem dX0_cut_24 : decode cX0_cut 24 = .ok (.dup, 1) := by decide +kernel
theorem dX0_cut_25 : decode cX0_cut 25 = .ok (.ldc 58, 2) := by decide +kernel
theorem dX0_cut_27 : decode cX0_cut 27 = .ok (.invokespecial 60, 3) := by decide +kernel
theorem dX0_cut_30 : decode cX0_cut 30 = .ok (.athrow, 1) := by decide +kernel
theorem dX0_cut_31 : decode cX0_cut 31 = .ok (.aload_n 0, 1) := by decide +kernel
theorem dX0_cut_32 : decode cX0_cut 32 = .ok (.iload_n 1, 1) := by decide +kernel
theorem dX0_cut_33 : decode cX0_cut 33 = .ok (.iload_n 2, 1) := by decide +kernel
theorem dX0_cut_34 : decode cX0_cut 34 = .ok (.invokevirtual 52, 3) := by decide +kernel
theorem dX0_cut_37 : decode cX0_cut 37 = .ok (.iload_n 3, 1) := by decide +kernel
theorem dX0_cut_38 : decode cX0_cut 38 = .ok (.iload_n 2, 1) := by decide +kernel
theorem dX0_cut_39 : decode cX0_cut 39 = .ok (.isub, 1) := by decide +kernel
theorem dX0_cut_40 : decode cX0_cut 40 = .ok (.ireturn, 1) := by decide +kernel
theorem dX0_get_0 : decode cX0_get 0 = .ok (.iload_n 1, 1) := by decide +kernel
theorem dX0_get_1 : decode cX0_get 1 = .ok (.invokestatic 29, 3) := by decide +kernel
theorem dX0_get_4 : decode cX0_get 4 = .ok (.iload_n 2, 1) := by decide +kernel
theorem dX0_get_5 : decode cX0_get 5 = .ok (.invokestatic 61, 3) := by decide +kernel
theorem dX0_get_8 : decode cX0_get 8 = .ok (.aload_n 0, 1) := by decide +kernel
theorem dX0_get_9 : decode cX0_get 9 = .ok (.getfield 9, 3) := by decide +kernel
theorem dX0_get_12 : decode cX0_get 12 = .ok (.aload_n 0, 1) := by decide +kernel
theorem dX0_get_13 : decode cX0_get 13 = .ok (.iload_n 1, 1) := by decide +kernel
theorem dX0_get_14 : decode cX0_get 14 = .ok (.iload_n 2, 1) := by decide +kernel
theorem dX0_get_15 : decode cX0_get 15 = .ok (.invokevirtual 64, 3) := by decide +kernel
theorem dX0_get_18 : decode cX0_get 18 = .ok (.iaload, 1) := by decide +kernel
theorem dX0_get_19 : decode cX0_get 19 = .ok (.ireturn, 1) := by decide +kernel
theorem dX0_put_0 : decode cX0_put 0 = .ok (.iload_n 1, 1) := by decide +kernel
theorem dX0_put_1 : decode cX0_put 1 = .ok (.invokestatic 29, 3) := by decide +kernel
theorem dX0_put_4 : decode cX0_put 4 = .ok (.iload_n 2, 1) := by decide +kernel
theorem dX0_put_5 : decode cX0_put 5 = .ok (.invokestatic 61, 3) := by decide +kernel
theorem dX0_put_8 : decode cX0_put 8 = .ok (.iload_n 3, 1) := by decide +kernel
theorem dX0_put_9 : decode cX0_put 9 = .ok (.invokestatic 68, 3) := by decide +kernel
theorem dX0_put_12 : decode cX0_put 12 = .ok (.aload_n 0, 1) := by decide +kernel
theorem dX0_put_13 : decode cX0_put 13 = .ok (.iload_n 1, 1) := by decide +kernel
theorem dX0_put_14 : decode cX0_put 14 = .ok (.iload_n 2, 1) := by decide +kernel
theorem dX0_put_15 : decode cX0_put 15 = .ok (.invokevirtual 64, 3) := by decide +kernel
theorem dX0_put_18 : decode cX0_put 18 = .ok (.istore 4, 2) := by decide +kernel
theorem dX0_put_20 : decode cX0_put 20 = .ok (.aload_n 0, 1) := by decide +kernel
theorem dX0_put_21 : decode cX0_put 21 = .ok (.getfield 9, 3) := by decide +kernel
theorem dX0_put_24 : decode cX0_put 24 = .ok (.iload 4, 2) := by decide +kernel
theorem dX0_put_26 : decode cX0_put 26 = .ok (.iaload, 1) := by decide +kernel
theorem dX0_put_27 : decode cX0_put 27 = .ok (.istore 5, 2) := by decide +kernel
theorem dX0_put_29 : decode cX0_put 29 = .ok (.aload_n 0, 1) := by decide +kernel
theorem dX0_put_30 : decode cX0_put 30 = .ok (.getfield 9, 3) := by decide +kernel
theorem dX0_put_33 : decode cX0_put 33 = .ok (.iload 4, 2) := by decide +kernel
theorem dX0_put_35 : decode cX0_put 35 = .ok (.iload_n 3, 1) := by decide +kernel
theorem dX0_put_36 : decode cX0_put 36 = .ok (.iastore, 1) := by decide +kernel
theorem dX0_put_37 : decode cX0_put 37 = .ok (.iload 5, 2) := by decide +kernel
theorem dX0_put_39 : decode cX0_put 39 = .ok (.ireturn, 1) := by decide +kernel
theorem dX0_peek_0 : decode cX0_peek 0 = .ok (.iload_n 1, 1) := by decide +kernel
theorem dX0_peek_1 : decode cX0_peek 1 = .ok (.invokestatic 29, 3) := by decide +kernel
theorem dX0_peek_4 : decode cX0_peek 4 = .ok (.iload_n 2, 1) := by decide +kernel
theorem dX0_peek_5 : decode cX0_peek 5 = .ok (.ifCond .lt 13, 3) := by decide +kernel
theorem dX0_peek_8 : decode cX0_peek 8 = .ok (.iload_n 2, 1) := by decide +kernel
theorem dX0_peek_9 : decode cX0_peek 9 = .ok (.aload_n 0, 1) := by decide +kernel
theorem dX0_peek_10 : decode cX0_peek 10 = .ok (.getfield 13, 3) := by decide +kernel
theorem dX0_peek_13 : decode cX0_peek 13 = .ok (.iload_n 1, 1) := by decide +kernel
theorem dX0_peek_14 : decode cX0_peek 14 = .ok (.iaload, 1) := by decide +kernel
theorem dX0_peek_15 : decode cX0_peek 15 = .ok (.if_icmp .lt 13, 3) := by decide +kernel
theorem dX0_peek_18 : decode cX0_peek 18 = .ok (.new 56, 3) := by decide +kernel
theorem dX0_peek_21 : decode cX0_peek 21 = .ok (.dup, 1) := by decide +kernel
theorem dX0_peek_22 : decode cX0_peek 22 = .ok (.ldc 58, 2) := by decide +kernel
theorem dX0_peek_24 : decode cX0_peek 24 = .ok (.invokespecial 60, 3) := by decide +kernel
theorem dX0_peek_27 : decode cX0_peek 27 = .ok (.athrow, 1) := by decide +kernel
theorem dX0_peek_28 : decode cX0_peek 28 = .ok (.iload_n 3, 1) := by decide +kernel
theorem dX0_peek_29 : decode cX0_peek 29 = .ok (.invokestatic 43, 3) := by decide +kernel
theorem dX0_peek_32 : decode cX0_peek 32 = .ok (.aload_n 0, 1) := by decide +kernel
theorem dX0_peek_33 : decode cX0_peek 33 = .ok (.getfield 9, 3) := by decide +kernel
theorem dX0_peek_36 : decode cX0_peek 36 = .ok (.aload_n 0, 1) := by decide +kernel
theorem dX0_peek_37 : decode cX0_peek 37 = .ok (.iload_n 1, 1) := by decide +kernel
theorem dX0_peek_38 : decode cX0_peek 38 = .ok (.iload_n 2, 1) := by decide +kernel
theorem dX0_peek_39 : decode cX0_peek 39 = .ok (.invokevirtual 71, 3) := by decide +kernel
theorem dX0_peek_42 : decode cX0_peek 42 = .ok (.iload_n 3, 1) := by decide +kernel
theorem dX0_peek_43 : decode cX0_peek 43 = .ok (.iadd, 1) := by decide +kernel
theorem dX0_peek_44 : decode cX0_peek 44 = .ok (.iaload, 1) := by decide +kernel
theorem dX0_peek_45 : decode cX0_peek 45 = .ok (.ireturn, 1) := by decide +kernel
theorem dX0_holds_0 : decode cX0_holds 0 = .ok (.iload_n 1, 1) := by decide +kernel
theorem dX0_holds_1 : decode cX0_holds 1 = .ok (.invokestatic 68, 3) := by decide +kernel
theorem dX0_holds_4 : decode cX0_holds 4 = .ok (.aload_n 0, 1) := by decide +kernel
theorem dX0_holds_5 : decode cX0_holds 5 = .ok (.iload_n 1, 1) := by decide +kernel
theorem dX0_holds_6 : decode cX0_holds 6 = .ok (.invokevirtual 74, 3) := by decide +kernel
theorem dX0_holds_9 : decode cX0_holds 9 = .ok (.ireturn, 1) := by decide +kernel
theorem dX0_root_0 : decode cX0_root 0 = .ok (.iload_n 1, 1) := by decide +kernel
theorem dX0_root_1 : decode cX0_root 1 = .ok (.ifCond .ge 13, 3) := by decide +kernel
theorem dX0_root_4 : decode cX0_root 4 = .ok (.new 77, 3) := by decide +kernel
theorem dX0_root_7 : decode cX0_root 7 = .ok (.dup, 1) := by decide +kernel
theorem dX0_root_8 : decode cX0_root 8 = .ok (.ldc 79, 2) := by decide +kernel
theorem dX0_root_10 : decode cX0_root 10 = .ok (.invokespecial 81, 3) := by decide +kernel
theorem dX0_root_13 : decode cX0_root 13 = .ok (.athrow, 1) := by decide +kernel
theorem dX0_root_14 : decode cX0_root 14 = .ok (.iload_n 1, 1) := by decide +kernel
theorem dX0_root_15 : decode cX0_root 15 = .ok (.istore_n 2, 1) := by decide +kernel
theorem dX0_root_16 : decode cX0_root 16 = .ok (.iconst 0, 1) := by decide +kernel
theorem dX0_root_17 : decode cX0_root 17 = .ok (.istore_n 3, 1) := by decide +kernel
theorem dX0_root_18 : decode cX0_root 18 = .ok (.iload_n 3, 1) := by decide +kernel
theorem dX0_root_19 : decode cX0_root 19 = .ok (.aload_n 0, 1) := by decide +kernel
theorem dX0_root_20 : decode cX0_root 20 = .ok (.getfield 22, 3) := by decide +kernel
theorem dX0_root_23 : decode cX0_root 23 = .ok (.if_icmp .ge 32, 3) := by decide +kernel
theorem dX0_root_26 : decode cX0_root 26 = .ok (.aload_n 0, 1) := by decide +kernel
theorem dX0_root_27 : decode cX0_root 27 = .ok (.getfield 9, 3) := by decide +kernel
theorem dX0_root_30 : decode cX0_root 30 = .ok (.iload_n 3, 1) := by decide +kernel
theorem dX0_root_31 : decode cX0_root 31 = .ok (.iaload, 1) := by decide +kernel
theorem dX0_root_32 : decode cX0_root 32 = .ok (.ifCond .eq 17, 3) := by decide +kernel
theorem dX0_root_35 : decode cX0_root 35 = .ok (.iload_n 2, 1) := by decide +kernel
theorem dX0_root_36 : decode cX0_root 36 = .ok (.ifCond .ne 10, 3) := by decide +kernel
theorem dX0_root_39 : decode cX0_root 39 = .ok (.aload_n 0, 1) := by decide +kernel
theorem dX0_root_40 : decode cX0_root 40 = .ok (.getfield 9, 3) := by decide +kernel
theorem dX0_root_43 : decode cX0_root 43 = .ok (.iload_n 3, 1) := by decide +kernel
theorem dX0_root_44 : decode cX0_root 44 = .ok (.iaload, 1) := by decide +kernel
theorem dX0_root_45 : decode cX0_root 45 = .ok (.ireturn, 1) := by decide +kernel
theorem dX0_root_46 : decode cX0_root 46 = .ok (.iinc 2 (-1), 3) := by decide +kernel
theorem dX0_root_49 : decode cX0_root 49 = .ok (.iinc 3 1, 3) := by decide +kernel
theorem dX0_root_52 : decode cX0_root 52 = .ok (.goto (-34), 3) := by decide +kernel
theorem dX0_root_55 : decode cX0_root 55 = .ok (.iconst 0, 1) := by decide +kernel
theorem dX0_root_56 : decode cX0_root 56 = .ok (.ireturn, 1) := by decide +kernel
theorem dX0_turn_0 : decode cX0_turn 0 = .ok (.iload_n 1, 1) := by decide +kernel
theorem dX0_turn_1 : decode cX0_turn 1 = .ok (.ifCond .ne 13, 3) := by decide +kernel
theorem dX0_turn_4 : decode cX0_turn 4 = .ok (.new 77, 3) := by decide +kernel
theorem dX0_turn_7 : decode cX0_turn 7 = .ok (.dup, 1) := by decide +kernel
theorem dX0_turn_8 : decode cX0_turn 8 = .ok (.ldc 82, 2) := by decide +kernel
theorem dX0_turn_10 : decode cX0_turn 10 = .ok (.invokespecial 81, 3) := by decide +kernel
theorem dX0_turn_13 : decode cX0_turn 13 = .ok (.athrow, 1) := by decide +kernel
theorem dX0_turn_14 : decode cX0_turn 14 = .ok (.iload_n 1, 1) := by decide +kernel
theorem dX0_turn_15 : decode cX0_turn 15 = .ok (.invokestatic 68, 3) := by decide +kernel
theorem dX0_turn_18 : decode cX0_turn 18 = .ok (.iload_n 2, 1) := by decide +kernel
theorem dX0_turn_19 : decode cX0_turn 19 = .ok (.invokestatic 68, 3) := by decide +kernel
theorem dX0_turn_22 : decode cX0_turn 22 = .ok (.aload_n 0, 1) := by decide +kernel
theorem dX0_turn_23 : decode cX0_turn 23 = .ok (.iconst 0, 1) := by decide +kernel
theorem dX0_turn_24 : decode cX0_turn 24 = .ok (.iload_n 1, 1) := by decide +kernel
theorem dX0_turn_25 : decode cX0_turn 25 = .ok (.iload_n 2, 1) := by decide +kernel
theorem dX0_turn_26 : decode cX0_turn 26 = .ok (.invokevirtual 84, 3) := by decide +kernel
theorem dX0_turn_29 : decode cX0_turn 29 = .ok (.ireturn, 1) := by decide +kernel
theorem dX0_renew_0 : decode cX0_renew 0 = .ok (.iconst 0, 1) := by decide +kernel
theorem dX0_renew_1 : decode cX0_renew 1 = .ok (.istore_n 1, 1) := by decide +kernel
theorem dX0_renew_2 : decode cX0_renew 2 = .ok (.iconst 0, 1) := by decide +kernel
theorem dX0_renew_3 : decode cX0_renew 3 = .ok (.istore_n 2, 1) := by decide +kernel
theorem dX0_renew_4 : decode cX0_renew 4 = .ok (.iload_n 2, 1) := by decide +kernel
theorem dX0_renew_5 : decode cX0_renew 5 = .ok (.aload_n 0, 1) := by decide +kernel
theorem dX0_renew_6 : decode cX0_renew 6 = .ok (.getfield 22, 3) := by decide +kernel
theorem dX0_renew_9 : decode cX0_renew 9 = .ok (.if_icmp .ge 35, 3) := by decide +kernel
theorem dX0_renew_12 : decode cX0_renew 12 = .ok (.aload_n 0, 1) := by decide +kernel
theorem dX0_renew_13 : decode cX0_renew 13 = .ok (.getfield 9, 3) := by decide +kernel
theorem dX0_renew_16 : decode cX0_renew 16 = .ok (.iload_n 2, 1) := by decide +kernel
theorem dX0_renew_17 : decode cX0_renew 17 = .ok (.iaload, 1) := by decide +kernel
theorem dX0_renew_18 : decode cX0_renew 18 = .ok (.ifCond .le 20, 3) := by decide +kernel
theorem dX0_renew_21 : decode cX0_renew 21 = .ok (.iinc 1 1, 3) := by decide +kernel
theorem dX0_renew_24 : decode cX0_renew 24 = .ok (.aload_n 0, 1) := by decide +kernel
theorem dX0_renew_25 : decode cX0_renew 25 = .ok (.iload_n 2, 1) := by decide +kernel
theorem dX0_renew_26 : decode cX0_renew 26 = .ok (.aload_n 0, 1) := by decide +kernel
theorem dX0_renew_27 : decode cX0_renew 27 = .ok (.getfield 9, 3) := by decide +kernel
theorem dX0_renew_30 : decode cX0_renew 30 = .ok (.iload_n 2, 1) := by decide +kernel
theorem dX0_renew_31 : decode cX0_renew 31 = .ok (.iaload, 1) := by decide +kernel
theorem dX0_renew_32 : decode cX0_renew 32 = .ok (.iload_n 1, 1) := by decide +kernel
theorem dX0_renew_33 : decode cX0_renew 33 = .ok (.ineg, 1) := by decide +kernel
theorem dX0_renew_34 : decode cX0_renew 34 = .ok (.invokevirtual 84, 3) := by decide +kernel
theorem dX0_renew_37 : decode cX0_renew 37 = .ok (.pop, 1) := by decide +kernel
theorem dX0_renew_38 : decode cX0_renew 38 = .ok (.iinc 2 1, 3) := by decide +kernel
theorem dX0_renew_41 : decode cX0_renew 41 = .ok (.goto (-37), 3) := by decide +kernel
theorem dX0_renew_44 : decode cX0_renew 44 = .ok (.iconst 0, 1) := by decide +kernel
theorem dX0_renew_45 : decode cX0_renew 45 = .ok (.istore_n 2, 1) := by decide +kernel
theorem dX0_renew_46 : decode cX0_renew 46 = .ok (.iload_n 2, 1) := by decide +kernel
theorem dX0_renew_47 : decode cX0_renew 47 = .ok (.aload_n 0, 1) := by decide +kernel
theorem dX0_renew_48 : decode cX0_renew 48 = .ok (.getfield 22, 3) := by decide +kernel
theorem dX0_renew_51 : decode cX0_renew 51 = .ok (.if_icmp .ge 22, 3) := by decide +kernel
theorem dX0_renew_54 : decode cX0_renew 54 = .ok (.aload_n 0, 1) := by decide +kernel
theorem dX0_renew_55 : decode cX0_renew 55 = .ok (.getfield 9, 3) := by decide +kernel
theorem dX0_renew_58 : decode cX0_renew 58 = .ok (.iload_n 2, 1) := by decide +kernel
theorem dX0_renew_59 : decode cX0_renew 59 = .ok (.aload_n 0, 1) := by decide +kernel
theorem dX0_renew_60 : decode cX0_renew 60 = .ok (.getfield 9, 3) := by decide +kernel
theorem dX0_renew_63 : decode cX0_renew 63 = .ok (.iload_n 2, 1) := by decide +kernel
theorem dX0_renew_64 : decode cX0_renew 64 = .ok (.iaload, 1) := by decide +kernel
theorem dX0_renew_65 : decode cX0_renew 65 = .ok (.ineg, 1) := by decide +kernel
theorem dX0_renew_66 : decode cX0_renew 66 = .ok (.iastore, 1) := by decide +kernel
theorem dX0_renew_67 : decode cX0_renew 67 = .ok (.iinc 2 1, 3) := by decide +kernel
theorem dX0_renew_70 : decode cX0_renew 70 = .ok (.goto (-24), 3) := by decide +kernel
theorem dX0_renew_73 : decode cX0_renew 73 = .ok (.iload_n 1, 1) := by decide +kernel
theorem dX0_renew_74 : decode cX0_renew 74 = .ok (.ireturn, 1) := by decide +kernel
theorem dX0_count_0 : decode cX0_count 0 = .ok (.iload_n 1, 1) := by decide +kernel
theorem dX0_count_1 : decode cX0_count 1 = .ok (.tableswitch 66 0 4 #[35, 40, 51, 56, 61], 35) := by decide +kernel
theorem dX0_count_36 : decode cX0_count 36 = .ok (.aload_n 0, 1) := by decide +kernel
theorem dX0_count_37 : decode cX0_count 37 = .ok (.invokevirtual 88, 3) := by decide +kernel
theorem dX0_count_40 : decode cX0_count 40 = .ok (.ireturn, 1) := by decide +kernel
theorem dX0_count_41 : decode cX0_count 41 = .ok (.aload_n 0, 1) := by decide +kernel
theorem dX0_count_42 : decode cX0_count 42 = .ok (.getfield 22, 3) := by decide +kernel
theorem dX0_count_45 : decode cX0_count 45 = .ok (.aload_n 0, 1) := by decide +kernel
theorem dX0_count_46 : decode cX0_count 46 = .ok (.iconst 0, 1) := by decide +kernel
theorem dX0_count_47 : decode cX0_count 47 = .ok (.invokevirtual 74, 3) := by decide +kernel
theorem dX0_count_50 : decode cX0_count 50 = .ok (.isub, 1) := by decide +kernel
theorem dX0_count_51 : decode cX0_count 51 = .ok (.ireturn, 1) := by decide +kernel
theorem dX0_count_52 : decode cX0_count 52 = .ok (.aload_n 0, 1) := by decide +kernel
theorem dX0_count_53 : decode cX0_count 53 = .ok (.invokevirtual 92, 3) := by decide +kernel
theorem dX0_count_56 : decode cX0_count 56 = .ok (.ireturn, 1) := by decide +kernel
theorem dX0_count_57 : decode cX0_count 57 = .ok (.aload_n 0, 1) := by decide +kernel
theorem dX0_count_58 : decode cX0_count 58 = .ok (.getfield 26, 3) := by decide +kernel
theorem dX0_count_61 : decode cX0_count 61 = .ok (.ireturn, 1) := by decide +kernel
theorem dX0_count_62 : decode cX0_count 62 = .ok (.aload_n 0, 1) := by decide +kernel
theorem dX0_count_63 : decode cX0_count 63 = .ok (.invokevirtual 95, 3) := by decide +kernel
theorem dX0_count_66 : decode cX0_count 66 = .ok (.ireturn, 1) := by decide +kernel
theorem dX0_count_67 : decode cX0_count 67 = .ok (.new 77, 3) := by decide +kernel
theorem dX0_count_70 : decode cX0_count 70 = .ok (.dup, 1) := by decide +kernel
theorem dX0_count_71 : decode cX0_count 71 = .ok (.ldc 98, 2) := by decide +kernel
theorem dX0_count_73 : decode cX0_count 73 = .ok (.invokespecial 81, 3) := by decide +kernel
theorem dX0_count_76 : decode cX0_count 76 = .ok (.athrow, 1) := by decide +kernel
theorem dX0_checkMutator_0 : decode cX0_checkMutator 0 = .ok (.iload_n 0, 1) := by decide +kernel
theorem dX0_checkMutator_1 : decode cX0_checkMutator 1 = .ok (.ifCond .lt 8, 3) := by decide +kernel
theorem dX0_checkMutator_4 : decode cX0_checkMutator 4 = .ok (.iload_n 0, 1) := by decide +kernel
theorem dX0_checkMutator_5 : decode cX0_checkMutator 5 = .ok (.iconst 4, 1) := by decide +kernel
theorem dX0_checkMutator_6 : decode cX0_checkMutator 6 = .ok (.if_icmp .lt 13, 3) := by decide +kernel
theorem dX0_checkMutator_9 : decode cX0_checkMutator 9 = .ok (.new 56, 3) := by decide +kernel
theorem dX0_checkMutator_12 : decode cX0_checkMutator 12 = .ok (.dup, 1) := by decide +kernel
theorem dX0_checkMutator_13 : decode cX0_checkMutator 13 = .ok (.ldc 100, 2) := by decide +kernel
theorem dX0_checkMutator_15 : decode cX0_checkMutator 15 = .ok (.invokespecial 60, 3) := by decide +kernel
theorem dX0_checkMutator_18 : decode cX0_checkMutator 18 = .ok (.athrow, 1) := by decide +kernel
theorem dX0_checkMutator_19 : decode cX0_checkMutator 19 = .ok (.return_, 1) := by decide +kernel
theorem dX0_checkSlot_0 : decode cX0_checkSlot 0 = .ok (.iload_n 0, 1) := by decide +kernel
theorem dX0_checkSlot_1 : decode cX0_checkSlot 1 = .ok (.ifCond .lt 9, 3) := by decide +kernel
theorem dX0_checkSlot_4 : decode cX0_checkSlot 4 = .ok (.iload_n 0, 1) := by decide +kernel
theorem dX0_checkSlot_5 : decode cX0_checkSlot 5 = .ok (.bipush 8, 2) := by decide +kernel
theorem dX0_checkSlot_7 : decode cX0_checkSlot 7 = .ok (.if_icmp .lt 13, 3) := by decide +kernel
theorem dX0_checkSlot_10 : decode cX0_checkSlot 10 = .ok (.new 56, 3) := by decide +kernel
theorem dX0_checkSlot_13 : decode cX0_checkSlot 13 = .ok (.dup, 1) := by decide +kernel
theorem dX0_checkSlot_14 : decode cX0_checkSlot 14 = .ok (.ldc 102, 2) := by decide +kernel
theorem dX0_checkSlot_16 : decode cX0_checkSlot 16 = .ok (.invokespecial 60, 3) := by decide +kernel
theorem dX0_checkSlot_19 : decode cX0_checkSlot 19 = .ok (.athrow, 1) := by decide +kernel
theorem dX0_checkSlot_20 : decode cX0_checkSlot 20 = .ok (.return_, 1) := by decide +kernel
theorem dX0_checkPlace_0 : decode cX0_checkPlace 0 = .ok (.iload_n 0, 1) := by decide +kernel
theorem dX0_checkPlace_1 : decode cX0_checkPlace 1 = .ok (.ifCond .lt 9, 3) := by decide +kernel
theorem dX0_checkPlace_4 : decode cX0_checkPlace 4 = .ok (.iload_n 0, 1) := by decide +kernel
theorem dX0_checkPlace_5 : decode cX0_checkPlace 5 = .ok (.bipush 24, 2) := by decide +kernel
theorem dX0_checkPlace_7 : decode cX0_checkPlace 7 = .ok (.if_icmp .lt 13, 3) := by decide +kernel
theorem dX0_checkPlace_10 : decode cX0_checkPlace 10 = .ok (.new 56, 3) := by decide +kernel
theorem dX0_checkPlace_13 : decode cX0_checkPlace 13 = .ok (.dup, 1) := by decide +kernel
theorem dX0_checkPlace_14 : decode cX0_checkPlace 14 = .ok (.ldc 104, 2) := by decide +kernel
theorem dX0_checkPlace_16 : decode cX0_checkPlace 16 = .ok (.invokespecial 60, 3) := by decide +kernel
theorem dX0_checkPlace_19 : decode cX0_checkPlace 19 = .ok (.athrow, 1) := by decide +kernel
theorem dX0_checkPlace_20 : decode cX0_checkPlace 20 = .ok (.return_, 1) := by decide +kernel
theorem dX0_checkValue_0 : decode cX0_checkValue 0 = .ok (.iload_n 0, 1) := by decide +kernel
theorem dX0_checkValue_1 : decode cX0_checkValue 1 = .ok (.ifCond .lt 9, 3) := by decide +kernel
theorem dX0_checkValue_4 : decode cX0_checkValue 4 = .ok (.iload_n 0, 1) := by decide +kernel
theorem dX0_checkValue_5 : decode cX0_checkValue 5 = .ok (.ldc 106, 2) := by decide +kernel
theorem dX0_checkValue_7 : decode cX0_checkValue 7 = .ok (.if_icmp .le 13, 3) := by decide +kernel
theorem dX0_checkValue_10 : decode cX0_checkValue 10 = .ok (.new 77, 3) := by decide +kernel
theorem dX0_checkValue_13 : decode cX0_checkValue 13 = .ok (.dup, 1) := by decide +kernel
theorem dX0_checkValue_14 : decode cX0_checkValue 14 = .ok (.ldc 107, 2) := by decide +kernel
theorem dX0_checkValue_16 : decode cX0_checkValue 16 = .ok (.invokespecial 81, 3) := by decide +kernel
theorem dX0_checkValue_19 : decode cX0_checkValue 19 = .ok (.athrow, 1) := by decide +kernel
theorem dX0_checkValue_20 : decode cX0_checkValue 20 = .ok (.return_, 1) := by decide +kernel
theorem dX0_startOfFrame_0 : decode cX0_startOfFrame 0 = .ok (.iload_n 2, 1) := by decide +kernel
theorem dX0_startOfFrame_1 : decode cX0_startOfFrame 1 = .ok (.istore_n 3, 1) := by decide +kernel
theorem dX0_startOfFrame_2 : decode cX0_startOfFrame 2 = .ok (.iconst 0, 1) := by decide +kernel
theorem dX0_startOfFrame_3 : decode cX0_startOfFrame 3 = .ok (.istore 4, 2) := by decide +kernel
theorem dX0_startOfFrame_5 : decode cX0_startOfFrame 5 = .ok (.iload 4, 2) := by decide +kernel
theorem dX0_startOfFrame_7 : decode cX0_startOfFrame 7 = .ok (.iload_n 1, 1) := by decide +kernel
theorem dX0_startOfFrame_8 : decode cX0_startOfFrame 8 = .ok (.if_icmp .ge 19, 3) := by decide +kernel
theorem dX0_startOfFrame_11 : decode cX0_startOfFrame 11 = .ok (.iload_n 3, 1) := by decide +kernel
theorem dX0_startOfFrame_12 : decode cX0_startOfFrame 12 = .ok (.aload_n 0, 1) := by decide +kernel
theorem dX0_startOfFrame_13 : decode cX0_startOfFrame 13 = .ok (.getfield 13, 3) := by decide +kernel
theorem dX0_startOfFrame_16 : decode cX0_startOfFrame 16 = .ok (.iload 4, 2) := by decide +kernel
theorem dX0_startOfFrame_18 : decode cX0_startOfFrame 18 = .ok (.iaload, 1) := by decide +kernel
theorem dX0_startOfFrame_19 : decode cX0_startOfFrame 19 = .ok (.iadd, 1) := by decide +kernel
theorem dX0_startOfFrame_20 : decode cX0_startOfFrame 20 = .ok (.istore_n 3, 1) := by decide +kernel
theorem dX0_startOfFrame_21 : decode cX0_startOfFrame 21 = .ok (.iinc 4 1, 3) := by decide +kernel
theorem dX0_startOfFrame_24 : decode cX0_startOfFrame 24 = .ok (.goto (-19), 3) := by decide +kernel
theorem dX0_startOfFrame_27 : decode cX0_startOfFrame 27 = .ok (.iload_n 3, 1) := by decide +kernel
theorem dX0_startOfFrame_28 : decode cX0_startOfFrame 28 = .ok (.bipush 8, 2) := by decide +kernel
theorem dX0_startOfFrame_30 : decode cX0_startOfFrame 30 = .ok (.imul, 1) := by decide +kernel
theorem dX0_startOfFrame_31 : decode cX0_startOfFrame 31 = .ok (.ireturn, 1) := by decide +kernel
theorem dX0_upperFrame_0 : decode cX0_upperFrame 0 = .ok (.aload_n 0, 1) := by decide +kernel
theorem dX0_upperFrame_1 : decode cX0_upperFrame 1 = .ok (.iload_n 1, 1) := by decide +kernel
theorem dX0_upperFrame_2 : decode cX0_upperFrame 2 = .ok (.aload_n 0, 1) := by decide +kernel
theorem dX0_upperFrame_3 : decode cX0_upperFrame 3 = .ok (.getfield 13, 3) := by decide +kernel
theorem dX0_upperFrame_6 : decode cX0_upperFrame 6 = .ok (.iload_n 1, 1) := by decide +kernel
theorem dX0_upperFrame_7 : decode cX0_upperFrame 7 = .ok (.iaload, 1) := by decide +kernel
theorem dX0_upperFrame_8 : decode cX0_upperFrame 8 = .ok (.iconst 1, 1) := by decide +kernel
theorem dX0_upperFrame_9 : decode cX0_upperFrame 9 = .ok (.isub, 1) := by decide +kernel
theorem dX0_upperFrame_10 : decode cX0_upperFrame 10 = .ok (.invokevirtual 71, 3) := by decide +kernel
theorem dX0_upperFrame_13 : decode cX0_upperFrame 13 = .ok (.ireturn, 1) := by decide +kernel
theorem dX0_indexOfPlace_0 : decode cX0_indexOfPlace 0 = .ok (.iload_n 2, 1) := by decide +kernel
theorem dX0_indexOfPlace_1 : decode cX0_indexOfPlace 1 = .ok (.bipush 8, 2) := by decide +kernel
theorem dX0_indexOfPlace_3 : decode cX0_indexOfPlace 3 = .ok (.if_icmp .ge 11, 3) := by decide +kernel
theorem dX0_indexOfPlace_6 : decode cX0_indexOfPlace 6 = .ok (.aload_n 0, 1) := by decide +kernel
theorem dX0_indexOfPlace_7 : decode cX0_indexOfPlace 7 = .ok (.iload_n 1, 1) := by decide +kernel
theorem dX0_indexOfPlace_8 : decode cX0_indexOfPlace 8 = .ok (.invokevirtual 48, 3) := by decide +kernel
theorem dX0_indexOfPlace_11 : decode cX0_indexOfPlace 11 = .ok (.iload_n 2, 1) := by decide +kernel
theorem dX0_indexOfPlace_12 : decode cX0_indexOfPlace 12 = .ok (.iadd, 1) := by decide +kernel
theorem dX0_indexOfPlace_13 : decode cX0_indexOfPlace 13 = .ok (.ireturn, 1) := by decide +kernel
theorem dX0_indexOfPlace_14 : decode cX0_indexOfPlace 14 = .ok (.aload_n 0, 1) := by decide +kernel
theorem dX0_indexOfPlace_15 : decode cX0_indexOfPlace 15 = .ok (.getfield 22, 3) := by decide +kernel
theorem dX0_indexOfPlace_18 : decode cX0_indexOfPlace 18 = .ok (.bipush 24, 2) := by decide +kernel
theorem dX0_indexOfPlace_20 : decode cX0_indexOfPlace 20 = .ok (.isub, 1) := by decide +kernel
theorem dX0_indexOfPlace_21 : decode cX0_indexOfPlace 21 = .ok (.iload_n 2, 1) := by decide +kernel
theorem dX0_indexOfPlace_22 : decode cX0_indexOfPlace 22 = .ok (.iadd, 1) := by decide +kernel
theorem dX0_indexOfPlace_23 : decode cX0_indexOfPlace 23 = .ok (.ireturn, 1) := by decide +kernel
theorem dX0_addFrame_0 : decode cX0_addFrame 0 = .ok (.aload_n 0, 1) := by decide +kernel
theorem dX0_addFrame_1 : decode cX0_addFrame 1 = .ok (.iload_n 1, 1) := by decide +kernel
theorem dX0_addFrame_2 : decode cX0_addFrame 2 = .ok (.aload_n 0, 1) := by decide +kernel
theorem dX0_addFrame_3 : decode cX0_addFrame 3 = .ok (.getfield 13, 3) := by decide +kernel
theorem dX0_addFrame_6 : decode cX0_addFrame 6 = .ok (.iload_n 1, 1) := by decide +kernel
theorem dX0_addFrame_7 : decode cX0_addFrame 7 = .ok (.iaload, 1) := by decide +kernel
theorem dX0_addFrame_8 : decode cX0_addFrame 8 = .ok (.invokevirtual 71, 3) := by decide +kernel
theorem dX0_addFrame_11 : decode cX0_addFrame 11 = .ok (.istore_n 2, 1) := by decide +kernel
theorem dX0_addFrame_12 : decode cX0_addFrame 12 = .ok (.aload_n 0, 1) := by decide +kernel
theorem dX0_addFrame_13 : decode cX0_addFrame 13 = .ok (.getfield 9, 3) := by decide +kernel
theorem dX0_addFrame_16 : decode cX0_addFrame 16 = .ok (.iload_n 2, 1) := by decide +kernel
theorem dX0_addFrame_17 : decode cX0_addFrame 17 = .ok (.aload_n 0, 1) := by decide +kernel
theorem dX0_addFrame_18 : decode cX0_addFrame 18 = .ok (.getfield 9, 3) := by decide +kernel
theorem dX0_addFrame_21 : decode cX0_addFrame 21 = .ok (.iload_n 2, 1) := by decide +kernel
theorem dX0_addFrame_22 : decode cX0_addFrame 22 = .ok (.bipush 8, 2) := by decide +kernel
theorem dX0_addFrame_24 : decode cX0_addFrame 24 = .ok (.iadd, 1) := by decide +kernel
theorem dX0_addFrame_25 : decode cX0_addFrame 25 = .ok (.aload_n 0, 1) := by decide +kernel
theorem dX0_addFrame_26 : decode cX0_addFrame 26 = .ok (.getfield 22, 3) := by decide +kernel
theorem dX0_addFrame_29 : decode cX0_addFrame 29 = .ok (.iload_n 2, 1) := by decide +kernel
theorem dX0_addFrame_30 : decode cX0_addFrame 30 = .ok (.isub, 1) := by decide +kernel
theorem dX0_addFrame_31 : decode cX0_addFrame 31 = .ok (.invokestatic 109, 3) := by decide +kernel
theorem dX0_addFrame_34 : decode cX0_addFrame 34 = .ok (.aload_n 0, 1) := by decide +kernel
theorem dX0_addFrame_35 : decode cX0_addFrame 35 = .ok (.getfield 9, 3) := by decide +kernel
theorem dX0_addFrame_38 : decode cX0_addFrame 38 = .ok (.iload_n 2, 1) := by decide +kernel
theorem dX0_addFrame_39 : decode cX0_addFrame 39 = .ok (.iload_n 2, 1) := by decide +kernel
theorem dX0_addFrame_40 : decode cX0_addFrame 40 = .ok (.bipush 8, 2) := by decide +kernel
theorem dX0_addFrame_42 : decode cX0_addFrame 42 = .ok (.iadd, 1) := by decide +kernel
theorem dX0_addFrame_43 : decode cX0_addFrame 43 = .ok (.iconst 0, 1) := by decide +kernel
theorem dX0_addFrame_44 : decode cX0_addFrame 44 = .ok (.invokestatic 115, 3) := by decide +kernel
theorem dX0_addFrame_47 : decode cX0_addFrame 47 = .ok (.aload_n 0, 1) := by decide +kernel
theorem dX0_addFrame_48 : decode cX0_addFrame 48 = .ok (.dup, 1) := by decide +kernel
theorem dX0_addFrame_49 : decode cX0_addFrame 49 = .ok (.getfield 22, 3) := by decide +kernel
theorem dX0_addFrame_52 : decode cX0_addFrame 52 = .ok (.bipush 8, 2) := by decide +kernel
theorem dX0_addFrame_54 : decode cX0_addFrame 54 = .ok (.iadd, 1) := by decide +kernel
theorem dX0_addFrame_55 : decode cX0_addFrame 55 = .ok (.putfield 22, 3) := by decide +kernel
theorem dX0_addFrame_58 : decode cX0_addFrame 58 = .ok (.aload_n 0, 1) := by decide +kernel
theorem dX0_addFrame_59 : decode cX0_addFrame 59 = .ok (.getfield 13, 3) := by decide +kernel
theorem dX0_addFrame_62 : decode cX0_addFrame 62 = .ok (.iload_n 1, 1) := by decide +kernel
theorem dX0_addFrame_63 : decode cX0_addFrame 63 = .ok (.dup2, 1) := by decide +kernel
theorem dX0_addFrame_64 : decode cX0_addFrame 64 = .ok (.iaload, 1) := by decide +kernel
theorem dX0_addFrame_65 : decode cX0_addFrame 65 = .ok (.iconst 1, 1) := by decide +kernel
theorem dX0_addFrame_66 : decode cX0_addFrame 66 = .ok (.iadd, 1) := by decide +kernel
theorem dX0_addFrame_67 : decode cX0_addFrame 67 = .ok (.iastore, 1) := by decide +kernel
theorem dX0_addFrame_68 : decode cX0_addFrame 68 = .ok (.return_, 1) := by decide +kernel
theorem dX0_dropFrames_0 : decode cX0_dropFrames 0 = .ok (.aload_n 0, 1) := by decide +kernel
theorem dX0_dropFrames_1 : decode cX0_dropFrames 1 = .ok (.iload_n 1, 1) := by decide +kernel
theorem dX0_dropFrames_2 : decode cX0_dropFrames 2 = .ok (.iload_n 2, 1) := by decide +kernel
theorem dX0_dropFrames_3 : decode cX0_dropFrames 3 = .ok (.invokevirtual 71, 3) := by decide +kernel
theorem dX0_dropFrames_6 : decode cX0_dropFrames 6 = .ok (.istore_n 3, 1) := by decide +kernel
theorem dX0_dropFrames_7 : decode cX0_dropFrames 7 = .ok (.aload_n 0, 1) := by decide +kernel
theorem dX0_dropFrames_8 : decode cX0_dropFrames 8 = .ok (.iload_n 1, 1) := by decide +kernel
theorem dX0_dropFrames_9 : decode cX0_dropFrames 9 = .ok (.aload_n 0, 1) := by decide +kernel
theorem dX0_dropFrames_10 : decode cX0_dropFrames 10 = .ok (.getfield 13, 3) := by decide +kernel
theorem dX0_dropFrames_13 : decode cX0_dropFrames 13 = .ok (.iload_n 1, 1) := by decide +kernel
theorem dX0_dropFrames_14 : decode cX0_dropFrames 14 = .ok (.iaload, 1) := by decide +kernel
theorem dX0_dropFrames_15 : decode cX0_dropFrames 15 = .ok (.invokevirtual 71, 3) := by decide +kernel
theorem dX0_dropFrames_18 : decode cX0_dropFrames 18 = .ok (.istore 4, 2) := by decide +kernel
theorem dX0_dropFrames_20 : decode cX0_dropFrames 20 = .ok (.aload_n 0, 1) := by decide +kernel
theorem dX0_dropFrames_21 : decode cX0_dropFrames 21 = .ok (.getfield 9, 3) := by decide +kernel
theorem dX0_dropFrames_24 : decode cX0_dropFrames 24 = .ok (.iload 4, 2) := by decide +kernel
theorem dX0_dropFrames_26 : decode cX0_dropFrames 26 = .ok (.aload_n 0, 1) := by decide +kernel
theorem dX0_dropFrames_27 : decode cX0_dropFrames 27 = .ok (.getfield 9, 3) := by decide +kernel
theorem dX0_dropFrames_30 : decode cX0_dropFrames 30 = .ok (.iload_n 3, 1) := by decide +kernel
theorem dX0_dropFrames_31 : decode cX0_dropFrames 31 = .ok (.aload_n 0, 1) := by decide +kernel
theorem dX0_dropFrames_32 : decode cX0_dropFrames 32 = .ok (.getfield 22, 3) := by decide +kernel
theorem dX0_dropFrames_35 : decode cX0_dropFrames 35 = .ok (.iload 4, 2) := by decide +kernel
theorem dX0_dropFrames_37 : decode cX0_dropFrames 37 = .ok (.isub, 1) := by decide +kernel
theorem dX0_dropFrames_38 : decode cX0_dropFrames 38 = .ok (.invokestatic 109, 3) := by decide +kernel
theorem dX0_dropFrames_41 : decode cX0_dropFrames 41 = .ok (.aload_n 0, 1) := by decide +kernel
theorem dX0_dropFrames_42 : decode cX0_dropFrames 42 = .ok (.dup, 1) := by decide +kernel
theorem dX0_dropFrames_43 : decode cX0_dropFrames 43 = .ok (.getfield 22, 3) := by decide +kernel
theorem dX0_dropFrames_46 : decode cX0_dropFrames 46 = .ok (.iload 4, 2) := by decide +kernel
theorem dX0_dropFrames_48 : decode cX0_dropFrames 48 = .ok (.iload_n 3, 1) := by decide +kernel
theorem dX0_dropFrames_49 : decode cX0_dropFrames 49 = .ok (.isub, 1) := by decide +kernel
theorem dX0_dropFrames_50 : decode cX0_dropFrames 50 = .ok (.isub, 1) := by decide +kernel
theorem dX0_dropFrames_51 : decode cX0_dropFrames 51 = .ok (.putfield 22, 3) := by decide +kernel
theorem dX0_dropFrames_54 : decode cX0_dropFrames 54 = .ok (.aload_n 0, 1) := by decide +kernel
theorem dX0_dropFrames_55 : decode cX0_dropFrames 55 = .ok (.getfield 13, 3) := by decide +kernel
theorem dX0_dropFrames_58 : decode cX0_dropFrames 58 = .ok (.iload_n 1, 1) := by decide +kernel
theorem dX0_dropFrames_59 : decode cX0_dropFrames 59 = .ok (.iload_n 2, 1) := by decide +kernel
theorem dX0_dropFrames_60 : decode cX0_dropFrames 60 = .ok (.iastore, 1) := by decide +kernel
theorem dX0_dropFrames_61 : decode cX0_dropFrames 61 = .ok (.return_, 1) := by decide +kernel
theorem dX0_countOf_0 : decode cX0_countOf 0 = .ok (.iconst 0, 1) := by decide +kernel
theorem dX0_countOf_1 : decode cX0_countOf 1 = .ok (.istore_n 2, 1) := by decide +kernel
theorem dX0_countOf_2 : decode cX0_countOf 2 = .ok (.iconst 0, 1) := by decide +kernel
theorem dX0_countOf_3 : decode cX0_countOf 3 = .ok (.istore_n 3, 1) := by decide +kernel
theorem dX0_countOf_4 : decode cX0_countOf 4 = .ok (.iload_n 3, 1) := by decide +kernel
theorem dX0_countOf_5 : decode cX0_countOf 5 = .ok (.aload_n 0, 1) := by decide +kernel
theorem dX0_countOf_6 : decode cX0_countOf 6 = .ok (.getfield 22, 3) := by decide +kernel
theorem dX0_countOf_9 : decode cX0_countOf 9 = .ok (.if_icmp .ge 22, 3) := by decide +kernel
theorem dX0_countOf_12 : decode cX0_countOf 12 = .ok (.aload_n 0, 1) := by decide +kernel
theorem dX0_countOf_13 : decode cX0_countOf 13 = .ok (.getfield 9, 3) := by decide +kernel
theorem dX0_countOf_16 : decode cX0_countOf 16 = .ok (.iload_n 3, 1) := by decide +kernel
theorem dX0_countOf_17 : decode cX0_countOf 17 = .ok (.iaload, 1) := by decide +kernel
theorem dX0_countOf_18 : decode cX0_countOf 18 = .ok (.iload_n 1, 1) := by decide +kernel
theorem dX0_countOf_19 : decode cX0_countOf 19 = .ok (.if_icmp .ne 6, 3) := by decide +kernel
theorem dX0_countOf_22 : decode cX0_countOf 22 = .ok (.iinc 2 1, 3) := by decide +kernel
theorem dX0_countOf_25 : decode cX0_countOf 25 = .ok (.iinc 3 1, 3) := by decide +kernel
theorem dX0_countOf_28 : decode cX0_countOf 28 = .ok (.goto (-24), 3) := by decide +kernel
theorem dX0_countOf_31 : decode cX0_countOf 31 = .ok (.iload_n 2, 1) := by decide +kernel
theorem dX0_countOf_32 : decode cX0_countOf 32 = .ok (.ireturn, 1) := by decide +kernel
theorem dX0_replace_0 : decode cX0_replace 0 = .ok (.iconst 0, 1) := by decide +kernel
theorem dX0_replace_1 : decode cX0_replace 1 = .ok (.istore 4, 2) := by decide +kernel
theorem dX0_replace_3 : decode cX0_replace 3 = .ok (.iload_n 1, 1) := by decide +kernel
theorem dX0_replace_4 : decode cX0_replace 4 = .ok (.istore 5, 2) := by decide +kernel
theorem dX0_replace_6 : decode cX0_replace 6 = .ok (.iload 5, 2) := by decide +kernel
theorem dX0_replace_8 : decode cX0_replace 8 = .ok (.aload_n 0, 1) := by decide +kernel
theorem dX0_replace_9 : decode cX0_replace 9 = .ok (.getfield 22, 3) := by decide +kernel
theorem dX0_replace_12 : decode cX0_replace 12 = .ok (.if_icmp .ge 31, 3) := by decide +kernel
theorem dX0_replace_15 : decode cX0_replace 15 = .ok (.aload_n 0, 1) := by decide +kernel
theorem dX0_replace_16 : decode cX0_replace 16 = .ok (.getfield 9, 3) := by decide +kernel
theorem dX0_replace_19 : decode cX0_replace 19 = .ok (.iload 5, 2) := by decide +kernel
theorem dX0_replace_21 : decode cX0_replace 21 = .ok (.iaload, 1) := by decide +kernel
theorem dX0_replace_22 : decode cX0_replace 22 = .ok (.iload_n 2, 1) := by decide +kernel
theorem dX0_replace_23 : decode cX0_replace 23 = .ok (.if_icmp .ne 14, 3) := by decide +kernel
theorem dX0_replace_26 : decode cX0_replace 26 = .ok (.aload_n 0, 1) := by decide +kernel
theorem dX0_replace_27 : decode cX0_replace 27 = .ok (.getfield 9, 3) := by decide +kernel
theorem dX0_replace_30 : decode cX0_replace 30 = .ok (.iload 5, 2) := by decide +kernel
theorem dX0_replace_32 : decode cX0_replace 32 = .ok (.iload_n 3, 1) := by decide +kernel
theorem dX0_replace_33 : decode cX0_replace 33 = .ok (.iastore, 1) := by decide +kernel
theorem dX0_replace_34 : decode cX0_replace 34 = .ok (.iinc 4 1, 3) := by decide +kernel
theorem dX0_replace_37 : decode cX0_replace 37 = .ok (.iinc 5 1, 3) := by decide +kernel
theorem dX0_replace_40 : decode cX0_replace 40 = .ok (.goto (-34), 3) := by decide +kernel
theorem dX0_replace_43 : decode cX0_replace 43 = .ok (.iload 4, 2) := by decide +kernel
theorem dX0_replace_45 : decode cX0_replace 45 = .ok (.ireturn, 1) := by decide +kernel
theorem dX0_framesOfAll_0 : decode cX0_framesOfAll 0 = .ok (.iconst 0, 1) := by decide +kernel
theorem dX0_framesOfAll_1 : decode cX0_framesOfAll 1 = .ok (.istore_n 1, 1) := by decide +kernel
theorem dX0_framesOfAll_2 : decode cX0_framesOfAll 2 = .ok (.iconst 0, 1) := by decide +kernel
theorem dX0_framesOfAll_3 : decode cX0_framesOfAll 3 = .ok (.istore_n 2, 1) := by decide +kernel
theorem dX0_framesOfAll_4 : decode cX0_framesOfAll 4 = .ok (.iload_n 2, 1) := by decide +kernel
theorem dX0_framesOfAll_5 : decode cX0_framesOfAll 5 = .ok (.iconst 4, 1) := by decide +kernel
theorem dX0_framesOfAll_6 : decode cX0_framesOfAll 6 = .ok (.if_icmp .ge 18, 3) := by decide +kernel
theorem dX0_framesOfAll_9 : decode cX0_framesOfAll 9 = .ok (.iload_n 1, 1) := by decide +kernel
theorem dX0_framesOfAll_10 : decode cX0_framesOfAll 10 = .ok (.aload_n 0, 1) := by decide +kernel
theorem dX0_framesOfAll_11 : decode cX0_framesOfAll 11 = .ok (.getfield 13, 3) := by decide +kernel
theorem dX0_framesOfAll_14 : decode cX0_framesOfAll 14 = .ok (.iload_n 2, 1) := by decide +kernel
theorem dX0_framesOfAll_15 : decode cX0_framesOfAll 15 = .ok (.iaload, 1) := by decide +kernel
theorem dX0_framesOfAll_16 : decode cX0_framesOfAll 16 = .ok (.iadd, 1) := by decide +kernel
theorem dX0_framesOfAll_17 : decode cX0_framesOfAll 17 = .ok (.istore_n 1, 1) := by decide +kernel
theorem dX0_framesOfAll_18 : decode cX0_framesOfAll 18 = .ok (.iinc 2 1, 3) := by decide +kernel
theorem dX0_framesOfAll_21 : decode cX0_framesOfAll 21 = .ok (.goto (-17), 3) := by decide +kernel
theorem dX0_framesOfAll_24 : decode cX0_framesOfAll 24 = .ok (.iload_n 1, 1) := by decide +kernel
theorem dX0_framesOfAll_25 : decode cX0_framesOfAll 25 = .ok (.ireturn, 1) := by decide +kernel
theorem dX0_mostFrames_0 : decode cX0_mostFrames 0 = .ok (.iconst 0, 1) := by decide +kernel
theorem dX0_mostFrames_1 : decode cX0_mostFrames 1 = .ok (.istore_n 1, 1) := by decide +kernel
theorem dX0_mostFrames_2 : decode cX0_mostFrames 2 = .ok (.iconst 0, 1) := by decide +kernel
theorem dX0_mostFrames_3 : decode cX0_mostFrames 3 = .ok (.istore_n 2, 1) := by decide +kernel
theorem dX0_mostFrames_4 : decode cX0_mostFrames 4 = .ok (.iload_n 2, 1) := by decide +kernel
theorem dX0_mostFrames_5 : decode cX0_mostFrames 5 = .ok (.iconst 4, 1) := by decide +kernel
theorem dX0_mostFrames_6 : decode cX0_mostFrames 6 = .ok (.if_icmp .ge 20, 3) := by decide +kernel
theorem dX0_mostFrames_9 : decode cX0_mostFrames 9 = .ok (.iload_n 1, 1) := by decide +kernel
theorem dX0_mostFrames_10 : decode cX0_mostFrames 10 = .ok (.aload_n 0, 1) := by decide +kernel
theorem dX0_mostFrames_11 : decode cX0_mostFrames 11 = .ok (.getfield 13, 3) := by decide +kernel
theorem dX0_mostFrames_14 : decode cX0_mostFrames 14 = .ok (.iload_n 2, 1) := by decide +kernel
theorem dX0_mostFrames_15 : decode cX0_mostFrames 15 = .ok (.iaload, 1) := by decide +kernel
theorem dX0_mostFrames_16 : decode cX0_mostFrames 16 = .ok (.invokestatic 118, 3) := by decide +kernel
theorem dX0_mostFrames_19 : decode cX0_mostFrames 19 = .ok (.istore_n 1, 1) := by decide +kernel
theorem dX0_mostFrames_20 : decode cX0_mostFrames 20 = .ok (.iinc 2 1, 3) := by decide +kernel
theorem dX0_mostFrames_23 : decode cX0_mostFrames 23 = .ok (.goto (-19), 3) := by decide +kernel
theorem dX0_mostFrames_26 : decode cX0_mostFrames 26 = .ok (.iload_n 1, 1) := by decide +kernel
theorem dX0_mostFrames_27 : decode cX0_mostFrames 27 = .ok (.ireturn, 1) := by decide +kernel
theorem dX0_differentValues_0 : decode cX0_differentValues 0 = .ok (.iconst 0, 1) := by decide +kernel
theorem dX0_differentValues_1 : decode cX0_differentValues 1 = .ok (.istore_n 1, 1) := by decide +kernel
theorem dX0_differentValues_2 : decode cX0_differentValues 2 = .ok (.iconst 0, 1) := by decide +kernel
theorem dX0_differentValues_3 : decode cX0_differentValues 3 = .ok (.istore_n 2, 1) := by decide +kernel
theorem dX0_differentValues_4 : decode cX0_differentValues 4 = .ok (.iload_n 2, 1) := by decide +kernel
theorem dX0_differentValues_5 : decode cX0_differentValues 5 = .ok (.aload_n 0, 1) := by decide +kernel
theorem dX0_differentValues_6 : decode cX0_differentValues 6 = .ok (.getfield 22, 3) := by decide +kernel
theorem dX0_differentValues_9 : decode cX0_differentValues 9 = .ok (.if_icmp .ge 29, 3) := by decide +kernel
theorem dX0_differentValues_12 : decode cX0_differentValues 12 = .ok (.aload_n 0, 1) := by decide +kernel
theorem dX0_differentValues_13 : decode cX0_differentValues 13 = .ok (.getfield 9, 3) := by decide +kernel
theorem dX0_differentValues_16 : decode cX0_differentValues 16 = .ok (.iload_n 2, 1) := by decide +kernel
theorem dX0_differentValues_17 : decode cX0_differentValues 17 = .ok (.iaload, 1) := by decide +kernel
theorem dX0_differentValues_18 : decode cX0_differentValues 18 = .ok (.ifCond .eq 14, 3) := by decide +kernel
theorem dX0_differentValues_21 : decode cX0_differentValues 21 = .ok (.aload_n 0, 1) := by decide +kernel
theorem dX0_differentValues_22 : decode cX0_differentValues 22 = .ok (.iload_n 2, 1) := by decide +kernel
theorem dX0_differentValues_23 : decode cX0_differentValues 23 = .ok (.invokevirtual 123, 3) := by decide +kernel
theorem dX0_differentValues_26 : decode cX0_differentValues 26 = .ok (.ifCond .eq 6, 3) := by decide +kernel
theorem dX0_differentValues_29 : decode cX0_differentValues 29 = .ok (.iinc 1 1, 3) := by decide +kernel
theorem dX0_differentValues_32 : decode cX0_differentValues 32 = .ok (.iinc 2 1, 3) := by decide +kernel
theorem dX0_differentValues_35 : decode cX0_differentValues 35 = .ok (.goto (-31), 3) := by decide +kernel
theorem dX0_differentValues_38 : decode cX0_differentValues 38 = .ok (.iload_n 1, 1) := by decide +kernel
theorem dX0_differentValues_39 : decode cX0_differentValues 39 = .ok (.ireturn, 1) := by decide +kernel
theorem dX0_isFirstOfItsValue_0 : decode cX0_isFirstOfItsValue 0 = .ok (.iconst 0, 1) := by decide +kernel
theorem dX0_isFirstOfItsValue_1 : decode cX0_isFirstOfItsValue 1 = .ok (.istore_n 2, 1) := by decide +kernel
theorem dX0_isFirstOfItsValue_2 : decode cX0_isFirstOfItsValue 2 = .ok (.iload_n 2, 1) := by decide +kernel
theorem dX0_isFirstOfItsValue_3 : decode cX0_isFirstOfItsValue 3 = .ok (.iload_n 1, 1) := by decide +kernel
theorem dX0_isFirstOfItsValue_4 : decode cX0_isFirstOfItsValue 4 = .ok (.if_icmp .ge 26, 3) := by decide +kernel
theorem dX0_isFirstOfItsValue_7 : decode cX0_isFirstOfItsValue 7 = .ok (.aload_n 0, 1) := by decide +kernel
theorem dX0_isFirstOfItsValue_8 : decode cX0_isFirstOfItsValue 8 = .ok (.getfield 9, 3) := by decide +kernel
theorem dX0_isFirstOfItsValue_11 : decode cX0_isFirstOfItsValue 11 = .ok (.iload_n 2, 1) := by decide +kernel
theorem dX0_isFirstOfItsValue_12 : decode cX0_isFirstOfItsValue 12 = .ok (.iaload, 1) := by decide +kernel
theorem dX0_isFirstOfItsValue_13 : decode cX0_isFirstOfItsValue 13 = .ok (.aload_n 0, 1) := by decide +kernel
theorem dX0_isFirstOfItsValue_14 : decode cX0_isFirstOfItsValue 14 = .ok (.getfield 9, 3) := by decide +kernel
theorem dX0_isFirstOfItsValue_17 : decode cX0_isFirstOfItsValue 17 = .ok (.iload_n 1, 1) := by decide +kernel
theorem dX0_isFirstOfItsValue_18 : decode cX0_isFirstOfItsValue 18 = .ok (.iaload, 1) := by decide +kernel
theorem dX0_isFirstOfItsValue_19 : decode cX0_isFirstOfItsValue 19 = .ok (.if_icmp .ne 5, 3) := by decide +kernel
theorem dX0_isFirstOfItsValue_22 : decode cX0_isFirstOfItsValue 22 = .ok (.iconst 0, 1) := by decide +kernel
theorem dX0_isFirstOfItsValue_23 : decode cX0_isFirstOfItsValue 23 = .ok (.ireturn, 1) := by decide +kernel
theorem dX0_isFirstOfItsValue_24 : decode cX0_isFirstOfItsValue 24 = .ok (.iinc 2 1, 3) := by decide +kernel
theorem dX0_isFirstOfItsValue_27 : decode cX0_isFirstOfItsValue 27 = .ok (.goto (-25), 3) := by decide +kernel
theorem dX0_isFirstOfItsValue_30 : decode cX0_isFirstOfItsValue 30 = .ok (.iconst 1, 1) := by decide +kernel
theorem dX0_isFirstOfItsValue_31 : decode cX0_isFirstOfItsValue 31 = .ok (.ireturn, 1) := by decide +kernel
theorem dJ7_rangeCheck_23922_0 : decode cJ7_rangeCheck_23922 0 = .ok (.iload_n 1, 1) := by decide +kernel
theorem dJ7_rangeCheck_23922_1 : decode cJ7_rangeCheck_23922 1 = .ok (.iload_n 2, 1) := by decide +kernel
theorem dJ7_rangeCheck_23922_2 : decode cJ7_rangeCheck_23922 2 = .ok (.if_icmp .le 44, 3) := by decide +kernel
theorem dJ7_rangeCheck_23922_5 : decode cJ7_rangeCheck_23922 5 = .ok (.new 43, 3) := by decide +kernel
theorem dJ7_rangeCheck_23922_8 : decode cJ7_rangeCheck_23922 8 = .ok (.dup, 1) := by decide +kernel
theorem dJ7_rangeCheck_23922_9 : decode cJ7_rangeCheck_23922 9 = .ok (.new 45, 3) := by decide +kernel
theorem dJ7_rangeCheck_23922_12 : decode cJ7_rangeCheck_23922 12 = .ok (.dup, 1) := by decide +kernel
theorem dJ7_rangeCheck_23922_13 : decode cJ7_rangeCheck_23922 13 = .ok (.invokespecial 47, 3) := by decide +kernel
theorem dJ7_rangeCheck_23922_16 : decode cJ7_rangeCheck_23922 16 = .ok (.ldc 48, 2) := by decide +kernel
theorem dJ7_rangeCheck_23922_18 : decode cJ7_rangeCheck_23922 18 = .ok (.invokevirtual 50, 3) := by decide +kernel
theorem dJ7_rangeCheck_23922_21 : decode cJ7_rangeCheck_23922 21 = .ok (.iload_n 1, 1) := by decide +kernel
theorem dJ7_rangeCheck_23922_22 : decode cJ7_rangeCheck_23922 22 = .ok (.invokevirtual 54, 3) := by decide +kernel
theorem dJ7_rangeCheck_23922_25 : decode cJ7_rangeCheck_23922 25 = .ok (.ldc 57, 2) := by decide +kernel
theorem dJ7_rangeCheck_23922_27 : decode cJ7_rangeCheck_23922 27 = .ok (.invokevirtual 50, 3) := by decide +kernel
theorem dJ7_rangeCheck_23922_30 : decode cJ7_rangeCheck_23922 30 = .ok (.iload_n 2, 1) := by decide +kernel
theorem dJ7_rangeCheck_23922_31 : decode cJ7_rangeCheck_23922 31 = .ok (.invokevirtual 54, 3) := by decide +kernel
theorem dJ7_rangeCheck_23922_34 : decode cJ7_rangeCheck_23922 34 = .ok (.ldc 59, 2) := by decide +kernel
theorem dJ7_rangeCheck_23922_36 : decode cJ7_rangeCheck_23922 36 = .ok (.invokevirtual 50, 3) := by decide +kernel
theorem dJ7_rangeCheck_23922_39 : decode cJ7_rangeCheck_23922 39 = .ok (.invokevirtual 61, 3) := by decide +kernel
theorem dJ7_rangeCheck_23922_42 : decode cJ7_rangeCheck_23922 42 = .ok (.invokespecial 65, 3) := by decide +kernel
theorem dJ7_rangeCheck_23922_45 : decode cJ7_rangeCheck_23922 45 = .ok (.athrow, 1) := by decide +kernel
theorem dJ7_rangeCheck_23922_46 : decode cJ7_rangeCheck_23922 46 = .ok (.iload_n 1, 1) := by decide +kernel
theorem dJ7_rangeCheck_23922_47 : decode cJ7_rangeCheck_23922 47 = .ok (.ifCond .ge 12, 3) := by decide +kernel
theorem dJ7_rangeCheck_23922_50 : decode cJ7_rangeCheck_23922 50 = .ok (.new 68, 3) := by decide +kernel
theorem dJ7_rangeCheck_23922_53 : decode cJ7_rangeCheck_23922 53 = .ok (.dup, 1) := by decide +kernel
theorem dJ7_rangeCheck_23922_54 : decode cJ7_rangeCheck_23922 54 = .ok (.iload_n 1, 1) := by decide +kernel
theorem dJ7_rangeCheck_23922_55 : decode cJ7_rangeCheck_23922 55 = .ok (.invokespecial 70, 3) := by decide +kernel
theorem dJ7_rangeCheck_23922_58 : decode cJ7_rangeCheck_23922 58 = .ok (.athrow, 1) := by decide +kernel
theorem dJ7_rangeCheck_23922_59 : decode cJ7_rangeCheck_23922 59 = .ok (.iload_n 2, 1) := by decide +kernel
theorem dJ7_rangeCheck_23922_60 : decode cJ7_rangeCheck_23922 60 = .ok (.iload_n 0, 1) := by decide +kernel
theorem dJ7_rangeCheck_23922_61 : decode cJ7_rangeCheck_23922 61 = .ok (.if_icmp .le 12, 3) := by decide +kernel
theorem dJ7_rangeCheck_23922_64 : decode cJ7_rangeCheck_23922 64 = .ok (.new 68, 3) := by decide +kernel
theorem dJ7_rangeCheck_23922_67 : decode cJ7_rangeCheck_23922 67 = .ok (.dup, 1) := by decide +kernel
theorem dJ7_rangeCheck_23922_68 : decode cJ7_rangeCheck_23922 68 = .ok (.iload_n 2, 1) := by decide +kernel
theorem dJ7_rangeCheck_23922_69 : decode cJ7_rangeCheck_23922 69 = .ok (.invokespecial 70, 3) := by decide +kernel
theorem dJ7_rangeCheck_23922_72 : decode cJ7_rangeCheck_23922 72 = .ok (.athrow, 1) := by decide +kernel
theorem dJ7_rangeCheck_23922_73 : decode cJ7_rangeCheck_23922 73 = .ok (.return_, 1) := by decide +kernel
theorem dJ7_fill_53178_0 : decode cJ7_fill_53178 0 = .ok (.iconst 0, 1) := by decide +kernel
theorem dJ7_fill_53178_1 : decode cJ7_fill_53178 1 = .ok (.istore_n 2, 1) := by decide +kernel
theorem dJ7_fill_53178_2 : decode cJ7_fill_53178 2 = .ok (.aload_n 0, 1) := by decide +kernel
theorem dJ7_fill_53178_3 : decode cJ7_fill_53178 3 = .ok (.arraylength, 1) := by decide +kernel
theorem dJ7_fill_53178_4 : decode cJ7_fill_53178 4 = .ok (.istore_n 3, 1) := by decide +kernel
theorem dJ7_fill_53178_5 : decode cJ7_fill_53178 5 = .ok (.iload_n 2, 1) := by decide +kernel
theorem dJ7_fill_53178_6 : decode cJ7_fill_53178 6 = .ok (.iload_n 3, 1) := by decide +kernel
theorem dJ7_fill_53178_7 : decode cJ7_fill_53178 7 = .ok (.if_icmp .ge 13, 3) := by decide +kernel
theorem dJ7_fill_53178_10 : decode cJ7_fill_53178 10 = .ok (.aload_n 0, 1) := by decide +kernel
theorem dJ7_fill_53178_11 : decode cJ7_fill_53178 11 = .ok (.iload_n 2, 1) := by decide +kernel
theorem dJ7_fill_53178_12 : decode cJ7_fill_53178 12 = .ok (.iload_n 1, 1) := by decide +kernel
theorem dJ7_fill_53178_13 : decode cJ7_fill_53178 13 = .ok (.iastore, 1) := by decide +kernel
theorem dJ7_fill_53178_14 : decode cJ7_fill_53178 14 = .ok (.iinc 2 1, 3) := by decide +kernel
theorem dJ7_fill_53178_17 : decode cJ7_fill_53178 17 = .ok (.goto (-12), 3) := by decide +kernel
theorem dJ7_fill_53178_20 : decode cJ7_fill_53178 20 = .ok (.return_, 1) := by decide +kernel
theorem dJ7_fill_fda19_0 : decode cJ7_fill_fda19 0 = .ok (.aload_n 0, 1) := by decide +kernel
theorem dJ7_fill_fda19_1 : decode cJ7_fill_fda19 1 = .ok (.arraylength, 1) := by decide +kernel
theorem dJ7_fill_fda19_2 : decode cJ7_fill_fda19 2 = .ok (.iload_n 1, 1) := by decide +kernel
theorem dJ7_fill_fda19_3 : decode cJ7_fill_fda19 3 = .ok (.iload_n 2, 1) := by decide +kernel
theorem dJ7_fill_fda19_4 : decode cJ7_fill_fda19 4 = .ok (.invokestatic 13, 3) := by decide +kernel
theorem dJ7_fill_fda19_7 : decode cJ7_fill_fda19 7 = .ok (.iload_n 1, 1) := by decide +kernel
theorem dJ7_fill_fda19_8 : decode cJ7_fill_fda19 8 = .ok (.istore 4, 2) := by decide +kernel
theorem dJ7_fill_fda19_10 : decode cJ7_fill_fda19 10 = .ok (.iload 4, 2) := by decide +kernel
theorem dJ7_fill_fda19_12 : decode cJ7_fill_fda19 12 = .ok (.iload_n 2, 1) := by decide +kernel
theorem dJ7_fill_fda19_13 : decode cJ7_fill_fda19 13 = .ok (.if_icmp .ge 14, 3) := by decide +kernel
theorem dJ7_fill_fda19_16 : decode cJ7_fill_fda19 16 = .ok (.aload_n 0, 1) := by decide +kernel
theorem dJ7_fill_fda19_17 : decode cJ7_fill_fda19 17 = .ok (.iload 4, 2) := by decide +kernel
theorem dJ7_fill_fda19_19 : decode cJ7_fill_fda19 19 = .ok (.iload_n 3, 1) := by decide +kernel
theorem dJ7_fill_fda19_20 : decode cJ7_fill_fda19 20 = .ok (.iastore, 1) := by decide +kernel
theorem dJ7_fill_fda19_21 : decode cJ7_fill_fda19 21 = .ok (.iinc 4 1, 3) := by decide +kernel
theorem dJ7_fill_fda19_24 : decode cJ7_fill_fda19 24 = .ok (.goto (-14), 3) := by decide +kernel
theorem dJ7_fill_fda19_27 : decode cJ7_fill_fda19 27 = .ok (.return_, 1) := by decide +kernel
theorem dJ9_max_7cf53_0 : decode cJ9_max_7cf53 0 = .ok (.iload_n 0, 1) := by decide +kernel
theorem dJ9_max_7cf53_1 : decode cJ9_max_7cf53 1 = .ok (.iload_n 1, 1) := by decide +kernel
theorem dJ9_max_7cf53_2 : decode cJ9_max_7cf53 2 = .ok (.if_icmp .lt 7, 3) := by decide +kernel
theorem dJ9_max_7cf53_5 : decode cJ9_max_7cf53 5 = .ok (.iload_n 0, 1) := by decide +kernel
theorem dJ9_max_7cf53_6 : decode cJ9_max_7cf53 6 = .ok (.goto 4, 3) := by decide +kernel
theorem dJ9_max_7cf53_9 : decode cJ9_max_7cf53 9 = .ok (.iload_n 1, 1) := by decide +kernel
theorem dJ9_max_7cf53_10 : decode cJ9_max_7cf53 10 = .ok (.ireturn, 1) := by decide +kernel
