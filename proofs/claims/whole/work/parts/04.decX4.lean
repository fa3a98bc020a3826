-- rows of claim/NAMES.whole.lean.txt (starting text): what each instruction is
theorem dX4_init_0 : decode cX4_init 0 = .ok (.aload_n 0, 1) := by decide +kernel
theorem dX4_init_1 : decode cX4_init 1 = .ok (.invokespecial 1, 3) := by decide +kernel
theorem dX4_init_4 : decode cX4_init 4 = .ok (.aload_n 0, 1) := by decide +kernel
theorem dX4_init_5 : decode cX4_init 5 = .ok (.new 7, 3) := by decide +kernel
theorem dX4_init_8 : decode cX4_init 8 = .ok (.dup, 1) := by decide +kernel
theorem dX4_init_9 : decode cX4_init 9 = .ok (.invokespecial 9, 3) := by decide +kernel
theorem dX4_init_12 : decode cX4_init 12 = .ok (.putfield 10, 3) := by decide +kernel
theorem dX4_init_15 : decode cX4_init 15 = .ok (.aload_n 0, 1) := by decide +kernel
theorem dX4_init_16 : decode cX4_init 16 = .ok (.new 16, 3) := by decide +kernel
theorem dX4_init_19 : decode cX4_init 19 = .ok (.dup, 1) := by decide +kernel
theorem dX4_init_20 : decode cX4_init 20 = .ok (.aload_n 0, 1) := by decide +kernel
theorem dX4_init_21 : decode cX4_init 21 = .ok (.getfield 10, 3) := by decide +kernel
theorem dX4_init_24 : decode cX4_init 24 = .ok (.invokespecial 18, 3) := by decide +kernel
theorem dX4_init_27 : decode cX4_init 27 = .ok (.putfield 21, 3) := by decide +kernel
theorem dX4_init_30 : decode cX4_init 30 = .ok (.aload_n 0, 1) := by decide +kernel
theorem dX4_init_31 : decode cX4_init 31 = .ok (.new 25, 3) := by decide +kernel
theorem dX4_init_34 : decode cX4_init 34 = .ok (.dup, 1) := by decide +kernel
theorem dX4_init_35 : decode cX4_init 35 = .ok (.invokespecial 27, 3) := by decide +kernel
theorem dX4_init_38 : decode cX4_init 38 = .ok (.putfield 28, 3) := by decide +kernel
theorem dX4_init_41 : decode cX4_init 41 = .ok (.aload_n 0, 1) := by decide +kernel
theorem dX4_init_42 : decode cX4_init 42 = .ok (.new 32, 3) := by decide +kernel
theorem dX4_init_45 : decode cX4_init 45 = .ok (.dup, 1) := by decide +kernel
theorem dX4_init_46 : decode cX4_init 46 = .ok (.aload_n 0, 1) := by decide +kernel
theorem dX4_init_47 : decode cX4_init 47 = .ok (.getfield 28, 3) := by decide +kernel
theorem dX4_init_50 : decode cX4_init 50 = .ok (.invokespecial 34, 3) := by decide +kernel
theorem dX4_init_53 : decode cX4_init 53 = .ok (.putfield 37, 3) := by decide +kernel
theorem dX4_init_56 : decode cX4_init 56 = .ok (.return_, 1) := by decide +kernel
theorem dX4_begin_0 : decode cX4_begin 0 = .ok (.aload_n 0, 1) := by decide +kernel
theorem dX4_begin_1 : decode cX4_begin 1 = .ok (.invokevirtual 41, 3) := by decide +kernel
theorem dX4_begin_4 : decode cX4_begin 4 = .ok (.aload_n 0, 1) := by decide +kernel
theorem dX4_begin_5 : decode cX4_begin 5 = .ok (.getfield 28, 3) := by decide +kernel
theorem dX4_begin_8 : decode cX4_begin 8 = .ok (.invokevirtual 44, 3) := by decide +kernel
theorem dX4_begin_11 : decode cX4_begin 11 = .ok (.ifCond .eq 13, 3) := by decide +kernel
theorem dX4_begin_14 : decode cX4_begin 14 = .ok (.new 48, 3) := by decide +kernel
theorem dX4_begin_17 : decode cX4_begin 17 = .ok (.dup, 1) := by decide +kernel
theorem dX4_begin_18 : decode cX4_begin 18 = .ok (.ldc 50, 2) := by decide +kernel
theorem dX4_begin_20 : decode cX4_begin 20 = .ok (.invokespecial 52, 3) := by decide +kernel
theorem dX4_begin_23 : decode cX4_begin 23 = .ok (.athrow, 1) := by decide +kernel
theorem dX4_begin_24 : decode cX4_begin 24 = .ok (.aload_n 0, 1) := by decide +kernel
theorem dX4_begin_25 : decode cX4_begin 25 = .ok (.getfield 28, 3) := by decide +kernel
theorem dX4_begin_28 : decode cX4_begin 28 = .ok (.invokevirtual 55, 3) := by decide +kernel
theorem dX4_begin_31 : decode cX4_begin 31 = .ok (.aload_n 0, 1) := by decide +kernel
theorem dX4_begin_32 : decode cX4_begin 32 = .ok (.getfield 21, 3) := by decide +kernel
theorem dX4_begin_35 : decode cX4_begin 35 = .ok (.invokevirtual 58, 3) := by decide +kernel
theorem dX4_begin_38 : decode cX4_begin 38 = .ok (.iconst 1, 1) := by decide +kernel
theorem dX4_begin_39 : decode cX4_begin 39 = .ok (.iadd, 1) := by decide +kernel
theorem dX4_begin_40 : decode cX4_begin 40 = .ok (.ireturn, 1) := by decide +kernel
theorem dX4_take_0 : decode cX4_take 0 = .ok (.aload_n 0, 1) := by decide +kernel
theorem dX4_take_1 : decode cX4_take 1 = .ok (.invokevirtual 62, 3) := by decide +kernel
theorem dX4_take_4 : decode cX4_take 4 = .ok (.iload_n 1, 1) := by decide +kernel
theorem dX4_take_5 : decode cX4_take 5 = .ok (.iconst 1, 1) := by decide +kernel
theorem dX4_take_6 : decode cX4_take 6 = .ok (.if_icmp .lt 10, 3) := by decide +kernel
theorem dX4_take_9 : decode cX4_take 9 = .ok (.iload_n 1, 1) := by decide +kernel
theorem dX4_take_10 : decode cX4_take 10 = .ok (.sipush 847, 3) := by decide +kernel
theorem dX4_take_13 : decode cX4_take 13 = .ok (.if_icmp .le 13, 3) := by decide +kernel
theorem dX4_take_16 : decode cX4_take 16 = .ok (.new 65, 3) := by decide +kernel
theorem dX4_take_19 : decode cX4_take 19 = .ok (.dup, 1) := by decide +kernel
theorem dX4_take_20 : decode cX4_take 20 = .ok (.ldc 67, 2) := by decide +kernel
theorem dX4_take_22 : decode cX4_take 22 = .ok (.invokespecial 69, 3) := by decide +kernel
theorem dX4_take_25 : decode cX4_take 25 = .ok (.athrow, 1) := by decide +kernel
theorem dX4_take_26 : decode cX4_take 26 = .ok (.aload_n 0, 1) := by decide +kernel
theorem dX4_take_27 : decode cX4_take 27 = .ok (.getfield 37, 3) := by decide +kernel
theorem dX4_take_30 : decode cX4_take 30 = .ok (.iload_n 1, 1) := by decide +kernel
theorem dX4_take_31 : decode cX4_take 31 = .ok (.invokevirtual 70, 3) := by decide +kernel
theorem dX4_take_34 : decode cX4_take 34 = .ok (.ireturn, 1) := by decide +kernel
theorem dX4_give_0 : decode cX4_give 0 = .ok (.aload_n 0, 1) := by decide +kernel
theorem dX4_give_1 : decode cX4_give 1 = .ok (.invokevirtual 62, 3) := by decide +kernel
theorem dX4_give_4 : decode cX4_give 4 = .ok (.aload_n 0, 1) := by decide +kernel
theorem dX4_give_5 : decode cX4_give 5 = .ok (.iload_n 1, 1) := by decide +kernel
theorem dX4_give_6 : decode cX4_give 6 = .ok (.invokevirtual 74, 3) := by decide +kernel
theorem dX4_give_9 : decode cX4_give 9 = .ok (.aload_n 0, 1) := by decide +kernel
theorem dX4_give_10 : decode cX4_give 10 = .ok (.getfield 37, 3) := by decide +kernel
theorem dX4_give_13 : decode cX4_give 13 = .ok (.iload_n 1, 1) := by decide +kernel
theorem dX4_give_14 : decode cX4_give 14 = .ok (.iconst 1, 1) := by decide +kernel
theorem dX4_give_15 : decode cX4_give 15 = .ok (.isub, 1) := by decide +kernel
theorem dX4_give_16 : decode cX4_give 16 = .ok (.invokevirtual 78, 3) := by decide +kernel
theorem dX4_give_19 : decode cX4_give 19 = .ok (.ireturn, 1) := by decide +kernel
theorem dX4_set_0 : decode cX4_set 0 = .ok (.aload_n 0, 1) := by decide +kernel
theorem dX4_set_1 : decode cX4_set 1 = .ok (.invokevirtual 62, 3) := by decide +kernel
theorem dX4_set_4 : decode cX4_set 4 = .ok (.aload_n 0, 1) := by decide +kernel
theorem dX4_set_5 : decode cX4_set 5 = .ok (.iload_n 1, 1) := by decide +kernel
theorem dX4_set_6 : decode cX4_set 6 = .ok (.iload_n 2, 1) := by decide +kernel
theorem dX4_set_7 : decode cX4_set 7 = .ok (.invokevirtual 81, 3) := by decide +kernel
theorem dX4_set_10 : decode cX4_set 10 = .ok (.aload_n 0, 1) := by decide +kernel
theorem dX4_set_11 : decode cX4_set 11 = .ok (.getfield 28, 3) := by decide +kernel
theorem dX4_set_14 : decode cX4_set 14 = .ok (.iload_n 1, 1) := by decide +kernel
theorem dX4_set_15 : decode cX4_set 15 = .ok (.iload_n 2, 1) := by decide +kernel
theorem dX4_set_16 : decode cX4_set 16 = .ok (.iadd, 1) := by decide +kernel
theorem dX4_set_17 : decode cX4_set 17 = .ok (.lload_n 3, 1) := by decide +kernel
theorem dX4_set_18 : decode cX4_set 18 = .ok (.invokevirtual 85, 3) := by decide +kernel
theorem dX4_set_21 : decode cX4_set 21 = .ok (.ireturn, 1) := by decide +kernel
theorem dX4_get_0 : decode cX4_get 0 = .ok (.aload_n 0, 1) := by decide +kernel
theorem dX4_get_1 : decode cX4_get 1 = .ok (.invokevirtual 41, 3) := by decide +kernel
theorem dX4_get_4 : decode cX4_get 4 = .ok (.aload_n 0, 1) := by decide +kernel
theorem dX4_get_5 : decode cX4_get 5 = .ok (.iload_n 1, 1) := by decide +kernel
theorem dX4_get_6 : decode cX4_get 6 = .ok (.iload_n 2, 1) := by decide +kernel
theorem dX4_get_7 : decode cX4_get 7 = .ok (.invokevirtual 81, 3) := by decide +kernel
theorem dX4_get_10 : decode cX4_get 10 = .ok (.aload_n 0, 1) := by decide +kernel
theorem dX4_get_11 : decode cX4_get 11 = .ok (.getfield 28, 3) := by decide +kernel
theorem dX4_get_14 : decode cX4_get 14 = .ok (.iload_n 1, 1) := by decide +kernel
theorem dX4_get_15 : decode cX4_get 15 = .ok (.iload_n 2, 1) := by decide +kernel
theorem dX4_get_16 : decode cX4_get 16 = .ok (.iadd, 1) := by decide +kernel
theorem dX4_get_17 : decode cX4_get 17 = .ok (.invokevirtual 89, 3) := by decide +kernel
theorem dX4_get_20 : decode cX4_get 20 = .ok (.lreturn, 1) := by decide +kernel
theorem dX4_setRoot_0 : decode cX4_setRoot 0 = .ok (.aload_n 0, 1) := by decide +kernel
theorem dX4_setRoot_1 : decode cX4_setRoot 1 = .ok (.invokevirtual 62, 3) := by decide +kernel
theorem dX4_setRoot_4 : decode cX4_setRoot 4 = .ok (.iload_n 1, 1) := by decide +kernel
theorem dX4_setRoot_5 : decode cX4_setRoot 5 = .ok (.ifCond .eq 8, 3) := by decide +kernel
theorem dX4_setRoot_8 : decode cX4_setRoot 8 = .ok (.aload_n 0, 1) := by decide +kernel
theorem dX4_setRoot_9 : decode cX4_setRoot 9 = .ok (.iload_n 1, 1) := by decide +kernel
theorem dX4_setRoot_10 : decode cX4_setRoot 10 = .ok (.invokevirtual 74, 3) := by decide +kernel
theorem dX4_setRoot_13 : decode cX4_setRoot 13 = .ok (.aload_n 0, 1) := by decide +kernel
theorem dX4_setRoot_14 : decode cX4_setRoot 14 = .ok (.getfield 28, 3) := by decide +kernel
theorem dX4_setRoot_17 : decode cX4_setRoot 17 = .ok (.iconst 1, 1) := by decide +kernel
theorem dX4_setRoot_18 : decode cX4_setRoot 18 = .ok (.iload_n 1, 1) := by decide +kernel
theorem dX4_setRoot_19 : decode cX4_setRoot 19 = .ok (.i2l, 1) := by decide +kernel
theorem dX4_setRoot_20 : decode cX4_setRoot 20 = .ok (.invokevirtual 85, 3) := by decide +kernel
theorem dX4_setRoot_23 : decode cX4_setRoot 23 = .ok (.ireturn, 1) := by decide +kernel
theorem dX4_root_0 : decode cX4_root 0 = .ok (.aload_n 0, 1) := by decide +kernel
theorem dX4_root_1 : decode cX4_root 1 = .ok (.invokevirtual 41, 3) := by decide +kernel
theorem dX4_root_4 : decode cX4_root 4 = .ok (.aload_n 0, 1) := by decide +kernel
theorem dX4_root_5 : decode cX4_root 5 = .ok (.getfield 28, 3) := by decide +kernel
theorem dX4_root_8 : decode cX4_root 8 = .ok (.iconst 1, 1) := by decide +kernel
theorem dX4_root_9 : decode cX4_root 9 = .ok (.invokevirtual 89, 3) := by decide +kernel
theorem dX4_root_12 : decode cX4_root 12 = .ok (.l2i, 1) := by decide +kernel
theorem dX4_root_13 : decode cX4_root 13 = .ok (.ireturn, 1) := by decide +kernel
theorem dX4_commit_0 : decode cX4_commit 0 = .ok (.aload_n 0, 1) := by decide +kernel
theorem dX4_commit_1 : decode cX4_commit 1 = .ok (.invokevirtual 62, 3) := by decide +kernel
theorem dX4_commit_4 : decode cX4_commit 4 = .ok (.aload_n 0, 1) := by decide +kernel
theorem dX4_commit_5 : decode cX4_commit 5 = .ok (.getfield 28, 3) := by decide +kernel
theorem dX4_commit_8 : decode cX4_commit 8 = .ok (.invokevirtual 93, 3) := by decide +kernel
theorem dX4_commit_11 : decode cX4_commit 11 = .ok (.ifCond .ne 18, 3) := by decide +kernel
theorem dX4_commit_14 : decode cX4_commit 14 = .ok (.aload_n 0, 1) := by decide +kernel
theorem dX4_commit_15 : decode cX4_commit 15 = .ok (.getfield 28, 3) := by decide +kernel
theorem dX4_commit_18 : decode cX4_commit 18 = .ok (.invokevirtual 96, 3) := by decide +kernel
theorem dX4_commit_21 : decode cX4_commit 21 = .ok (.aload_n 0, 1) := by decide +kernel
theorem dX4_commit_22 : decode cX4_commit 22 = .ok (.getfield 21, 3) := by decide +kernel
theorem dX4_commit_25 : decode cX4_commit 25 = .ok (.invokevirtual 58, 3) := by decide +kernel
theorem dX4_commit_28 : decode cX4_commit 28 = .ok (.ireturn, 1) := by decide +kernel
theorem dX4_commit_29 : decode cX4_commit 29 = .ok (.aload_n 0, 1) := by decide +kernel
theorem dX4_commit_30 : decode cX4_commit 30 = .ok (.getfield 21, 3) := by decide +kernel
theorem dX4_commit_33 : decode cX4_commit 33 = .ok (.aload_n 0, 1) := by decide +kernel
theorem dX4_commit_34 : decode cX4_commit 34 = .ok (.getfield 28, 3) := by decide +kernel
theorem dX4_commit_37 : decode cX4_commit 37 = .ok (.invokevirtual 93, 3) := by decide +kernel
theorem dX4_commit_40 : decode cX4_commit 40 = .ok (.invokevirtual 99, 3) := by decide +kernel
theorem dX4_commit_43 : decode cX4_commit 43 = .ok (.ifCond .ne 20, 3) := by decide +kernel
theorem dX4_commit_46 : decode cX4_commit 46 = .ok (.aload_n 0, 1) := by decide +kernel
theorem dX4_commit_47 : decode cX4_commit 47 = .ok (.getfield 21, 3) := by decide +kernel
theorem dX4_commit_50 : decode cX4_commit 50 = .ok (.aload_n 0, 1) := by decide +kernel
theorem dX4_commit_51 : decode cX4_commit 51 = .ok (.getfield 21, 3) := by decide +kernel
theorem dX4_commit_54 : decode cX4_commit 54 = .ok (.invokevirtual 103, 3) := by decide +kernel
theorem dX4_commit_57 : decode cX4_commit 57 = .ok (.invokevirtual 106, 3) := by decide +kernel
theorem dX4_commit_60 : decode cX4_commit 60 = .ok (.ifCond .eq 7, 3) := by decide +kernel
theorem dX4_commit_63 : decode cX4_commit 63 = .ok (.iconst 1, 1) := by decide +kernel
theorem dX4_commit_64 : decode cX4_commit 64 = .ok (.goto 4, 3) := by decide +kernel
theorem dX4_commit_67 : decode cX4_commit 67 = .ok (.iconst 0, 1) := by decide +kernel
theorem dX4_commit_68 : decode cX4_commit 68 = .ok (.istore_n 2, 1) := by decide +kernel
theorem dX4_commit_69 : decode cX4_commit 69 = .ok (.iload_n 2, 1) := by decide +kernel
theorem dX4_commit_70 : decode cX4_commit 70 = .ok (.ifCond .eq 22, 3) := by decide +kernel
theorem dX4_commit_73 : decode cX4_commit 73 = .ok (.aload_n 0, 1) := by decide +kernel
theorem dX4_commit_74 : decode cX4_commit 74 = .ok (.getfield 21, 3) := by decide +kernel
theorem dX4_commit_77 : decode cX4_commit 77 = .ok (.aload_n 0, 1) := by decide +kernel
theorem dX4_commit_78 : decode cX4_commit 78 = .ok (.getfield 28, 3) := by decide +kernel
theorem dX4_commit_81 : decode cX4_commit 81 = .ok (.invokevirtual 93, 3) := by decide +kernel
theorem dX4_commit_84 : decode cX4_commit 84 = .ok (.invokevirtual 99, 3) := by decide +kernel
theorem dX4_commit_87 : decode cX4_commit 87 = .ok (.ifCond .ne 5, 3) := by decide +kernel
theorem dX4_commit_90 : decode cX4_commit 90 = .ok (.iconst (-1), 1) := by decide +kernel
theorem dX4_commit_91 : decode cX4_commit 91 = .ok (.ireturn, 1) := by decide +kernel
theorem dX4_commit_92 : decode cX4_commit 92 = .ok (.iload_n 2, 1) := by decide +kernel
theorem dX4_commit_93 : decode cX4_commit 93 = .ok (.ifCond .eq 18, 3) := by decide +kernel
theorem dX4_commit_96 : decode cX4_commit 96 = .ok (.aload_n 0, 1) := by decide +kernel
theorem dX4_commit_97 : decode cX4_commit 97 = .ok (.getfield 21, 3) := by decide +kernel
theorem dX4_commit_100 : decode cX4_commit 100 = .ok (.aload_n 0, 1) := by decide +kernel
theorem dX4_commit_101 : decode cX4_commit 101 = .ok (.getfield 28, 3) := by decide +kernel
theorem dX4_commit_104 : decode cX4_commit 104 = .ok (.iload_n 1, 1) := by decide +kernel
theorem dX4_commit_105 : decode cX4_commit 105 = .ok (.invokevirtual 109, 3) := by decide +kernel
theorem dX4_commit_108 : decode cX4_commit 108 = .ok (.ifCond .ne 13, 3) := by decide +kernel
theorem dX4_commit_111 : decode cX4_commit 111 = .ok (.aload_n 0, 1) := by decide +kernel
theorem dX4_commit_112 : decode cX4_commit 112 = .ok (.getfield 28, 3) := by decide +kernel
theorem dX4_commit_115 : decode cX4_commit 115 = .ok (.invokevirtual 113, 3) := by decide +kernel
theorem dX4_commit_118 : decode cX4_commit 118 = .ok (.bipush (-2), 2) := by decide +kernel
theorem dX4_commit_120 : decode cX4_commit 120 = .ok (.ireturn, 1) := by decide +kernel
theorem dX4_commit_121 : decode cX4_commit 121 = .ok (.aload_n 0, 1) := by decide +kernel
theorem dX4_commit_122 : decode cX4_commit 122 = .ok (.getfield 28, 3) := by decide +kernel
theorem dX4_commit_125 : decode cX4_commit 125 = .ok (.invokevirtual 96, 3) := by decide +kernel
theorem dX4_commit_128 : decode cX4_commit 128 = .ok (.aload_n 0, 1) := by decide +kernel
theorem dX4_commit_129 : decode cX4_commit 129 = .ok (.getfield 21, 3) := by decide +kernel
theorem dX4_commit_132 : decode cX4_commit 132 = .ok (.invokevirtual 58, 3) := by decide +kernel
theorem dX4_commit_135 : decode cX4_commit 135 = .ok (.ireturn, 1) := by decide +kernel
theorem dX4_sync_0 : decode cX4_sync 0 = .ok (.aload_n 0, 1) := by decide +kernel
theorem dX4_sync_1 : decode cX4_sync 1 = .ok (.invokevirtual 41, 3) := by decide +kernel
theorem dX4_sync_4 : decode cX4_sync 4 = .ok (.aload_n 0, 1) := by decide +kernel
theorem dX4_sync_5 : decode cX4_sync 5 = .ok (.getfield 10, 3) := by decide +kernel
theorem dX4_sync_8 : decode cX4_sync 8 = .ok (.invokevirtual 116, 3) := by decide +kernel
theorem dX4_sync_11 : decode cX4_sync 11 = .ok (.istore_n 1, 1) := by decide +kernel
theorem dX4_sync_12 : decode cX4_sync 12 = .ok (.aload_n 0, 1) := by decide +kernel
theorem dX4_sync_13 : decode cX4_sync 13 = .ok (.getfield 10, 3) := by decide +kernel
theorem dX4_sync_16 : decode cX4_sync 16 = .ok (.invokevirtual 119, 3) := by decide +kernel
theorem dX4_sync_19 : decode cX4_sync 19 = .ok (.iload_n 1, 1) := by decide +kernel
theorem dX4_sync_20 : decode cX4_sync 20 = .ok (.ireturn, 1) := by decide +kernel
theorem dX4_abort_0 : decode cX4_abort 0 = .ok (.aload_n 0, 1) := by decide +kernel
theorem dX4_abort_1 : decode cX4_abort 1 = .ok (.invokevirtual 62, 3) := by decide +kernel
theorem dX4_abort_4 : decode cX4_abort 4 = .ok (.aload_n 0, 1) := by decide +kernel
theorem dX4_abort_5 : decode cX4_abort 5 = .ok (.getfield 28, 3) := by decide +kernel
theorem dX4_abort_8 : decode cX4_abort 8 = .ok (.invokevirtual 93, 3) := by decide +kernel
theorem dX4_abort_11 : decode cX4_abort 11 = .ok (.istore_n 1, 1) := by decide +kernel
theorem dX4_abort_12 : decode cX4_abort 12 = .ok (.aload_n 0, 1) := by decide +kernel
theorem dX4_abort_13 : decode cX4_abort 13 = .ok (.getfield 28, 3) := by decide +kernel
theorem dX4_abort_16 : decode cX4_abort 16 = .ok (.invokevirtual 122, 3) := by decide +kernel
theorem dX4_abort_19 : decode cX4_abort 19 = .ok (.iload_n 1, 1) := by decide +kernel
theorem dX4_abort_20 : decode cX4_abort 20 = .ok (.ireturn, 1) := by decide +kernel
theorem dX4_checkpoint_0 : decode cX4_checkpoint 0 = .ok (.aload_n 0, 1) := by decide +kernel
theorem dX4_checkpoint_1 : decode cX4_checkpoint 1 = .ok (.invokevirtual 41, 3) := by decide +kernel
theorem dX4_checkpoint_4 : decode cX4_checkpoint 4 = .ok (.aload_n 0, 1) := by decide +kernel
theorem dX4_checkpoint_5 : decode cX4_checkpoint 5 = .ok (.getfield 28, 3) := by decide +kernel
theorem dX4_checkpoint_8 : decode cX4_checkpoint 8 = .ok (.invokevirtual 44, 3) := by decide +kernel
theorem dX4_checkpoint_11 : decode cX4_checkpoint 11 = .ok (.ifCond .eq 13, 3) := by decide +kernel
theorem dX4_checkpoint_14 : decode cX4_checkpoint 14 = .ok (.new 48, 3) := by decide +kernel
theorem dX4_checkpoint_17 : decode cX4_checkpoint 17 = .ok (.dup, 1) := by decide +kernel
theorem dX4_checkpoint_18 : decode cX4_checkpoint 18 = .ok (.ldc 50, 2) := by decide +kernel
theorem dX4_checkpoint_20 : decode cX4_checkpoint 20 = .ok (.invokespecial 52, 3) := by decide +kernel
theorem dX4_checkpoint_23 : decode cX4_checkpoint 23 = .ok (.athrow, 1) := by decide +kernel
theorem dX4_checkpoint_24 : decode cX4_checkpoint 24 = .ok (.aload_n 0, 1) := by decide +kernel
theorem dX4_checkpoint_25 : decode cX4_checkpoint 25 = .ok (.getfield 21, 3) := by decide +kernel
theorem dX4_checkpoint_28 : decode cX4_checkpoint 28 = .ok (.invokevirtual 125, 3) := by decide +kernel
theorem dX4_checkpoint_31 : decode cX4_checkpoint 31 = .ok (.istore_n 1, 1) := by decide +kernel
theorem dX4_checkpoint_32 : decode cX4_checkpoint 32 = .ok (.aload_n 0, 1) := by decide +kernel
theorem dX4_checkpoint_33 : decode cX4_checkpoint 33 = .ok (.getfield 21, 3) := by decide +kernel
theorem dX4_checkpoint_36 : decode cX4_checkpoint 36 = .ok (.aload_n 0, 1) := by decide +kernel
theorem dX4_checkpoint_37 : decode cX4_checkpoint 37 = .ok (.getfield 21, 3) := by decide +kernel
theorem dX4_checkpoint_40 : decode cX4_checkpoint 40 = .ok (.invokevirtual 103, 3) := by decide +kernel
theorem dX4_checkpoint_43 : decode cX4_checkpoint 43 = .ok (.invokevirtual 106, 3) := by decide +kernel
theorem dX4_checkpoint_46 : decode cX4_checkpoint 46 = .ok (.ifCond .eq 7, 3) := by decide +kernel
theorem dX4_checkpoint_49 : decode cX4_checkpoint 49 = .ok (.iload_n 1, 1) := by decide +kernel
theorem dX4_checkpoint_50 : decode cX4_checkpoint 50 = .ok (.goto 5, 3) := by decide +kernel
theorem dX4_checkpoint_53 : decode cX4_checkpoint 53 = .ok (.bipush (-2), 2) := by decide +kernel
theorem dX4_checkpoint_55 : decode cX4_checkpoint 55 = .ok (.ireturn, 1) := by decide +kernel
theorem dX4_power_0 : decode cX4_power 0 = .ok (.iload_n 1, 1) := by decide +kernel
theorem dX4_power_1 : decode cX4_power 1 = .ok (.ifCond .lt 21, 3) := by decide +kernel
theorem dX4_power_4 : decode cX4_power 4 = .ok (.iload_n 1, 1) := by decide +kernel
theorem dX4_power_5 : decode cX4_power 5 = .ok (.sipush 5000, 3) := by decide +kernel
theorem dX4_power_8 : decode cX4_power 8 = .ok (.if_icmp .gt 14, 3) := by decide +kernel
theorem dX4_power_11 : decode cX4_power 11 = .ok (.iload_n 2, 1) := by decide +kernel
theorem dX4_power_12 : decode cX4_power 12 = .ok (.ifCond .lt 10, 3) := by decide +kernel
theorem dX4_power_15 : decode cX4_power 15 = .ok (.iload_n 2, 1) := by decide +kernel
theorem dX4_power_16 : decode cX4_power 16 = .ok (.sipush 5000, 3) := by decide +kernel
theorem dX4_power_19 : decode cX4_power 19 = .ok (.if_icmp .le 13, 3) := by decide +kernel
theorem dX4_power_22 : decode cX4_power 22 = .ok (.new 65, 3) := by decide +kernel
theorem dX4_power_25 : decode cX4_power 25 = .ok (.dup, 1) := by decide +kernel
theorem dX4_power_26 : decode cX4_power 26 = .ok (.ldc 128, 2) := by decide +kernel
theorem dX4_power_28 : decode cX4_power 28 = .ok (.invokespecial 69, 3) := by decide +kernel
theorem dX4_power_31 : decode cX4_power 31 = .ok (.athrow, 1) := by decide +kernel
theorem dX4_power_32 : decode cX4_power 32 = .ok (.aload_n 0, 1) := by decide +kernel
theorem dX4_power_33 : decode cX4_power 33 = .ok (.getfield 10, 3) := by decide +kernel
theorem dX4_power_36 : decode cX4_power 36 = .ok (.iload_n 1, 1) := by decide +kernel
theorem dX4_power_37 : decode cX4_power 37 = .ok (.iload_n 2, 1) := by decide +kernel
theorem dX4_power_38 : decode cX4_power 38 = .ok (.invokevirtual 130, 3) := by decide +kernel
theorem dX4_power_41 : decode cX4_power 41 = .ok (.ireturn, 1) := by decide +kernel
theorem dX4_cut_0 : decode cX4_cut 0 = .ok (.aload_n 0, 1) := by decide +kernel
theorem dX4_cut_1 : decode cX4_cut 1 = .ok (.invokevirtual 41, 3) := by decide +kernel
theorem dX4_cut_4 : decode cX4_cut 4 = .ok (.iload_n 1, 1) := by decide +kernel
theorem dX4_cut_5 : decode cX4_cut 5 = .ok (.ifCond .ge 13, 3) := by decide +kernel
theorem dX4_cut_8 : decode cX4_cut 8 = .ok (.new 65, 3) := by decide +kernel
theorem dX4_cut_11 : decode cX4_cut 11 = .ok (.dup, 1) := by decide +kernel
theorem dX4_cut_12 : decode cX4_cut 12 = .ok (.ldc 134, 2) := by decide +kernel
theorem dX4_cut_14 : decode cX4_cut 14 = .ok (.invokespecial 69, 3) := by decide +kernel
theorem dX4_cut_17 : decode cX4_cut 17 = .ok (.athrow, 1) := by decide +kernel
theorem dX4_cut_18 : decode cX4_cut 18 = .ok (.aload_n 0, 1) := by decide +kernel
theorem dX4_cut_19 : decode cX4_cut 19 = .ok (.getfield 10, 3) := by decide +kernel
theorem dX4_cut_22 : decode cX4_cut 22 = .ok (.invokevirtual 116, 3) := by decide +kernel
theorem dX4_cut_25 : decode cX4_cut 25 = .ok (.istore_n 2, 1) := by decide +kernel
theorem dX4_cut_26 : decode cX4_cut 26 = .ok (.aload_n 0, 1) := by decide +kernel
theorem dX4_cut_27 : decode cX4_cut 27 = .ok (.getfield 10, 3) := by decide +kernel
theorem dX4_cut_30 : decode cX4_cut 30 = .ok (.iload_n 1, 1) := by decide +kernel
theorem dX4_cut_31 : decode cX4_cut 31 = .ok (.invokevirtual 136, 3) := by decide +kernel
theorem dX4_cut_34 : decode cX4_cut 34 = .ok (.aload_n 0, 1) := by decide +kernel
theorem dX4_cut_35 : decode cX4_cut 35 = .ok (.getfield 28, 3) := by decide +kernel
theorem dX4_cut_38 : decode cX4_cut 38 = .ok (.invokevirtual 113, 3) := by decide +kernel
theorem dX4_cut_41 : decode cX4_cut 41 = .ok (.iload_n 2, 1) := by decide +kernel
theorem dX4_cut_42 : decode cX4_cut 42 = .ok (.ireturn, 1) := by decide +kernel
theorem dX4_open_0 : decode cX4_open 0 = .ok (.aload_n 0, 1) := by decide +kernel
theorem dX4_open_1 : decode cX4_open 1 = .ok (.getfield 10, 3) := by decide +kernel
theorem dX4_open_4 : decode cX4_open 4 = .ok (.invokevirtual 139, 3) := by decide +kernel
theorem dX4_open_7 : decode cX4_open 7 = .ok (.ifCond .eq 13, 3) := by decide +kernel
theorem dX4_open_10 : decode cX4_open 10 = .ok (.new 48, 3) := by decide +kernel
theorem dX4_open_13 : decode cX4_open 13 = .ok (.dup, 1) := by decide +kernel
theorem dX4_open_14 : decode cX4_open 14 = .ok (.ldc 142, 2) := by decide +kernel
theorem dX4_open_16 : decode cX4_open 16 = .ok (.invokespecial 52, 3) := by decide +kernel
theorem dX4_open_19 : decode cX4_open 19 = .ok (.athrow, 1) := by decide +kernel
theorem dX4_open_20 : decode cX4_open 20 = .ok (.aload_n 0, 1) := by decide +kernel
theorem dX4_open_21 : decode cX4_open 21 = .ok (.getfield 10, 3) := by decide +kernel
theorem dX4_open_24 : decode cX4_open 24 = .ok (.invokevirtual 144, 3) := by decide +kernel
theorem dX4_open_27 : decode cX4_open 27 = .ok (.iconst 0, 1) := by decide +kernel
theorem dX4_open_28 : decode cX4_open 28 = .ok (.istore_n 1, 1) := by decide +kernel
theorem dX4_open_29 : decode cX4_open 29 = .ok (.aload_n 0, 1) := by decide +kernel
theorem dX4_open_30 : decode cX4_open 30 = .ok (.getfield 10, 3) := by decide +kernel
theorem dX4_open_33 : decode cX4_open 33 = .ok (.iconst 0, 1) := by decide +kernel
theorem dX4_open_34 : decode cX4_open 34 = .ok (.invokevirtual 147, 3) := by decide +kernel
theorem dX4_open_37 : decode cX4_open 37 = .ok (.lconst 0, 1) := by decide +kernel
theorem dX4_open_38 : decode cX4_open 38 = .ok (.lcmp, 1) := by decide +kernel
theorem dX4_open_39 : decode cX4_open 39 = .ok (.ifCond .ne 10, 3) := by decide +kernel
theorem dX4_open_42 : decode cX4_open 42 = .ok (.aload_n 0, 1) := by decide +kernel
theorem dX4_open_43 : decode cX4_open 43 = .ok (.invokevirtual 148, 3) := by decide +kernel
theorem dX4_open_46 : decode cX4_open 46 = .ok (.goto 26, 3) := by decide +kernel
theorem dX4_open_49 : decode cX4_open 49 = .ok (.aload_n 0, 1) := by decide +kernel
theorem dX4_open_50 : decode cX4_open 50 = .ok (.getfield 21, 3) := by decide +kernel
theorem dX4_open_53 : decode cX4_open 53 = .ok (.invokevirtual 151, 3) := by decide +kernel
theorem dX4_open_56 : decode cX4_open 56 = .ok (.istore_n 1, 1) := by decide +kernel
theorem dX4_open_57 : decode cX4_open 57 = .ok (.aload_n 0, 1) := by decide +kernel
theorem dX4_open_58 : decode cX4_open 58 = .ok (.getfield 21, 3) := by decide +kernel
theorem dX4_open_61 : decode cX4_open 61 = .ok (.aload_n 0, 1) := by decide +kernel
theorem dX4_open_62 : decode cX4_open 62 = .ok (.getfield 21, 3) := by decide +kernel
theorem dX4_open_65 : decode cX4_open 65 = .ok (.invokevirtual 154, 3) := by decide +kernel
theorem dX4_open_68 : decode cX4_open 68 = .ok (.invokevirtual 106, 3) := by decide +kernel
theorem dX4_open_71 : decode cX4_open 71 = .ok (.pop, 1) := by decide +kernel
theorem dX4_open_72 : decode cX4_open 72 = .ok (.aload_n 0, 1) := by decide +kernel
theorem dX4_open_73 : decode cX4_open 73 = .ok (.getfield 10, 3) := by decide +kernel
theorem dX4_open_76 : decode cX4_open 76 = .ok (.invokevirtual 139, 3) := by decide +kernel
theorem dX4_open_79 : decode cX4_open 79 = .ok (.ifCond .ne 6, 3) := by decide +kernel
theorem dX4_open_82 : decode cX4_open 82 = .ok (.bipush (-2), 2) := by decide +kernel
theorem dX4_open_84 : decode cX4_open 84 = .ok (.ireturn, 1) := by decide +kernel
theorem dX4_open_85 : decode cX4_open 85 = .ok (.aload_n 0, 1) := by decide +kernel
theorem dX4_open_86 : decode cX4_open 86 = .ok (.getfield 28, 3) := by decide +kernel
theorem dX4_open_89 : decode cX4_open 89 = .ok (.aload_n 0, 1) := by decide +kernel
theorem dX4_open_90 : decode cX4_open 90 = .ok (.getfield 10, 3) := by decide +kernel
theorem dX4_open_93 : decode cX4_open 93 = .ok (.invokevirtual 157, 3) := by decide +kernel
theorem dX4_open_96 : decode cX4_open 96 = .ok (.iload_n 1, 1) := by decide +kernel
theorem dX4_open_97 : decode cX4_open 97 = .ok (.ireturn, 1) := by decide +kernel
theorem dX4_word_0 : decode cX4_word 0 = .ok (.iload_n 1, 1) := by decide +kernel
theorem dX4_word_1 : decode cX4_word 1 = .ok (.invokestatic 160, 3) := by decide +kernel
theorem dX4_word_4 : decode cX4_word 4 = .ok (.ifCond .ne 13, 3) := by decide +kernel
theorem dX4_word_7 : decode cX4_word 7 = .ok (.new 163, 3) := by decide +kernel
theorem dX4_word_10 : decode cX4_word 10 = .ok (.dup, 1) := by decide +kernel
theorem dX4_word_11 : decode cX4_word 11 = .ok (.ldc 165, 2) := by decide +kernel
theorem dX4_word_13 : decode cX4_word 13 = .ok (.invokespecial 167, 3) := by decide +kernel
theorem dX4_word_16 : decode cX4_word 16 = .ok (.athrow, 1) := by decide +kernel
theorem dX4_word_17 : decode cX4_word 17 = .ok (.aload_n 0, 1) := by decide +kernel
theorem dX4_word_18 : decode cX4_word 18 = .ok (.getfield 10, 3) := by decide +kernel
theorem dX4_word_21 : decode cX4_word 21 = .ok (.iload_n 1, 1) := by decide +kernel
theorem dX4_word_22 : decode cX4_word 22 = .ok (.invokevirtual 168, 3) := by decide +kernel
theorem dX4_word_25 : decode cX4_word 25 = .ok (.lreturn, 1) := by decide +kernel
theorem dX4_block_0 : decode cX4_block 0 = .ok (.aload_n 0, 1) := by decide +kernel
theorem dX4_block_1 : decode cX4_block 1 = .ok (.invokevirtual 41, 3) := by decide +kernel
theorem dX4_block_4 : decode cX4_block 4 = .ok (.iload_n 2, 1) := by decide +kernel
theorem dX4_block_5 : decode cX4_block 5 = .ok (.ifCond .lt 8, 3) := by decide +kernel
theorem dX4_block_8 : decode cX4_block 8 = .ok (.iload_n 2, 1) := by decide +kernel
theorem dX4_block_9 : decode cX4_block 9 = .ok (.iconst 2, 1) := by decide +kernel
theorem dX4_block_10 : decode cX4_block 10 = .ok (.if_icmp .le 13, 3) := by decide +kernel
theorem dX4_block_13 : decode cX4_block 13 = .ok (.new 163, 3) := by decide +kernel
theorem dX4_block_16 : decode cX4_block 16 = .ok (.dup, 1) := by decide +kernel
theorem dX4_block_17 : decode cX4_block 17 = .ok (.ldc 171, 2) := by decide +kernel
theorem dX4_block_19 : decode cX4_block 19 = .ok (.invokespecial 167, 3) := by decide +kernel
theorem dX4_block_22 : decode cX4_block 22 = .ok (.athrow, 1) := by decide +kernel
theorem dX4_block_23 : decode cX4_block 23 = .ok (.aload_n 0, 1) := by decide +kernel
theorem dX4_block_24 : decode cX4_block 24 = .ok (.getfield 37, 3) := by decide +kernel
theorem dX4_block_27 : decode cX4_block 27 = .ok (.iload_n 1, 1) := by decide +kernel
theorem dX4_block_28 : decode cX4_block 28 = .ok (.invokevirtual 173, 3) := by decide +kernel
theorem dX4_block_31 : decode cX4_block 31 = .ok (.istore_n 3, 1) := by decide +kernel
theorem dX4_block_32 : decode cX4_block 32 = .ok (.iload_n 3, 1) := by decide +kernel
theorem dX4_block_33 : decode cX4_block 33 = .ok (.iconst (-1), 1) := by decide +kernel
theorem dX4_block_34 : decode cX4_block 34 = .ok (.if_icmp .ne 5, 3) := by decide +kernel
theorem dX4_block_37 : decode cX4_block 37 = .ok (.iconst (-1), 1) := by decide +kernel
theorem dX4_block_38 : decode cX4_block 38 = .ok (.ireturn, 1) := by decide +kernel
theorem dX4_block_39 : decode cX4_block 39 = .ok (.iload_n 2, 1) := by decide +kernel
theorem dX4_block_40 : decode cX4_block 40 = .ok (.lookupswitch 41 #[(0, 28), (1, 32)], 28) := by decide +kernel
theorem dX4_block_68 : decode cX4_block 68 = .ok (.iload_n 3, 1) := by decide +kernel
theorem dX4_block_69 : decode cX4_block 69 = .ok (.iconst 1, 1) := by decide +kernel
theorem dX4_block_70 : decode cX4_block 70 = .ok (.iadd, 1) := by decide +kernel
theorem dX4_block_71 : decode cX4_block 71 = .ok (.ireturn, 1) := by decide +kernel
theorem dX4_block_72 : decode cX4_block 72 = .ok (.aload_n 0, 1) := by decide +kernel
theorem dX4_block_73 : decode cX4_block 73 = .ok (.getfield 37, 3) := by decide +kernel
theorem dX4_block_76 : decode cX4_block 76 = .ok (.iload_n 3, 1) := by decide +kernel
theorem dX4_block_77 : decode cX4_block 77 = .ok (.invokevirtual 176, 3) := by decide +kernel
theorem dX4_block_80 : decode cX4_block 80 = .ok (.ireturn, 1) := by decide +kernel
theorem dX4_block_81 : decode cX4_block 81 = .ok (.aload_n 0, 1) := by decide +kernel
theorem dX4_block_82 : decode cX4_block 82 = .ok (.getfield 37, 3) := by decide +kernel
theorem dX4_block_85 : decode cX4_block 85 = .ok (.iload_n 3, 1) := by decide +kernel
theorem dX4_block_86 : decode cX4_block 86 = .ok (.invokevirtual 179, 3) := by decide +kernel
theorem dX4_block_89 : decode cX4_block 89 = .ok (.ifCond .eq 7, 3) := by decide +kernel
theorem dX4_block_92 : decode cX4_block 92 = .ok (.iconst 1, 1) := by decide +kernel
theorem dX4_block_93 : decode cX4_block 93 = .ok (.goto 4, 3) := by decide +kernel
theorem dX4_block_96 : decode cX4_block 96 = .ok (.iconst 0, 1) := by decide +kernel
theorem dX4_block_97 : decode cX4_block 97 = .ok (.ireturn, 1) := by decide +kernel
theorem dX4_told_0 : decode cX4_told 0 = .ok (.aload_n 0, 1) := by decide +kernel
theorem dX4_told_1 : decode cX4_told 1 = .ok (.invokevirtual 41, 3) := by decide +kernel
theorem dX4_told_4 : decode cX4_told 4 = .ok (.iload_n 1, 1) := by decide +kernel
theorem dX4_told_5 : decode cX4_told 5 = .ok (.tableswitch 113 0 7 #[47, 55, 63, 71, 79, 87, 97, 105], 47) := by decide +kernel
theorem dX4_told_52 : decode cX4_told 52 = .ok (.aload_n 0, 1) := by decide +kernel
theorem dX4_told_53 : decode cX4_told 53 = .ok (.getfield 37, 3) := by decide +kernel
theorem dX4_told_56 : decode cX4_told 56 = .ok (.invokevirtual 182, 3) := by decide +kernel
theorem dX4_told_59 : decode cX4_told 59 = .ok (.ireturn, 1) := by decide +kernel
theorem dX4_told_60 : decode cX4_told 60 = .ok (.aload_n 0, 1) := by decide +kernel
theorem dX4_told_61 : decode cX4_told 61 = .ok (.getfield 37, 3) := by decide +kernel
theorem dX4_told_64 : decode cX4_told 64 = .ok (.invokevirtual 185, 3) := by decide +kernel
theorem dX4_told_67 : decode cX4_told 67 = .ok (.ireturn, 1) := by decide +kernel
theorem dX4_told_68 : decode cX4_told 68 = .ok (.aload_n 0, 1) := by decide +kernel
theorem dX4_told_69 : decode cX4_told 69 = .ok (.getfield 37, 3) := by decide +kernel
theorem dX4_told_72 : decode cX4_told 72 = .ok (.invokevirtual 188, 3) := by decide +kernel
theorem dX4_told_75 : decode cX4_told 75 = .ok (.ireturn, 1) := by decide +kernel
theorem dX4_told_76 : decode cX4_told 76 = .ok (.aload_n 0, 1) := by decide +kernel
theorem dX4_told_77 : decode cX4_told 77 = .ok (.getfield 21, 3) := by decide +kernel
theorem dX4_told_80 : decode cX4_told 80 = .ok (.invokevirtual 103, 3) := by decide +kernel
theorem dX4_told_83 : decode cX4_told 83 = .ok (.ireturn, 1) := by decide +kernel
theorem dX4_told_84 : decode cX4_told 84 = .ok (.aload_n 0, 1) := by decide +kernel
theorem dX4_told_85 : decode cX4_told 85 = .ok (.getfield 21, 3) := by decide +kernel
theorem dX4_told_88 : decode cX4_told 88 = .ok (.invokevirtual 125, 3) := by decide +kernel
theorem dX4_told_91 : decode cX4_told 91 = .ok (.ireturn, 1) := by decide +kernel
theorem dX4_told_92 : decode cX4_told 92 = .ok (.aload_n 0, 1) := by decide +kernel
theorem dX4_told_93 : decode cX4_told 93 = .ok (.getfield 10, 3) := by decide +kernel
theorem dX4_told_96 : decode cX4_told 96 = .ok (.iconst 0, 1) := by decide +kernel
theorem dX4_told_97 : decode cX4_told 97 = .ok (.invokevirtual 147, 3) := by decide +kernel
theorem dX4_told_100 : decode cX4_told 100 = .ok (.l2i, 1) := by decide +kernel
theorem dX4_told_101 : decode cX4_told 101 = .ok (.ireturn, 1) := by decide +kernel
theorem dX4_told_102 : decode cX4_told 102 = .ok (.aload_n 0, 1) := by decide +kernel
theorem dX4_told_103 : decode cX4_told 103 = .ok (.getfield 21, 3) := by decide +kernel
theorem dX4_told_106 : decode cX4_told 106 = .ok (.invokevirtual 58, 3) := by decide +kernel
theorem dX4_told_109 : decode cX4_told 109 = .ok (.ireturn, 1) := by decide +kernel
theorem dX4_told_110 : decode cX4_told 110 = .ok (.aload_n 0, 1) := by decide +kernel
theorem dX4_told_111 : decode cX4_told 111 = .ok (.getfield 28, 3) := by decide +kernel
theorem dX4_told_114 : decode cX4_told 114 = .ok (.invokevirtual 93, 3) := by decide +kernel
theorem dX4_told_117 : decode cX4_told 117 = .ok (.ireturn, 1) := by decide +kernel
theorem dX4_told_118 : decode cX4_told 118 = .ok (.new 163, 3) := by decide +kernel
theorem dX4_told_121 : decode cX4_told 121 = .ok (.dup, 1) := by decide +kernel
theorem dX4_told_122 : decode cX4_told 122 = .ok (.ldc 171, 2) := by decide +kernel
theorem dX4_told_124 : decode cX4_told 124 = .ok (.invokespecial 167, 3) := by decide +kernel
theorem dX4_told_127 : decode cX4_told 127 = .ok (.athrow, 1) := by decide +kernel
theorem dX4_count_0 : decode cX4_count 0 = .ok (.iload_n 1, 1) := by decide +kernel
theorem dX4_count_1 : decode cX4_count 1 = .ok (.tableswitch 115 0 6 #[43, 59, 75, 83, 91, 99, 107], 43) := by decide +kernel
theorem dX4_count_44 : decode cX4_count 44 = .ok (.aload_n 0, 1) := by decide +kernel
theorem dX4_count_45 : decode cX4_count 45 = .ok (.getfield 10, 3) := by decide +kernel
theorem dX4_count_48 : decode cX4_count 48 = .ok (.invokevirtual 139, 3) := by decide +kernel
theorem dX4_count_51 : decode cX4_count 51 = .ok (.ifCond .eq 7, 3) := by decide +kernel
theorem dX4_count_54 : decode cX4_count 54 = .ok (.iconst 1, 1) := by decide +kernel
theorem dX4_count_55 : decode cX4_count 55 = .ok (.goto 4, 3) := by decide +kernel
theorem dX4_count_58 : decode cX4_count 58 = .ok (.iconst 0, 1) := by decide +kernel
theorem dX4_count_59 : decode cX4_count 59 = .ok (.ireturn, 1) := by decide +kernel
theorem dX4_count_60 : decode cX4_count 60 = .ok (.aload_n 0, 1) := by decide +kernel
theorem dX4_count_61 : decode cX4_count 61 = .ok (.getfield 28, 3) := by decide +kernel
theorem dX4_count_64 : decode cX4_count 64 = .ok (.invokevirtual 44, 3) := by decide +kernel
theorem dX4_count_67 : decode cX4_count 67 = .ok (.ifCond .eq 7, 3) := by decide +kernel
theorem dX4_count_70 : decode cX4_count 70 = .ok (.iconst 1, 1) := by decide +kernel
theorem dX4_count_71 : decode cX4_count 71 = .ok (.goto 4, 3) := by decide +kernel
theorem dX4_count_74 : decode cX4_count 74 = .ok (.iconst 0, 1) := by decide +kernel
theorem dX4_count_75 : decode cX4_count 75 = .ok (.ireturn, 1) := by decide +kernel
theorem dX4_count_76 : decode cX4_count 76 = .ok (.aload_n 0, 1) := by decide +kernel
theorem dX4_count_77 : decode cX4_count 77 = .ok (.getfield 10, 3) := by decide +kernel
theorem dX4_count_80 : decode cX4_count 80 = .ok (.invokevirtual 191, 3) := by decide +kernel
theorem dX4_count_83 : decode cX4_count 83 = .ok (.ireturn, 1) := by decide +kernel
theorem dX4_count_84 : decode cX4_count 84 = .ok (.aload_n 0, 1) := by decide +kernel
theorem dX4_count_85 : decode cX4_count 85 = .ok (.getfield 10, 3) := by decide +kernel
theorem dX4_count_88 : decode cX4_count 88 = .ok (.invokevirtual 194, 3) := by decide +kernel
theorem dX4_count_91 : decode cX4_count 91 = .ok (.ireturn, 1) := by decide +kernel
theorem dX4_count_92 : decode cX4_count 92 = .ok (.aload_n 0, 1) := by decide +kernel
theorem dX4_count_93 : decode cX4_count 93 = .ok (.getfield 10, 3) := by decide +kernel
theorem dX4_count_96 : decode cX4_count 96 = .ok (.invokevirtual 197, 3) := by decide +kernel
theorem dX4_count_99 : decode cX4_count 99 = .ok (.ireturn, 1) := by decide +kernel
theorem dX4_count_100 : decode cX4_count 100 = .ok (.aload_n 0, 1) := by decide +kernel
theorem dX4_count_101 : decode cX4_count 101 = .ok (.getfield 10, 3) := by decide +kernel
theorem dX4_count_104 : decode cX4_count 104 = .ok (.invokevirtual 200, 3) := by decide +kernel
theorem dX4_count_107 : decode cX4_count 107 = .ok (.ireturn, 1) := by decide +kernel
theorem dX4_count_108 : decode cX4_count 108 = .ok (.aload_n 0, 1) := by decide +kernel
theorem dX4_count_109 : decode cX4_count 109 = .ok (.getfield 10, 3) := by decide +kernel
theorem dX4_count_112 : decode cX4_count 112 = .ok (.invokevirtual 116, 3) := by decide +kernel
theorem dX4_count_115 : decode cX4_count 115 = .ok (.ireturn, 1) := by decide +kernel
theorem dX4_count_116 : decode cX4_count 116 = .ok (.new 163, 3) := by decide +kernel
theorem dX4_count_119 : decode cX4_count 119 = .ok (.dup, 1) := by decide +kernel
theorem dX4_count_120 : decode cX4_count 120 = .ok (.ldc 171, 2) := by decide +kernel
theorem dX4_count_122 : decode cX4_count 122 = .ok (.invokespecial 167, 3) := by decide +kernel
theorem dX4_count_125 : decode cX4_count 125 = .ok (.athrow, 1) := by decide +kernel
theorem dX4_needPower_0 : decode cX4_needPower 0 = .ok (.aload_n 0, 1) := by decide +kernel
theorem dX4_needPower_1 : decode cX4_needPower 1 = .ok (.getfield 10, 3) := by decide +kernel
theorem dX4_needPower_4 : decode cX4_needPower 4 = .ok (.invokevirtual 139, 3) := by decide +kernel
theorem dX4_needPower_7 : decode cX4_needPower 7 = .ok (.ifCond .ne 13, 3) := by decide +kernel
theorem dX4_needPower_10 : decode cX4_needPower 10 = .ok (.new 48, 3) := by decide +kernel
theorem dX4_needPower_13 : decode cX4_needPower 13 = .ok (.dup, 1) := by decide +kernel
theorem dX4_needPower_14 : decode cX4_needPower 14 = .ok (.ldc 203, 2) := by decide +kernel
theorem dX4_needPower_16 : decode cX4_needPower 16 = .ok (.invokespecial 52, 3) := by decide +kernel
theorem dX4_needPower_19 : decode cX4_needPower 19 = .ok (.athrow, 1) := by decide +kernel
theorem dX4_needPower_20 : decode cX4_needPower 20 = .ok (.return_, 1) := by decide +kernel
theorem dX4_needTransaction_0 : decode cX4_needTransaction 0 = .ok (.aload_n 0, 1) := by decide +kernel
theorem dX4_needTransaction_1 : decode cX4_needTransaction 1 = .ok (.invokevirtual 41, 3) := by decide +kernel
theorem dX4_needTransaction_4 : decode cX4_needTransaction 4 = .ok (.aload_n 0, 1) := by decide +kernel
theorem dX4_needTransaction_5 : decode cX4_needTransaction 5 = .ok (.getfield 28, 3) := by decide +kernel
theorem dX4_needTransaction_8 : decode cX4_needTransaction 8 = .ok (.invokevirtual 44, 3) := by decide +kernel
theorem dX4_needTransaction_11 : decode cX4_needTransaction 11 = .ok (.ifCond .ne 13, 3) := by decide +kernel
theorem dX4_needTransaction_14 : decode cX4_needTransaction 14 = .ok (.new 48, 3) := by decide +kernel
theorem dX4_needTransaction_17 : decode cX4_needTransaction 17 = .ok (.dup, 1) := by decide +kernel
theorem dX4_needTransaction_18 : decode cX4_needTransaction 18 = .ok (.ldc 205, 2) := by decide +kernel
theorem dX4_needTransaction_20 : decode cX4_needTransaction 20 = .ok (.invokespecial 52, 3) := by decide +kernel
theorem dX4_needTransaction_23 : decode cX4_needTransaction 23 = .ok (.athrow, 1) := by decide +kernel
theorem dX4_needTransaction_24 : decode cX4_needTransaction 24 = .ok (.return_, 1) := by decide +kernel
theorem dX4_needUsedBlock_0 : decode cX4_needUsedBlock 0 = .ok (.aload_n 0, 1) := by decide +kernel
theorem dX4_needUsedBlock_1 : decode cX4_needUsedBlock 1 = .ok (.getfield 37, 3) := by decide +kernel
theorem dX4_needUsedBlock_4 : decode cX4_needUsedBlock 4 = .ok (.iload_n 1, 1) := by decide +kernel
theorem dX4_needUsedBlock_5 : decode cX4_needUsedBlock 5 = .ok (.invokevirtual 207, 3) := by decide +kernel
theorem dX4_needUsedBlock_8 : decode cX4_needUsedBlock 8 = .ok (.ifCond .ne 13, 3) := by decide +kernel
theorem dX4_needUsedBlock_11 : decode cX4_needUsedBlock 11 = .ok (.new 65, 3) := by decide +kernel
theorem dX4_needUsedBlock_14 : decode cX4_needUsedBlock 14 = .ok (.dup, 1) := by decide +kernel
theorem dX4_needUsedBlock_15 : decode cX4_needUsedBlock 15 = .ok (.ldc 210, 2) := by decide +kernel
theorem dX4_needUsedBlock_17 : decode cX4_needUsedBlock 17 = .ok (.invokespecial 69, 3) := by decide +kernel
theorem dX4_needUsedBlock_20 : decode cX4_needUsedBlock 20 = .ok (.athrow, 1) := by decide +kernel
theorem dX4_needUsedBlock_21 : decode cX4_needUsedBlock 21 = .ok (.return_, 1) := by decide +kernel
theorem dX4_needBodyWord_0 : decode cX4_needBodyWord 0 = .ok (.aload_n 0, 1) := by decide +kernel
theorem dX4_needBodyWord_1 : decode cX4_needBodyWord 1 = .ok (.iload_n 1, 1) := by decide +kernel
theorem dX4_needBodyWord_2 : decode cX4_needBodyWord 2 = .ok (.invokevirtual 74, 3) := by decide +kernel
theorem dX4_needBodyWord_5 : decode cX4_needBodyWord 5 = .ok (.iload_n 2, 1) := by decide +kernel
theorem dX4_needBodyWord_6 : decode cX4_needBodyWord 6 = .ok (.ifCond .lt 17, 3) := by decide +kernel
theorem dX4_needBodyWord_9 : decode cX4_needBodyWord 9 = .ok (.iload_n 2, 1) := by decide +kernel
theorem dX4_needBodyWord_10 : decode cX4_needBodyWord 10 = .ok (.aload_n 0, 1) := by decide +kernel
theorem dX4_needBodyWord_11 : decode cX4_needBodyWord 11 = .ok (.getfield 37, 3) := by decide +kernel
theorem dX4_needBodyWord_14 : decode cX4_needBodyWord 14 = .ok (.iload_n 1, 1) := by decide +kernel
theorem dX4_needBodyWord_15 : decode cX4_needBodyWord 15 = .ok (.iconst 1, 1) := by decide +kernel
theorem dX4_needBodyWord_16 : decode cX4_needBodyWord 16 = .ok (.isub, 1) := by decide +kernel
theorem dX4_needBodyWord_17 : decode cX4_needBodyWord 17 = .ok (.invokevirtual 176, 3) := by decide +kernel
theorem dX4_needBodyWord_20 : decode cX4_needBodyWord 20 = .ok (.if_icmp .lt 13, 3) := by decide +kernel
theorem dX4_needBodyWord_23 : decode cX4_needBodyWord 23 = .ok (.new 65, 3) := by decide +kernel
theorem dX4_needBodyWord_26 : decode cX4_needBodyWord 26 = .ok (.dup, 1) := by decide +kernel
theorem dX4_needBodyWord_27 : decode cX4_needBodyWord 27 = .ok (.ldc 212, 2) := by decide +kernel
theorem dX4_needBodyWord_29 : decode cX4_needBodyWord 29 = .ok (.invokespecial 69, 3) := by decide +kernel
theorem dX4_needBodyWord_32 : decode cX4_needBodyWord 32 = .ok (.athrow, 1) := by decide +kernel
theorem dX4_needBodyWord_33 : decode cX4_needBodyWord 33 = .ok (.return_, 1) := by decide +kernel
theorem dX4_format_0 : decode cX4_format 0 = .ok (.aload_n 0, 1) := by decide +kernel
theorem dX4_format_1 : decode cX4_format 1 = .ok (.getfield 10, 3) := by decide +kernel
theorem dX4_format_4 : decode cX4_format 4 = .ok (.sipush 176, 3) := by decide +kernel
theorem dX4_format_7 : decode cX4_format 7 = .ok (.ldc2_w 214, 3) := by decide +kernel
theorem dX4_format_10 : decode cX4_format 10 = .ok (.invokevirtual 216, 3) := by decide +kernel
theorem dX4_format_13 : decode cX4_format 13 = .ok (.ifCond .eq 41, 3) := by decide +kernel
theorem dX4_format_16 : decode cX4_format 16 = .ok (.aload_n 0, 1) := by decide +kernel
theorem dX4_format_17 : decode cX4_format 17 = .ok (.getfield 10, 3) := by decide +kernel
theorem dX4_format_20 : decode cX4_format 20 = .ok (.iconst 1, 1) := by decide +kernel
theorem dX4_format_21 : decode cX4_format 21 = .ok (.lconst 0, 1) := by decide +kernel
theorem dX4_format_22 : decode cX4_format 22 = .ok (.invokevirtual 216, 3) := by decide +kernel
theorem dX4_format_25 : decode cX4_format 25 = .ok (.ifCond .eq 29, 3) := by decide +kernel
theorem dX4_format_28 : decode cX4_format 28 = .ok (.aload_n 0, 1) := by decide +kernel
theorem dX4_format_29 : decode cX4_format 29 = .ok (.getfield 10, 3) := by decide +kernel
theorem dX4_format_32 : decode cX4_format 32 = .ok (.iconst 0, 1) := by decide +kernel
theorem dX4_format_33 : decode cX4_format 33 = .ok (.lconst 1, 1) := by decide +kernel
theorem dX4_format_34 : decode cX4_format 34 = .ok (.invokevirtual 216, 3) := by decide +kernel
theorem dX4_format_37 : decode cX4_format 37 = .ok (.ifCond .eq 17, 3) := by decide +kernel
theorem dX4_format_40 : decode cX4_format 40 = .ok (.aload_n 0, 1) := by decide +kernel
theorem dX4_format_41 : decode cX4_format 41 = .ok (.getfield 10, 3) := by decide +kernel
theorem dX4_format_44 : decode cX4_format 44 = .ok (.invokevirtual 119, 3) := by decide +kernel
theorem dX4_format_47 : decode cX4_format 47 = .ok (.aload_n 0, 1) := by decide +kernel
theorem dX4_format_48 : decode cX4_format 48 = .ok (.getfield 21, 3) := by decide +kernel
theorem dX4_format_51 : decode cX4_format 51 = .ok (.invokevirtual 219, 3) := by decide +kernel
theorem dX4_format_54 : decode cX4_format 54 = .ok (.return_, 1) := by decide +kernel
theorem dX4_isWord_0 : decode cX4_isWord 0 = .ok (.iload_n 0, 1) := by decide +kernel
theorem dX4_isWord_1 : decode cX4_isWord 1 = .ok (.ifCond .lt 14, 3) := by decide +kernel
theorem dX4_isWord_4 : decode cX4_isWord 4 = .ok (.iload_n 0, 1) := by decide +kernel
theorem dX4_isWord_5 : decode cX4_isWord 5 = .ok (.sipush 1024, 3) := by decide +kernel
theorem dX4_isWord_8 : decode cX4_isWord 8 = .ok (.if_icmp .ge 7, 3) := by decide +kernel
theorem dX4_isWord_11 : decode cX4_isWord 11 = .ok (.iconst 1, 1) := by decide +kernel
theorem dX4_isWord_12 : decode cX4_isWord 12 = .ok (.goto 4, 3) := by decide +kernel
theorem dX4_isWord_15 : decode cX4_isWord 15 = .ok (.iconst 0, 1) := by decide +kernel
theorem dX4_isWord_16 : decode cX4_isWord 16 = .ok (.ireturn, 1) := by decide +kernel
