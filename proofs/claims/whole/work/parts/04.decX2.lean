-- rows of claim/NAMES.whole.lean.txt (starting text): what each instruction is
theorem dX2_init_0 : decode cX2_init 0 = .ok (.aload_n 0, 1) := by decide +kernel
theorem dX2_init_1 : decode cX2_init 1 = .ok (.invokespecial 3, 3) := by decide +kernel
theorem dX2_init_4 : decode cX2_init 4 = .ok (.aload_n 0, 1) := by decide +kernel
theorem dX2_init_5 : decode cX2_init 5 = .ok (.sipush 1024, 3) := by decide +kernel
theorem dX2_init_8 : decode cX2_init 8 = .ok (.newarray .long, 2) := by decide +kernel
theorem dX2_init_10 : decode cX2_init 10 = .ok (.putfield 9, 3) := by decide +kernel
theorem dX2_init_13 : decode cX2_init 13 = .ok (.aload_n 0, 1) := by decide +kernel
theorem dX2_init_14 : decode cX2_init 14 = .ok (.sipush 1024, 3) := by decide +kernel
theorem dX2_init_17 : decode cX2_init 17 = .ok (.newarray .long, 2) := by decide +kernel
theorem dX2_init_19 : decode cX2_init 19 = .ok (.putfield 15, 3) := by decide +kernel
theorem dX2_init_22 : decode cX2_init 22 = .ok (.aload_n 0, 1) := by decide +kernel
theorem dX2_init_23 : decode cX2_init 23 = .ok (.sipush 320, 3) := by decide +kernel
theorem dX2_init_26 : decode cX2_init 26 = .ok (.newarray .int, 2) := by decide +kernel
theorem dX2_init_28 : decode cX2_init 28 = .ok (.putfield 18, 3) := by decide +kernel
theorem dX2_init_31 : decode cX2_init 31 = .ok (.aload_n 0, 1) := by decide +kernel
theorem dX2_init_32 : decode cX2_init 32 = .ok (.sipush 320, 3) := by decide +kernel
theorem dX2_init_35 : decode cX2_init 35 = .ok (.newarray .long, 2) := by decide +kernel
theorem dX2_init_37 : decode cX2_init 37 = .ok (.putfield 22, 3) := by decide +kernel
theorem dX2_init_40 : decode cX2_init 40 = .ok (.return_, 1) := by decide +kernel
theorem dX2_isOn_0 : decode cX2_isOn 0 = .ok (.aload_n 0, 1) := by decide +kernel
theorem dX2_isOn_1 : decode cX2_isOn 1 = .ok (.getfield 25, 3) := by decide +kernel
theorem dX2_isOn_4 : decode cX2_isOn 4 = .ok (.ireturn, 1) := by decide +kernel
theorem dX2_waiting_0 : decode cX2_waiting 0 = .ok (.aload_n 0, 1) := by decide +kernel
theorem dX2_waiting_1 : decode cX2_waiting 1 = .ok (.getfield 29, 3) := by decide +kernel
theorem dX2_waiting_4 : decode cX2_waiting 4 = .ok (.ireturn, 1) := by decide +kernel
theorem dX2_writes_0 : decode cX2_writes 0 = .ok (.aload_n 0, 1) := by decide +kernel
theorem dX2_writes_1 : decode cX2_writes 1 = .ok (.getfield 33, 3) := by decide +kernel
theorem dX2_writes_4 : decode cX2_writes 4 = .ok (.ireturn, 1) := by decide +kernel
theorem dX2_syncs_0 : decode cX2_syncs 0 = .ok (.aload_n 0, 1) := by decide +kernel
theorem dX2_syncs_1 : decode cX2_syncs 1 = .ok (.getfield 36, 3) := by decide +kernel
theorem dX2_syncs_4 : decode cX2_syncs 4 = .ok (.ireturn, 1) := by decide +kernel
theorem dX2_failures_0 : decode cX2_failures 0 = .ok (.aload_n 0, 1) := by decide +kernel
theorem dX2_failures_1 : decode cX2_failures 1 = .ok (.getfield 39, 3) := by decide +kernel
theorem dX2_failures_4 : decode cX2_failures 4 = .ok (.ireturn, 1) := by decide +kernel
theorem dX2_lost_0 : decode cX2_lost 0 = .ok (.aload_n 0, 1) := by decide +kernel
theorem dX2_lost_1 : decode cX2_lost 1 = .ok (.getfield 42, 3) := by decide +kernel
theorem dX2_lost_4 : decode cX2_lost 4 = .ok (.ireturn, 1) := by decide +kernel
theorem dX2_settled_0 : decode cX2_settled 0 = .ok (.iload_n 1, 1) := by decide +kernel
theorem dX2_settled_1 : decode cX2_settled 1 = .ok (.invokestatic 45, 3) := by decide +kernel
theorem dX2_settled_4 : decode cX2_settled 4 = .ok (.ifCond .eq 12, 3) := by decide +kernel
theorem dX2_settled_7 : decode cX2_settled 7 = .ok (.aload_n 0, 1) := by decide +kernel
theorem dX2_settled_8 : decode cX2_settled 8 = .ok (.getfield 9, 3) := by decide +kernel
theorem dX2_settled_11 : decode cX2_settled 11 = .ok (.iload_n 1, 1) := by decide +kernel
theorem dX2_settled_12 : decode cX2_settled 12 = .ok (.laload, 1) := by decide +kernel
theorem dX2_settled_13 : decode cX2_settled 13 = .ok (.goto 4, 3) := by decide +kernel
theorem dX2_settled_16 : decode cX2_settled 16 = .ok (.lconst 0, 1) := by decide +kernel
theorem dX2_settled_17 : decode cX2_settled 17 = .ok (.lreturn, 1) := by decide +kernel
theorem dX2_read_0 : decode cX2_read 0 = .ok (.iload_n 1, 1) := by decide +kernel
theorem dX2_read_1 : decode cX2_read 1 = .ok (.invokestatic 45, 3) := by decide +kernel
theorem dX2_read_4 : decode cX2_read 4 = .ok (.ifCond .eq 12, 3) := by decide +kernel
theorem dX2_read_7 : decode cX2_read 7 = .ok (.aload_n 0, 1) := by decide +kernel
theorem dX2_read_8 : decode cX2_read 8 = .ok (.getfield 15, 3) := by decide +kernel
theorem dX2_read_11 : decode cX2_read 11 = .ok (.iload_n 1, 1) := by decide +kernel
theorem dX2_read_12 : decode cX2_read 12 = .ok (.laload, 1) := by decide +kernel
theorem dX2_read_13 : decode cX2_read 13 = .ok (.goto 4, 3) := by decide +kernel
theorem dX2_read_16 : decode cX2_read 16 = .ok (.lconst 0, 1) := by decide +kernel
theorem dX2_read_17 : decode cX2_read 17 = .ok (.lreturn, 1) := by decide +kernel
theorem dX2_write_0 : decode cX2_write 0 = .ok (.aload_n 0, 1) := by decide +kernel
theorem dX2_write_1 : decode cX2_write 1 = .ok (.getfield 25, 3) := by decide +kernel
theorem dX2_write_4 : decode cX2_write 4 = .ok (.ifCond .eq 20, 3) := by decide +kernel
theorem dX2_write_7 : decode cX2_write 7 = .ok (.iload_n 1, 1) := by decide +kernel
theorem dX2_write_8 : decode cX2_write 8 = .ok (.invokestatic 45, 3) := by decide +kernel
theorem dX2_write_11 : decode cX2_write 11 = .ok (.ifCond .eq 13, 3) := by decide +kernel
theorem dX2_write_14 : decode cX2_write 14 = .ok (.aload_n 0, 1) := by decide +kernel
theorem dX2_write_15 : decode cX2_write 15 = .ok (.getfield 29, 3) := by decide +kernel
theorem dX2_write_18 : decode cX2_write 18 = .ok (.sipush 320, 3) := by decide +kernel
theorem dX2_write_21 : decode cX2_write 21 = .ok (.if_icmp .lt 8, 3) := by decide +kernel
theorem dX2_write_24 : decode cX2_write 24 = .ok (.aload_n 0, 1) := by decide +kernel
theorem dX2_write_25 : decode cX2_write 25 = .ok (.getfield 25, 3) := by decide +kernel
theorem dX2_write_28 : decode cX2_write 28 = .ok (.ireturn, 1) := by decide +kernel
theorem dX2_write_29 : decode cX2_write 29 = .ok (.aload_n 0, 1) := by decide +kernel
theorem dX2_write_30 : decode cX2_write 30 = .ok (.getfield 15, 3) := by decide +kernel
theorem dX2_write_33 : decode cX2_write 33 = .ok (.iload_n 1, 1) := by decide +kernel
theorem dX2_write_34 : decode cX2_write 34 = .ok (.lload_n 2, 1) := by decide +kernel
theorem dX2_write_35 : decode cX2_write 35 = .ok (.lastore, 1) := by decide +kernel
theorem dX2_write_36 : decode cX2_write 36 = .ok (.aload_n 0, 1) := by decide +kernel
theorem dX2_write_37 : decode cX2_write 37 = .ok (.getfield 18, 3) := by decide +kernel
theorem dX2_write_40 : decode cX2_write 40 = .ok (.aload_n 0, 1) := by decide +kernel
theorem dX2_write_41 : decode cX2_write 41 = .ok (.getfield 29, 3) := by decide +kernel
theorem dX2_write_44 : decode cX2_write 44 = .ok (.iload_n 1, 1) := by decide +kernel
theorem dX2_write_45 : decode cX2_write 45 = .ok (.iastore, 1) := by decide +kernel
theorem dX2_write_46 : decode cX2_write 46 = .ok (.aload_n 0, 1) := by decide +kernel
theorem dX2_write_47 : decode cX2_write 47 = .ok (.getfield 22, 3) := by decide +kernel
theorem dX2_write_50 : decode cX2_write 50 = .ok (.aload_n 0, 1) := by decide +kernel
theorem dX2_write_51 : decode cX2_write 51 = .ok (.getfield 29, 3) := by decide +kernel
theorem dX2_write_54 : decode cX2_write 54 = .ok (.lload_n 2, 1) := by decide +kernel
theorem dX2_write_55 : decode cX2_write 55 = .ok (.lastore, 1) := by decide +kernel
theorem dX2_write_56 : decode cX2_write 56 = .ok (.aload_n 0, 1) := by decide +kernel
theorem dX2_write_57 : decode cX2_write 57 = .ok (.dup, 1) := by decide +kernel
theorem dX2_write_58 : decode cX2_write 58 = .ok (.getfield 29, 3) := by decide +kernel
theorem dX2_write_61 : decode cX2_write 61 = .ok (.iconst 1, 1) := by decide +kernel
theorem dX2_write_62 : decode cX2_write 62 = .ok (.iadd, 1) := by decide +kernel
theorem dX2_write_63 : decode cX2_write 63 = .ok (.putfield 29, 3) := by decide +kernel
theorem dX2_write_66 : decode cX2_write 66 = .ok (.aload_n 0, 1) := by decide +kernel
theorem dX2_write_67 : decode cX2_write 67 = .ok (.dup, 1) := by decide +kernel
theorem dX2_write_68 : decode cX2_write 68 = .ok (.getfield 33, 3) := by decide +kernel
theorem dX2_write_71 : decode cX2_write 71 = .ok (.iconst 1, 1) := by decide +kernel
theorem dX2_write_72 : decode cX2_write 72 = .ok (.iadd, 1) := by decide +kernel
theorem dX2_write_73 : decode cX2_write 73 = .ok (.putfield 33, 3) := by decide +kernel
theorem dX2_write_76 : decode cX2_write 76 = .ok (.aload_n 0, 1) := by decide +kernel
theorem dX2_write_77 : decode cX2_write 77 = .ok (.getfield 49, 3) := by decide +kernel
theorem dX2_write_80 : decode cX2_write 80 = .ok (.ifCond .le 28, 3) := by decide +kernel
theorem dX2_write_83 : decode cX2_write 83 = .ok (.aload_n 0, 1) := by decide +kernel
theorem dX2_write_84 : decode cX2_write 84 = .ok (.dup, 1) := by decide +kernel
theorem dX2_write_85 : decode cX2_write 85 = .ok (.getfield 49, 3) := by decide +kernel
theorem dX2_write_88 : decode cX2_write 88 = .ok (.iconst 1, 1) := by decide +kernel
theorem dX2_write_89 : decode cX2_write 89 = .ok (.isub, 1) := by decide +kernel
theorem dX2_write_90 : decode cX2_write 90 = .ok (.putfield 49, 3) := by decide +kernel
theorem dX2_write_93 : decode cX2_write 93 = .ok (.aload_n 0, 1) := by decide +kernel
theorem dX2_write_94 : decode cX2_write 94 = .ok (.getfield 49, 3) := by decide +kernel
theorem dX2_write_97 : decode cX2_write 97 = .ok (.ifCond .ne 11, 3) := by decide +kernel
theorem dX2_write_100 : decode cX2_write 100 = .ok (.aload_n 0, 1) := by decide +kernel
theorem dX2_write_101 : decode cX2_write 101 = .ok (.aload_n 0, 1) := by decide +kernel
theorem dX2_write_102 : decode cX2_write 102 = .ok (.getfield 52, 3) := by decide +kernel
theorem dX2_write_105 : decode cX2_write 105 = .ok (.invokevirtual 55, 3) := by decide +kernel
theorem dX2_write_108 : decode cX2_write 108 = .ok (.aload_n 0, 1) := by decide +kernel
theorem dX2_write_109 : decode cX2_write 109 = .ok (.getfield 25, 3) := by decide +kernel
theorem dX2_write_112 : decode cX2_write 112 = .ok (.ireturn, 1) := by decide +kernel
theorem dX2_settleAll_0 : decode cX2_settleAll 0 = .ok (.aload_n 0, 1) := by decide +kernel
theorem dX2_settleAll_1 : decode cX2_settleAll 1 = .ok (.aload_n 0, 1) := by decide +kernel
theorem dX2_settleAll_2 : decode cX2_settleAll 2 = .ok (.getfield 29, 3) := by decide +kernel
theorem dX2_settleAll_5 : decode cX2_settleAll 5 = .ok (.invokevirtual 59, 3) := by decide +kernel
theorem dX2_settleAll_8 : decode cX2_settleAll 8 = .ok (.aload_n 0, 1) := by decide +kernel
theorem dX2_settleAll_9 : decode cX2_settleAll 9 = .ok (.iconst 0, 1) := by decide +kernel
theorem dX2_settleAll_10 : decode cX2_settleAll 10 = .ok (.putfield 29, 3) := by decide +kernel
theorem dX2_settleAll_13 : decode cX2_settleAll 13 = .ok (.aload_n 0, 1) := by decide +kernel
theorem dX2_settleAll_14 : decode cX2_settleAll 14 = .ok (.dup, 1) := by decide +kernel
theorem dX2_settleAll_15 : decode cX2_settleAll 15 = .ok (.getfield 36, 3) := by decide +kernel
theorem dX2_settleAll_18 : decode cX2_settleAll 18 = .ok (.iconst 1, 1) := by decide +kernel
theorem dX2_settleAll_19 : decode cX2_settleAll 19 = .ok (.iadd, 1) := by decide +kernel
theorem dX2_settleAll_20 : decode cX2_settleAll 20 = .ok (.putfield 36, 3) := by decide +kernel
theorem dX2_settleAll_23 : decode cX2_settleAll 23 = .ok (.return_, 1) := by decide +kernel
theorem dX2_limit_0 : decode cX2_limit 0 = .ok (.aload_n 0, 1) := by decide +kernel
theorem dX2_limit_1 : decode cX2_limit 1 = .ok (.getfield 49, 3) := by decide +kernel
theorem dX2_limit_4 : decode cX2_limit 4 = .ok (.istore_n 3, 1) := by decide +kernel
theorem dX2_limit_5 : decode cX2_limit 5 = .ok (.aload_n 0, 1) := by decide +kernel
theorem dX2_limit_6 : decode cX2_limit 6 = .ok (.iload_n 1, 1) := by decide +kernel
theorem dX2_limit_7 : decode cX2_limit 7 = .ok (.putfield 49, 3) := by decide +kernel
theorem dX2_limit_10 : decode cX2_limit 10 = .ok (.aload_n 0, 1) := by decide +kernel
theorem dX2_limit_11 : decode cX2_limit 11 = .ok (.iload_n 2, 1) := by decide +kernel
theorem dX2_limit_12 : decode cX2_limit 12 = .ok (.putfield 52, 3) := by decide +kernel
theorem dX2_limit_15 : decode cX2_limit 15 = .ok (.iload_n 3, 1) := by decide +kernel
theorem dX2_limit_16 : decode cX2_limit 16 = .ok (.ireturn, 1) := by decide +kernel
theorem dX2_losePower_0 : decode cX2_losePower 0 = .ok (.iload_n 1, 1) := by decide +kernel
theorem dX2_losePower_1 : decode cX2_losePower 1 = .ok (.aload_n 0, 1) := by decide +kernel
theorem dX2_losePower_2 : decode cX2_losePower 2 = .ok (.getfield 29, 3) := by decide +kernel
theorem dX2_losePower_5 : decode cX2_losePower 5 = .ok (.invokestatic 62, 3) := by decide +kernel
theorem dX2_losePower_8 : decode cX2_losePower 8 = .ok (.istore_n 2, 1) := by decide +kernel
theorem dX2_losePower_9 : decode cX2_losePower 9 = .ok (.aload_n 0, 1) := by decide +kernel
theorem dX2_losePower_10 : decode cX2_losePower 10 = .ok (.iload_n 2, 1) := by decide +kernel
theorem dX2_losePower_11 : decode cX2_losePower 11 = .ok (.invokevirtual 59, 3) := by decide +kernel
theorem dX2_losePower_14 : decode cX2_losePower 14 = .ok (.aload_n 0, 1) := by decide +kernel
theorem dX2_losePower_15 : decode cX2_losePower 15 = .ok (.dup, 1) := by decide +kernel
theorem dX2_losePower_16 : decode cX2_losePower 16 = .ok (.getfield 42, 3) := by decide +kernel
theorem dX2_losePower_19 : decode cX2_losePower 19 = .ok (.aload_n 0, 1) := by decide +kernel
theorem dX2_losePower_20 : decode cX2_losePower 20 = .ok (.getfield 29, 3) := by decide +kernel
theorem dX2_losePower_23 : decode cX2_losePower 23 = .ok (.iload_n 2, 1) := by decide +kernel
theorem dX2_losePower_24 : decode cX2_losePower 24 = .ok (.isub, 1) := by decide +kernel
theorem dX2_losePower_25 : decode cX2_losePower 25 = .ok (.iadd, 1) := by decide +kernel
theorem dX2_losePower_26 : decode cX2_losePower 26 = .ok (.putfield 42, 3) := by decide +kernel
theorem dX2_losePower_29 : decode cX2_losePower 29 = .ok (.aload_n 0, 1) := by decide +kernel
theorem dX2_losePower_30 : decode cX2_losePower 30 = .ok (.iconst 0, 1) := by decide +kernel
theorem dX2_losePower_31 : decode cX2_losePower 31 = .ok (.putfield 29, 3) := by decide +kernel
theorem dX2_losePower_34 : decode cX2_losePower 34 = .ok (.aload_n 0, 1) := by decide +kernel
theorem dX2_losePower_35 : decode cX2_losePower 35 = .ok (.iconst 0, 1) := by decide +kernel
theorem dX2_losePower_36 : decode cX2_losePower 36 = .ok (.putfield 49, 3) := by decide +kernel
theorem dX2_losePower_39 : decode cX2_losePower 39 = .ok (.aload_n 0, 1) := by decide +kernel
theorem dX2_losePower_40 : decode cX2_losePower 40 = .ok (.iconst 0, 1) := by decide +kernel
theorem dX2_losePower_41 : decode cX2_losePower 41 = .ok (.putfield 25, 3) := by decide +kernel
theorem dX2_losePower_44 : decode cX2_losePower 44 = .ok (.aload_n 0, 1) := by decide +kernel
theorem dX2_losePower_45 : decode cX2_losePower 45 = .ok (.dup, 1) := by decide +kernel
theorem dX2_losePower_46 : decode cX2_losePower 46 = .ok (.getfield 39, 3) := by decide +kernel
theorem dX2_losePower_49 : decode cX2_losePower 49 = .ok (.iconst 1, 1) := by decide +kernel
theorem dX2_losePower_50 : decode cX2_losePower 50 = .ok (.iadd, 1) := by decide +kernel
theorem dX2_losePower_51 : decode cX2_losePower 51 = .ok (.putfield 39, 3) := by decide +kernel
theorem dX2_losePower_54 : decode cX2_losePower 54 = .ok (.aload_n 0, 1) := by decide +kernel
theorem dX2_losePower_55 : decode cX2_losePower 55 = .ok (.getfield 9, 3) := by decide +kernel
theorem dX2_losePower_58 : decode cX2_losePower 58 = .ok (.iconst 0, 1) := by decide +kernel
theorem dX2_losePower_59 : decode cX2_losePower 59 = .ok (.aload_n 0, 1) := by decide +kernel
theorem dX2_losePower_60 : decode cX2_losePower 60 = .ok (.getfield 15, 3) := by decide +kernel
theorem dX2_losePower_63 : decode cX2_losePower 63 = .ok (.iconst 0, 1) := by decide +kernel
theorem dX2_losePower_64 : decode cX2_losePower 64 = .ok (.sipush 1024, 3) := by decide +kernel
theorem dX2_losePower_67 : decode cX2_losePower 67 = .ok (.invokestatic 68, 3) := by decide +kernel
theorem dX2_losePower_70 : decode cX2_losePower 70 = .ok (.return_, 1) := by decide +kernel
theorem dX2_powerUp_0 : decode cX2_powerUp 0 = .ok (.aload_n 0, 1) := by decide +kernel
theorem dX2_powerUp_1 : decode cX2_powerUp 1 = .ok (.iconst 1, 1) := by decide +kernel
theorem dX2_powerUp_2 : decode cX2_powerUp 2 = .ok (.putfield 25, 3) := by decide +kernel
theorem dX2_powerUp_5 : decode cX2_powerUp 5 = .ok (.return_, 1) := by decide +kernel
theorem dX2_settleFirst_0 : decode cX2_settleFirst 0 = .ok (.iconst 0, 1) := by decide +kernel
theorem dX2_settleFirst_1 : decode cX2_settleFirst 1 = .ok (.istore_n 2, 1) := by decide +kernel
theorem dX2_settleFirst_2 : decode cX2_settleFirst 2 = .ok (.iload_n 2, 1) := by decide +kernel
theorem dX2_settleFirst_3 : decode cX2_settleFirst 3 = .ok (.iload_n 1, 1) := by decide +kernel
theorem dX2_settleFirst_4 : decode cX2_settleFirst 4 = .ok (.if_icmp .ge 42, 3) := by decide +kernel
theorem dX2_settleFirst_7 : decode cX2_settleFirst 7 = .ok (.iload_n 2, 1) := by decide +kernel
theorem dX2_settleFirst_8 : decode cX2_settleFirst 8 = .ok (.sipush 320, 3) := by decide +kernel
theorem dX2_settleFirst_11 : decode cX2_settleFirst 11 = .ok (.if_icmp .ge 35, 3) := by decide +kernel
theorem dX2_settleFirst_14 : decode cX2_settleFirst 14 = .ok (.aload_n 0, 1) := by decide +kernel
theorem dX2_settleFirst_15 : decode cX2_settleFirst 15 = .ok (.getfield 18, 3) := by decide +kernel
theorem dX2_settleFirst_18 : decode cX2_settleFirst 18 = .ok (.iload_n 2, 1) := by decide +kernel
theorem dX2_settleFirst_19 : decode cX2_settleFirst 19 = .ok (.iaload, 1) := by decide +kernel
theorem dX2_settleFirst_20 : decode cX2_settleFirst 20 = .ok (.istore_n 3, 1) := by decide +kernel
theorem dX2_settleFirst_21 : decode cX2_settleFirst 21 = .ok (.iload_n 3, 1) := by decide +kernel
theorem dX2_settleFirst_22 : decode cX2_settleFirst 22 = .ok (.invokestatic 45, 3) := by decide +kernel
theorem dX2_settleFirst_25 : decode cX2_settleFirst 25 = .ok (.ifCond .eq 15, 3) := by decide +kernel
theorem dX2_settleFirst_28 : decode cX2_settleFirst 28 = .ok (.aload_n 0, 1) := by decide +kernel
theorem dX2_settleFirst_29 : decode cX2_settleFirst 29 = .ok (.getfield 9, 3) := by decide +kernel
theorem dX2_settleFirst_32 : decode cX2_settleFirst 32 = .ok (.iload_n 3, 1) := by decide +kernel
theorem dX2_settleFirst_33 : decode cX2_settleFirst 33 = .ok (.aload_n 0, 1) := by decide +kernel
theorem dX2_settleFirst_34 : decode cX2_settleFirst 34 = .ok (.getfield 22, 3) := by decide +kernel
theorem dX2_settleFirst_37 : decode cX2_settleFirst 37 = .ok (.iload_n 2, 1) := by decide +kernel
theorem dX2_settleFirst_38 : decode cX2_settleFirst 38 = .ok (.laload, 1) := by decide +kernel
theorem dX2_settleFirst_39 : decode cX2_settleFirst 39 = .ok (.lastore, 1) := by decide +kernel
theorem dX2_settleFirst_40 : decode cX2_settleFirst 40 = .ok (.iinc 2 1, 3) := by decide +kernel
theorem dX2_settleFirst_43 : decode cX2_settleFirst 43 = .ok (.goto (-41), 3) := by decide +kernel
theorem dX2_settleFirst_46 : decode cX2_settleFirst 46 = .ok (.return_, 1) := by decide +kernel
