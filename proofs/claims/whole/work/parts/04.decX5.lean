-- rows of claim/NAMES.whole.lean.txt (starting text): what each instruction is
theorem dX5_init_0 : decode cX5_init 0 = .ok (.aload_n 0, 1) := by decide +kernel
theorem dX5_init_1 : decode cX5_init 1 = .ok (.invokespecial 1, 3) := by decide +kernel
theorem dX5_init_4 : decode cX5_init 4 = .ok (.aload_n 0, 1) := by decide +kernel
theorem dX5_init_5 : decode cX5_init 5 = .ok (.sipush 1024, 3) := by decide +kernel
theorem dX5_init_8 : decode cX5_init 8 = .ok (.newarray .long, 2) := by decide +kernel
theorem dX5_init_10 : decode cX5_init 10 = .ok (.putfield 7, 3) := by decide +kernel
theorem dX5_init_13 : decode cX5_init 13 = .ok (.aload_n 0, 1) := by decide +kernel
theorem dX5_init_14 : decode cX5_init 14 = .ok (.sipush 1024, 3) := by decide +kernel
theorem dX5_init_17 : decode cX5_init 17 = .ok (.newarray .long, 2) := by decide +kernel
theorem dX5_init_19 : decode cX5_init 19 = .ok (.putfield 13, 3) := by decide +kernel
theorem dX5_init_22 : decode cX5_init 22 = .ok (.aload_n 0, 1) := by decide +kernel
theorem dX5_init_23 : decode cX5_init 23 = .ok (.sipush 6000, 3) := by decide +kernel
theorem dX5_init_26 : decode cX5_init 26 = .ok (.newarray .int, 2) := by decide +kernel
theorem dX5_init_28 : decode cX5_init 28 = .ok (.putfield 16, 3) := by decide +kernel
theorem dX5_init_31 : decode cX5_init 31 = .ok (.aload_n 0, 1) := by decide +kernel
theorem dX5_init_32 : decode cX5_init 32 = .ok (.sipush 6000, 3) := by decide +kernel
theorem dX5_init_35 : decode cX5_init 35 = .ok (.newarray .long, 2) := by decide +kernel
theorem dX5_init_37 : decode cX5_init 37 = .ok (.putfield 20, 3) := by decide +kernel
theorem dX5_init_40 : decode cX5_init 40 = .ok (.aload_n 0, 1) := by decide +kernel
theorem dX5_init_41 : decode cX5_init 41 = .ok (.sipush 1024, 3) := by decide +kernel
theorem dX5_init_44 : decode cX5_init 44 = .ok (.newarray .long, 2) := by decide +kernel
theorem dX5_init_46 : decode cX5_init 46 = .ok (.putfield 23, 3) := by decide +kernel
theorem dX5_init_49 : decode cX5_init 49 = .ok (.aload_n 0, 1) := by decide +kernel
theorem dX5_init_50 : decode cX5_init 50 = .ok (.sipush 1024, 3) := by decide +kernel
theorem dX5_init_53 : decode cX5_init 53 = .ok (.newarray .boolean, 2) := by decide +kernel
theorem dX5_init_55 : decode cX5_init 55 = .ok (.putfield 26, 3) := by decide +kernel
theorem dX5_init_58 : decode cX5_init 58 = .ok (.aload_n 0, 1) := by decide +kernel
theorem dX5_init_59 : decode cX5_init 59 = .ok (.sipush 1024, 3) := by decide +kernel
theorem dX5_init_62 : decode cX5_init 62 = .ok (.newarray .long, 2) := by decide +kernel
theorem dX5_init_64 : decode cX5_init 64 = .ok (.putfield 30, 3) := by decide +kernel
theorem dX5_init_67 : decode cX5_init 67 = .ok (.aload_n 0, 1) := by decide +kernel
theorem dX5_init_68 : decode cX5_init 68 = .ok (.iconst 0, 1) := by decide +kernel
theorem dX5_init_69 : decode cX5_init 69 = .ok (.putfield 33, 3) := by decide +kernel
theorem dX5_init_72 : decode cX5_init 72 = .ok (.return_, 1) := by decide +kernel
theorem dX5_thrown_0 : decode cX5_thrown 0 = .ok (.aload_n 0, 1) := by decide +kernel
theorem dX5_thrown_1 : decode cX5_thrown 1 = .ok (.getfield 37, 3) := by decide +kernel
theorem dX5_thrown_4 : decode cX5_thrown 4 = .ok (.ireturn, 1) := by decide +kernel
theorem dX5_settle_0 : decode cX5_settle 0 = .ok (.iconst 0, 1) := by decide +kernel
theorem dX5_settle_1 : decode cX5_settle 1 = .ok (.istore_n 2, 1) := by decide +kernel
theorem dX5_settle_2 : decode cX5_settle 2 = .ok (.iload_n 2, 1) := by decide +kernel
theorem dX5_settle_3 : decode cX5_settle 3 = .ok (.iload_n 1, 1) := by decide +kernel
theorem dX5_settle_4 : decode cX5_settle 4 = .ok (.if_icmp .ge 26, 3) := by decide +kernel
theorem dX5_settle_7 : decode cX5_settle 7 = .ok (.aload_n 0, 1) := by decide +kernel
theorem dX5_settle_8 : decode cX5_settle 8 = .ok (.getfield 7, 3) := by decide +kernel
theorem dX5_settle_11 : decode cX5_settle 11 = .ok (.aload_n 0, 1) := by decide +kernel
theorem dX5_settle_12 : decode cX5_settle 12 = .ok (.getfield 16, 3) := by decide +kernel
theorem dX5_settle_15 : decode cX5_settle 15 = .ok (.iload_n 2, 1) := by decide +kernel
theorem dX5_settle_16 : decode cX5_settle 16 = .ok (.iaload, 1) := by decide +kernel
theorem dX5_settle_17 : decode cX5_settle 17 = .ok (.aload_n 0, 1) := by decide +kernel
theorem dX5_settle_18 : decode cX5_settle 18 = .ok (.getfield 20, 3) := by decide +kernel
theorem dX5_settle_21 : decode cX5_settle 21 = .ok (.iload_n 2, 1) := by decide +kernel
theorem dX5_settle_22 : decode cX5_settle 22 = .ok (.laload, 1) := by decide +kernel
theorem dX5_settle_23 : decode cX5_settle 23 = .ok (.lastore, 1) := by decide +kernel
theorem dX5_settle_24 : decode cX5_settle 24 = .ok (.iinc 2 1, 3) := by decide +kernel
theorem dX5_settle_27 : decode cX5_settle 27 = .ok (.goto (-25), 3) := by decide +kernel
theorem dX5_settle_30 : decode cX5_settle 30 = .ok (.return_, 1) := by decide +kernel
theorem dX5_goOff_0 : decode cX5_goOff 0 = .ok (.iload_n 1, 1) := by decide +kernel
theorem dX5_goOff_1 : decode cX5_goOff 1 = .ok (.aload_n 0, 1) := by decide +kernel
theorem dX5_goOff_2 : decode cX5_goOff 2 = .ok (.getfield 41, 3) := by decide +kernel
theorem dX5_goOff_5 : decode cX5_goOff 5 = .ok (.if_icmp .ge 7, 3) := by decide +kernel
theorem dX5_goOff_8 : decode cX5_goOff 8 = .ok (.iload_n 1, 1) := by decide +kernel
theorem dX5_goOff_9 : decode cX5_goOff 9 = .ok (.goto 7, 3) := by decide +kernel
theorem dX5_goOff_12 : decode cX5_goOff 12 = .ok (.aload_n 0, 1) := by decide +kernel
theorem dX5_goOff_13 : decode cX5_goOff 13 = .ok (.getfield 41, 3) := by decide +kernel
theorem dX5_goOff_16 : decode cX5_goOff 16 = .ok (.istore_n 2, 1) := by decide +kernel
theorem dX5_goOff_17 : decode cX5_goOff 17 = .ok (.aload_n 0, 1) := by decide +kernel
theorem dX5_goOff_18 : decode cX5_goOff 18 = .ok (.iload_n 2, 1) := by decide +kernel
theorem dX5_goOff_19 : decode cX5_goOff 19 = .ok (.invokevirtual 44, 3) := by decide +kernel
theorem dX5_goOff_22 : decode cX5_goOff 22 = .ok (.aload_n 0, 1) := by decide +kernel
theorem dX5_goOff_23 : decode cX5_goOff 23 = .ok (.dup, 1) := by decide +kernel
theorem dX5_goOff_24 : decode cX5_goOff 24 = .ok (.getfield 48, 3) := by decide +kernel
theorem dX5_goOff_27 : decode cX5_goOff 27 = .ok (.aload_n 0, 1) := by decide +kernel
theorem dX5_goOff_28 : decode cX5_goOff 28 = .ok (.getfield 41, 3) := by decide +kernel
theorem dX5_goOff_31 : decode cX5_goOff 31 = .ok (.iload_n 2, 1) := by decide +kernel
theorem dX5_goOff_32 : decode cX5_goOff 32 = .ok (.isub, 1) := by decide +kernel
theorem dX5_goOff_33 : decode cX5_goOff 33 = .ok (.iadd, 1) := by decide +kernel
theorem dX5_goOff_34 : decode cX5_goOff 34 = .ok (.putfield 48, 3) := by decide +kernel
theorem dX5_goOff_37 : decode cX5_goOff 37 = .ok (.aload_n 0, 1) := by decide +kernel
theorem dX5_goOff_38 : decode cX5_goOff 38 = .ok (.iconst 0, 1) := by decide +kernel
theorem dX5_goOff_39 : decode cX5_goOff 39 = .ok (.putfield 41, 3) := by decide +kernel
theorem dX5_goOff_42 : decode cX5_goOff 42 = .ok (.aload_n 0, 1) := by decide +kernel
theorem dX5_goOff_43 : decode cX5_goOff 43 = .ok (.iconst 0, 1) := by decide +kernel
theorem dX5_goOff_44 : decode cX5_goOff 44 = .ok (.putfield 51, 3) := by decide +kernel
theorem dX5_goOff_47 : decode cX5_goOff 47 = .ok (.aload_n 0, 1) := by decide +kernel
theorem dX5_goOff_48 : decode cX5_goOff 48 = .ok (.iconst 0, 1) := by decide +kernel
theorem dX5_goOff_49 : decode cX5_goOff 49 = .ok (.putfield 33, 3) := by decide +kernel
theorem dX5_goOff_52 : decode cX5_goOff 52 = .ok (.aload_n 0, 1) := by decide +kernel
theorem dX5_goOff_53 : decode cX5_goOff 53 = .ok (.dup, 1) := by decide +kernel
theorem dX5_goOff_54 : decode cX5_goOff 54 = .ok (.getfield 54, 3) := by decide +kernel
theorem dX5_goOff_57 : decode cX5_goOff 57 = .ok (.iconst 1, 1) := by decide +kernel
theorem dX5_goOff_58 : decode cX5_goOff 58 = .ok (.iadd, 1) := by decide +kernel
theorem dX5_goOff_59 : decode cX5_goOff 59 = .ok (.putfield 54, 3) := by decide +kernel
theorem dX5_goOff_62 : decode cX5_goOff 62 = .ok (.aload_n 0, 1) := by decide +kernel
theorem dX5_goOff_63 : decode cX5_goOff 63 = .ok (.invokevirtual 57, 3) := by decide +kernel
theorem dX5_goOff_66 : decode cX5_goOff 66 = .ok (.iconst 0, 1) := by decide +kernel
theorem dX5_goOff_67 : decode cX5_goOff 67 = .ok (.istore_n 3, 1) := by decide +kernel
theorem dX5_goOff_68 : decode cX5_goOff 68 = .ok (.iload_n 3, 1) := by decide +kernel
theorem dX5_goOff_69 : decode cX5_goOff 69 = .ok (.sipush 1024, 3) := by decide +kernel
theorem dX5_goOff_72 : decode cX5_goOff 72 = .ok (.if_icmp .ge 21, 3) := by decide +kernel
theorem dX5_goOff_75 : decode cX5_goOff 75 = .ok (.aload_n 0, 1) := by decide +kernel
theorem dX5_goOff_76 : decode cX5_goOff 76 = .ok (.getfield 13, 3) := by decide +kernel
theorem dX5_goOff_79 : decode cX5_goOff 79 = .ok (.iload_n 3, 1) := by decide +kernel
theorem dX5_goOff_80 : decode cX5_goOff 80 = .ok (.aload_n 0, 1) := by decide +kernel
theorem dX5_goOff_81 : decode cX5_goOff 81 = .ok (.getfield 7, 3) := by decide +kernel
theorem dX5_goOff_84 : decode cX5_goOff 84 = .ok (.iload_n 3, 1) := by decide +kernel
theorem dX5_goOff_85 : decode cX5_goOff 85 = .ok (.laload, 1) := by decide +kernel
theorem dX5_goOff_86 : decode cX5_goOff 86 = .ok (.lastore, 1) := by decide +kernel
theorem dX5_goOff_87 : decode cX5_goOff 87 = .ok (.iinc 3 1, 3) := by decide +kernel
theorem dX5_goOff_90 : decode cX5_goOff 90 = .ok (.goto (-22), 3) := by decide +kernel
theorem dX5_goOff_93 : decode cX5_goOff 93 = .ok (.return_, 1) := by decide +kernel
theorem dX5_write_0 : decode cX5_write 0 = .ok (.aload_n 0, 1) := by decide +kernel
theorem dX5_write_1 : decode cX5_write 1 = .ok (.getfield 13, 3) := by decide +kernel
theorem dX5_write_4 : decode cX5_write 4 = .ok (.iload_n 1, 1) := by decide +kernel
theorem dX5_write_5 : decode cX5_write 5 = .ok (.lload_n 2, 1) := by decide +kernel
theorem dX5_write_6 : decode cX5_write 6 = .ok (.lastore, 1) := by decide +kernel
theorem dX5_write_7 : decode cX5_write 7 = .ok (.aload_n 0, 1) := by decide +kernel
theorem dX5_write_8 : decode cX5_write 8 = .ok (.getfield 16, 3) := by decide +kernel
theorem dX5_write_11 : decode cX5_write 11 = .ok (.aload_n 0, 1) := by decide +kernel
theorem dX5_write_12 : decode cX5_write 12 = .ok (.getfield 41, 3) := by decide +kernel
theorem dX5_write_15 : decode cX5_write 15 = .ok (.iload_n 1, 1) := by decide +kernel
theorem dX5_write_16 : decode cX5_write 16 = .ok (.iastore, 1) := by decide +kernel
theorem dX5_write_17 : decode cX5_write 17 = .ok (.aload_n 0, 1) := by decide +kernel
theorem dX5_write_18 : decode cX5_write 18 = .ok (.getfield 20, 3) := by decide +kernel
theorem dX5_write_21 : decode cX5_write 21 = .ok (.aload_n 0, 1) := by decide +kernel
theorem dX5_write_22 : decode cX5_write 22 = .ok (.getfield 41, 3) := by decide +kernel
theorem dX5_write_25 : decode cX5_write 25 = .ok (.lload_n 2, 1) := by decide +kernel
theorem dX5_write_26 : decode cX5_write 26 = .ok (.lastore, 1) := by decide +kernel
theorem dX5_write_27 : decode cX5_write 27 = .ok (.aload_n 0, 1) := by decide +kernel
theorem dX5_write_28 : decode cX5_write 28 = .ok (.dup, 1) := by decide +kernel
theorem dX5_write_29 : decode cX5_write 29 = .ok (.getfield 41, 3) := by decide +kernel
theorem dX5_write_32 : decode cX5_write 32 = .ok (.iconst 1, 1) := by decide +kernel
theorem dX5_write_33 : decode cX5_write 33 = .ok (.iadd, 1) := by decide +kernel
theorem dX5_write_34 : decode cX5_write 34 = .ok (.putfield 41, 3) := by decide +kernel
theorem dX5_write_37 : decode cX5_write 37 = .ok (.aload_n 0, 1) := by decide +kernel
theorem dX5_write_38 : decode cX5_write 38 = .ok (.dup, 1) := by decide +kernel
theorem dX5_write_39 : decode cX5_write 39 = .ok (.getfield 60, 3) := by decide +kernel
theorem dX5_write_42 : decode cX5_write 42 = .ok (.iconst 1, 1) := by decide +kernel
theorem dX5_write_43 : decode cX5_write 43 = .ok (.iadd, 1) := by decide +kernel
theorem dX5_write_44 : decode cX5_write 44 = .ok (.putfield 60, 3) := by decide +kernel
theorem dX5_write_47 : decode cX5_write 47 = .ok (.aload_n 0, 1) := by decide +kernel
theorem dX5_write_48 : decode cX5_write 48 = .ok (.getfield 51, 3) := by decide +kernel
theorem dX5_write_51 : decode cX5_write 51 = .ok (.ifCond .le 30, 3) := by decide +kernel
theorem dX5_write_54 : decode cX5_write 54 = .ok (.aload_n 0, 1) := by decide +kernel
theorem dX5_write_55 : decode cX5_write 55 = .ok (.dup, 1) := by decide +kernel
theorem dX5_write_56 : decode cX5_write 56 = .ok (.getfield 51, 3) := by decide +kernel
theorem dX5_write_59 : decode cX5_write 59 = .ok (.iconst 1, 1) := by decide +kernel
theorem dX5_write_60 : decode cX5_write 60 = .ok (.isub, 1) := by decide +kernel
theorem dX5_write_61 : decode cX5_write 61 = .ok (.putfield 51, 3) := by decide +kernel
theorem dX5_write_64 : decode cX5_write 64 = .ok (.aload_n 0, 1) := by decide +kernel
theorem dX5_write_65 : decode cX5_write 65 = .ok (.getfield 51, 3) := by decide +kernel
theorem dX5_write_68 : decode cX5_write 68 = .ok (.ifCond .ne 13, 3) := by decide +kernel
theorem dX5_write_71 : decode cX5_write 71 = .ok (.aload_n 0, 1) := by decide +kernel
theorem dX5_write_72 : decode cX5_write 72 = .ok (.aload_n 0, 1) := by decide +kernel
theorem dX5_write_73 : decode cX5_write 73 = .ok (.getfield 63, 3) := by decide +kernel
theorem dX5_write_76 : decode cX5_write 76 = .ok (.invokevirtual 66, 3) := by decide +kernel
theorem dX5_write_79 : decode cX5_write 79 = .ok (.iconst 0, 1) := by decide +kernel
theorem dX5_write_80 : decode cX5_write 80 = .ok (.ireturn, 1) := by decide +kernel
theorem dX5_write_81 : decode cX5_write 81 = .ok (.iconst 1, 1) := by decide +kernel
theorem dX5_write_82 : decode cX5_write 82 = .ok (.ireturn, 1) := by decide +kernel
theorem dX5_syncAll_0 : decode cX5_syncAll 0 = .ok (.aload_n 0, 1) := by decide +kernel
theorem dX5_syncAll_1 : decode cX5_syncAll 1 = .ok (.getfield 41, 3) := by decide +kernel
theorem dX5_syncAll_4 : decode cX5_syncAll 4 = .ok (.istore_n 1, 1) := by decide +kernel
theorem dX5_syncAll_5 : decode cX5_syncAll 5 = .ok (.aload_n 0, 1) := by decide +kernel
theorem dX5_syncAll_6 : decode cX5_syncAll 6 = .ok (.iload_n 1, 1) := by decide +kernel
theorem dX5_syncAll_7 : decode cX5_syncAll 7 = .ok (.invokevirtual 44, 3) := by decide +kernel
theorem dX5_syncAll_10 : decode cX5_syncAll 10 = .ok (.aload_n 0, 1) := by decide +kernel
theorem dX5_syncAll_11 : decode cX5_syncAll 11 = .ok (.iconst 0, 1) := by decide +kernel
theorem dX5_syncAll_12 : decode cX5_syncAll 12 = .ok (.putfield 41, 3) := by decide +kernel
theorem dX5_syncAll_15 : decode cX5_syncAll 15 = .ok (.aload_n 0, 1) := by decide +kernel
theorem dX5_syncAll_16 : decode cX5_syncAll 16 = .ok (.dup, 1) := by decide +kernel
theorem dX5_syncAll_17 : decode cX5_syncAll 17 = .ok (.getfield 69, 3) := by decide +kernel
theorem dX5_syncAll_20 : decode cX5_syncAll 20 = .ok (.iconst 1, 1) := by decide +kernel
theorem dX5_syncAll_21 : decode cX5_syncAll 21 = .ok (.iadd, 1) := by decide +kernel
theorem dX5_syncAll_22 : decode cX5_syncAll 22 = .ok (.putfield 69, 3) := by decide +kernel
theorem dX5_syncAll_25 : decode cX5_syncAll 25 = .ok (.iload_n 1, 1) := by decide +kernel
theorem dX5_syncAll_26 : decode cX5_syncAll 26 = .ok (.ireturn, 1) := by decide +kernel
theorem dX5_drop_0 : decode cX5_drop 0 = .ok (.aload_n 0, 1) := by decide +kernel
theorem dX5_drop_1 : decode cX5_drop 1 = .ok (.iconst 0, 1) := by decide +kernel
theorem dX5_drop_2 : decode cX5_drop 2 = .ok (.putfield 72, 3) := by decide +kernel
theorem dX5_drop_5 : decode cX5_drop 5 = .ok (.aload_n 0, 1) := by decide +kernel
theorem dX5_drop_6 : decode cX5_drop 6 = .ok (.iconst 0, 1) := by decide +kernel
theorem dX5_drop_7 : decode cX5_drop 7 = .ok (.putfield 75, 3) := by decide +kernel
theorem dX5_drop_10 : decode cX5_drop 10 = .ok (.iconst 0, 1) := by decide +kernel
theorem dX5_drop_11 : decode cX5_drop 11 = .ok (.istore_n 1, 1) := by decide +kernel
theorem dX5_drop_12 : decode cX5_drop 12 = .ok (.iload_n 1, 1) := by decide +kernel
theorem dX5_drop_13 : decode cX5_drop 13 = .ok (.sipush 1024, 3) := by decide +kernel
theorem dX5_drop_16 : decode cX5_drop 16 = .ok (.if_icmp .ge 16, 3) := by decide +kernel
theorem dX5_drop_19 : decode cX5_drop 19 = .ok (.aload_n 0, 1) := by decide +kernel
theorem dX5_drop_20 : decode cX5_drop 20 = .ok (.getfield 26, 3) := by decide +kernel
theorem dX5_drop_23 : decode cX5_drop 23 = .ok (.iload_n 1, 1) := by decide +kernel
theorem dX5_drop_24 : decode cX5_drop 24 = .ok (.iconst 0, 1) := by decide +kernel
theorem dX5_drop_25 : decode cX5_drop 25 = .ok (.bastore, 1) := by decide +kernel
theorem dX5_drop_26 : decode cX5_drop 26 = .ok (.iinc 1 1, 3) := by decide +kernel
theorem dX5_drop_29 : decode cX5_drop 29 = .ok (.goto (-17), 3) := by decide +kernel
theorem dX5_drop_32 : decode cX5_drop 32 = .ok (.return_, 1) := by decide +kernel
theorem dX5_at_0 : decode cX5_at 0 = .ok (.aload_n 0, 1) := by decide +kernel
theorem dX5_at_1 : decode cX5_at 1 = .ok (.getfield 72, 3) := by decide +kernel
theorem dX5_at_4 : decode cX5_at 4 = .ok (.ifCond .eq 21, 3) := by decide +kernel
theorem dX5_at_7 : decode cX5_at 7 = .ok (.aload_n 0, 1) := by decide +kernel
theorem dX5_at_8 : decode cX5_at 8 = .ok (.getfield 26, 3) := by decide +kernel
theorem dX5_at_11 : decode cX5_at 11 = .ok (.iload_n 1, 1) := by decide +kernel
theorem dX5_at_12 : decode cX5_at 12 = .ok (.baload, 1) := by decide +kernel
theorem dX5_at_13 : decode cX5_at 13 = .ok (.ifCond .eq 12, 3) := by decide +kernel
theorem dX5_at_16 : decode cX5_at 16 = .ok (.aload_n 0, 1) := by decide +kernel
theorem dX5_at_17 : decode cX5_at 17 = .ok (.getfield 30, 3) := by decide +kernel
theorem dX5_at_20 : decode cX5_at 20 = .ok (.iload_n 1, 1) := by decide +kernel
theorem dX5_at_21 : decode cX5_at 21 = .ok (.laload, 1) := by decide +kernel
theorem dX5_at_22 : decode cX5_at 22 = .ok (.goto 9, 3) := by decide +kernel
theorem dX5_at_25 : decode cX5_at 25 = .ok (.aload_n 0, 1) := by decide +kernel
theorem dX5_at_26 : decode cX5_at 26 = .ok (.getfield 23, 3) := by decide +kernel
theorem dX5_at_29 : decode cX5_at 29 = .ok (.iload_n 1, 1) := by decide +kernel
theorem dX5_at_30 : decode cX5_at 30 = .ok (.laload, 1) := by decide +kernel
theorem dX5_at_31 : decode cX5_at 31 = .ok (.lreturn, 1) := by decide +kernel
theorem dX5_sizeAt_0 : decode cX5_sizeAt 0 = .ok (.aload_n 0, 1) := by decide +kernel
theorem dX5_sizeAt_1 : decode cX5_sizeAt 1 = .ok (.iload_n 1, 1) := by decide +kernel
theorem dX5_sizeAt_2 : decode cX5_sizeAt 2 = .ok (.invokevirtual 78, 3) := by decide +kernel
theorem dX5_sizeAt_5 : decode cX5_sizeAt 5 = .ok (.ldc2_w 82, 3) := by decide +kernel
theorem dX5_sizeAt_8 : decode cX5_sizeAt 8 = .ok (.ldiv, 1) := by decide +kernel
theorem dX5_sizeAt_9 : decode cX5_sizeAt 9 = .ok (.l2i, 1) := by decide +kernel
theorem dX5_sizeAt_10 : decode cX5_sizeAt 10 = .ok (.ireturn, 1) := by decide +kernel
theorem dX5_isUsedAt_0 : decode cX5_isUsedAt 0 = .ok (.aload_n 0, 1) := by decide +kernel
theorem dX5_isUsedAt_1 : decode cX5_isUsedAt 1 = .ok (.iload_n 1, 1) := by decide +kernel
theorem dX5_isUsedAt_2 : decode cX5_isUsedAt 2 = .ok (.invokevirtual 78, 3) := by decide +kernel
theorem dX5_isUsedAt_5 : decode cX5_isUsedAt 5 = .ok (.ldc2_w 82, 3) := by decide +kernel
theorem dX5_isUsedAt_8 : decode cX5_isUsedAt 8 = .ok (.lrem, 1) := by decide +kernel
theorem dX5_isUsedAt_9 : decode cX5_isUsedAt 9 = .ok (.lconst 0, 1) := by decide +kernel
theorem dX5_isUsedAt_10 : decode cX5_isUsedAt 10 = .ok (.lcmp, 1) := by decide +kernel
theorem dX5_isUsedAt_11 : decode cX5_isUsedAt 11 = .ok (.ifCond .eq 7, 3) := by decide +kernel
theorem dX5_isUsedAt_14 : decode cX5_isUsedAt 14 = .ok (.iconst 1, 1) := by decide +kernel
theorem dX5_isUsedAt_15 : decode cX5_isUsedAt 15 = .ok (.goto 4, 3) := by decide +kernel
theorem dX5_isUsedAt_18 : decode cX5_isUsedAt 18 = .ok (.iconst 0, 1) := by decide +kernel
theorem dX5_isUsedAt_19 : decode cX5_isUsedAt 19 = .ok (.ireturn, 1) := by decide +kernel
theorem dX5_usedHead_0 : decode cX5_usedHead 0 = .ok (.sipush 176, 3) := by decide +kernel
theorem dX5_usedHead_3 : decode cX5_usedHead 3 = .ok (.istore_n 2, 1) := by decide +kernel
theorem dX5_usedHead_4 : decode cX5_usedHead 4 = .ok (.iload_n 2, 1) := by decide +kernel
theorem dX5_usedHead_5 : decode cX5_usedHead 5 = .ok (.sipush 1024, 3) := by decide +kernel
theorem dX5_usedHead_8 : decode cX5_usedHead 8 = .ok (.if_icmp .ge 23, 3) := by decide +kernel
theorem dX5_usedHead_11 : decode cX5_usedHead 11 = .ok (.iload_n 2, 1) := by decide +kernel
theorem dX5_usedHead_12 : decode cX5_usedHead 12 = .ok (.iconst 1, 1) := by decide +kernel
theorem dX5_usedHead_13 : decode cX5_usedHead 13 = .ok (.iadd, 1) := by decide +kernel
theorem dX5_usedHead_14 : decode cX5_usedHead 14 = .ok (.iload_n 1, 1) := by decide +kernel
theorem dX5_usedHead_15 : decode cX5_usedHead 15 = .ok (.if_icmp .eq 16, 3) := by decide +kernel
theorem dX5_usedHead_18 : decode cX5_usedHead 18 = .ok (.iload_n 2, 1) := by decide +kernel
theorem dX5_usedHead_19 : decode cX5_usedHead 19 = .ok (.aload_n 0, 1) := by decide +kernel
theorem dX5_usedHead_20 : decode cX5_usedHead 20 = .ok (.iload_n 2, 1) := by decide +kernel
theorem dX5_usedHead_21 : decode cX5_usedHead 21 = .ok (.invokevirtual 84, 3) := by decide +kernel
theorem dX5_usedHead_24 : decode cX5_usedHead 24 = .ok (.iconst 1, 1) := by decide +kernel
theorem dX5_usedHead_25 : decode cX5_usedHead 25 = .ok (.iadd, 1) := by decide +kernel
theorem dX5_usedHead_26 : decode cX5_usedHead 26 = .ok (.iadd, 1) := by decide +kernel
theorem dX5_usedHead_27 : decode cX5_usedHead 27 = .ok (.istore_n 2, 1) := by decide +kernel
theorem dX5_usedHead_28 : decode cX5_usedHead 28 = .ok (.goto (-24), 3) := by decide +kernel
theorem dX5_usedHead_31 : decode cX5_usedHead 31 = .ok (.iload_n 2, 1) := by decide +kernel
theorem dX5_usedHead_32 : decode cX5_usedHead 32 = .ok (.sipush 1024, 3) := by decide +kernel
theorem dX5_usedHead_35 : decode cX5_usedHead 35 = .ok (.if_icmp .ge 15, 3) := by decide +kernel
theorem dX5_usedHead_38 : decode cX5_usedHead 38 = .ok (.aload_n 0, 1) := by decide +kernel
theorem dX5_usedHead_39 : decode cX5_usedHead 39 = .ok (.iload_n 2, 1) := by decide +kernel
theorem dX5_usedHead_40 : decode cX5_usedHead 40 = .ok (.invokevirtual 88, 3) := by decide +kernel
theorem dX5_usedHead_43 : decode cX5_usedHead 43 = .ok (.ifCond .eq 7, 3) := by decide +kernel
theorem dX5_usedHead_46 : decode cX5_usedHead 46 = .ok (.iload_n 2, 1) := by decide +kernel
theorem dX5_usedHead_47 : decode cX5_usedHead 47 = .ok (.goto 4, 3) := by decide +kernel
theorem dX5_usedHead_50 : decode cX5_usedHead 50 = .ok (.iconst (-1), 1) := by decide +kernel
theorem dX5_usedHead_51 : decode cX5_usedHead 51 = .ok (.ireturn, 1) := by decide +kernel
theorem dX5_isMore_0 : decode cX5_isMore 0 = .ok (.aload_n 0, 1) := by decide +kernel
theorem dX5_isMore_1 : decode cX5_isMore 1 = .ok (.getfield 26, 3) := by decide +kernel
theorem dX5_isMore_4 : decode cX5_isMore 4 = .ok (.iload_n 1, 1) := by decide +kernel
theorem dX5_isMore_5 : decode cX5_isMore 5 = .ok (.baload, 1) := by decide +kernel
theorem dX5_isMore_6 : decode cX5_isMore 6 = .ok (.ifCond .ne 18, 3) := by decide +kernel
theorem dX5_isMore_9 : decode cX5_isMore 9 = .ok (.aload_n 0, 1) := by decide +kernel
theorem dX5_isMore_10 : decode cX5_isMore 10 = .ok (.getfield 23, 3) := by decide +kernel
theorem dX5_isMore_13 : decode cX5_isMore 13 = .ok (.iload_n 1, 1) := by decide +kernel
theorem dX5_isMore_14 : decode cX5_isMore 14 = .ok (.laload, 1) := by decide +kernel
theorem dX5_isMore_15 : decode cX5_isMore 15 = .ok (.lload_n 2, 1) := by decide +kernel
theorem dX5_isMore_16 : decode cX5_isMore 16 = .ok (.lcmp, 1) := by decide +kernel
theorem dX5_isMore_17 : decode cX5_isMore 17 = .ok (.ifCond .eq 7, 3) := by decide +kernel
theorem dX5_isMore_20 : decode cX5_isMore 20 = .ok (.iconst 1, 1) := by decide +kernel
theorem dX5_isMore_21 : decode cX5_isMore 21 = .ok (.goto 4, 3) := by decide +kernel
theorem dX5_isMore_24 : decode cX5_isMore 24 = .ok (.iconst 0, 1) := by decide +kernel
theorem dX5_isMore_25 : decode cX5_isMore 25 = .ok (.ireturn, 1) := by decide +kernel
theorem dX5_become_0 : decode cX5_become 0 = .ok (.aload_n 0, 1) := by decide +kernel
theorem dX5_become_1 : decode cX5_become 1 = .ok (.getfield 26, 3) := by decide +kernel
theorem dX5_become_4 : decode cX5_become 4 = .ok (.iload_n 1, 1) := by decide +kernel
theorem dX5_become_5 : decode cX5_become 5 = .ok (.baload, 1) := by decide +kernel
theorem dX5_become_6 : decode cX5_become 6 = .ok (.ifCond .ne 14, 3) := by decide +kernel
theorem dX5_become_9 : decode cX5_become 9 = .ok (.aload_n 0, 1) := by decide +kernel
theorem dX5_become_10 : decode cX5_become 10 = .ok (.getfield 23, 3) := by decide +kernel
theorem dX5_become_13 : decode cX5_become 13 = .ok (.iload_n 1, 1) := by decide +kernel
theorem dX5_become_14 : decode cX5_become 14 = .ok (.laload, 1) := by decide +kernel
theorem dX5_become_15 : decode cX5_become 15 = .ok (.lload_n 2, 1) := by decide +kernel
theorem dX5_become_16 : decode cX5_become 16 = .ok (.lcmp, 1) := by decide +kernel
theorem dX5_become_17 : decode cX5_become 17 = .ok (.ifCond .eq 40, 3) := by decide +kernel
theorem dX5_become_20 : decode cX5_become 20 = .ok (.aload_n 0, 1) := by decide +kernel
theorem dX5_become_21 : decode cX5_become 21 = .ok (.dup, 1) := by decide +kernel
theorem dX5_become_22 : decode cX5_become 22 = .ok (.getfield 75, 3) := by decide +kernel
theorem dX5_become_25 : decode cX5_become 25 = .ok (.aload_n 0, 1) := by decide +kernel
theorem dX5_become_26 : decode cX5_become 26 = .ok (.getfield 26, 3) := by decide +kernel
theorem dX5_become_29 : decode cX5_become 29 = .ok (.iload_n 1, 1) := by decide +kernel
theorem dX5_become_30 : decode cX5_become 30 = .ok (.baload, 1) := by decide +kernel
theorem dX5_become_31 : decode cX5_become 31 = .ok (.ifCond .eq 7, 3) := by decide +kernel
theorem dX5_become_34 : decode cX5_become 34 = .ok (.iconst 0, 1) := by decide +kernel
theorem dX5_become_35 : decode cX5_become 35 = .ok (.goto 4, 3) := by decide +kernel
theorem dX5_become_38 : decode cX5_become 38 = .ok (.iconst 1, 1) := by decide +kernel
theorem dX5_become_39 : decode cX5_become 39 = .ok (.iadd, 1) := by decide +kernel
theorem dX5_become_40 : decode cX5_become 40 = .ok (.putfield 75, 3) := by decide +kernel
theorem dX5_become_43 : decode cX5_become 43 = .ok (.aload_n 0, 1) := by decide +kernel
theorem dX5_become_44 : decode cX5_become 44 = .ok (.getfield 26, 3) := by decide +kernel
theorem dX5_become_47 : decode cX5_become 47 = .ok (.iload_n 1, 1) := by decide +kernel
theorem dX5_become_48 : decode cX5_become 48 = .ok (.iconst 1, 1) := by decide +kernel
theorem dX5_become_49 : decode cX5_become 49 = .ok (.bastore, 1) := by decide +kernel
theorem dX5_become_50 : decode cX5_become 50 = .ok (.aload_n 0, 1) := by decide +kernel
theorem dX5_become_51 : decode cX5_become 51 = .ok (.getfield 30, 3) := by decide +kernel
theorem dX5_become_54 : decode cX5_become 54 = .ok (.iload_n 1, 1) := by decide +kernel
theorem dX5_become_55 : decode cX5_become 55 = .ok (.lload_n 2, 1) := by decide +kernel
theorem dX5_become_56 : decode cX5_become 56 = .ok (.lastore, 1) := by decide +kernel
theorem dX5_become_57 : decode cX5_become 57 = .ok (.return_, 1) := by decide +kernel
theorem dX5_tryOne_0 : decode cX5_tryOne 0 = .ok (.aload_n 0, 1) := by decide +kernel
theorem dX5_tryOne_1 : decode cX5_tryOne 1 = .ok (.iload_n 1, 1) := by decide +kernel
theorem dX5_tryOne_2 : decode cX5_tryOne 2 = .ok (.lload_n 2, 1) := by decide +kernel
theorem dX5_tryOne_3 : decode cX5_tryOne 3 = .ok (.invokevirtual 92, 3) := by decide +kernel
theorem dX5_tryOne_6 : decode cX5_tryOne 6 = .ok (.ifCond .eq 14, 3) := by decide +kernel
theorem dX5_tryOne_9 : decode cX5_tryOne 9 = .ok (.aload_n 0, 1) := by decide +kernel
theorem dX5_tryOne_10 : decode cX5_tryOne 10 = .ok (.getfield 75, 3) := by decide +kernel
theorem dX5_tryOne_13 : decode cX5_tryOne 13 = .ok (.bipush 96, 2) := by decide +kernel
theorem dX5_tryOne_15 : decode cX5_tryOne 15 = .ok (.if_icmp .ne 5, 3) := by decide +kernel
theorem dX5_tryOne_18 : decode cX5_tryOne 18 = .ok (.iconst 0, 1) := by decide +kernel
theorem dX5_tryOne_19 : decode cX5_tryOne 19 = .ok (.ireturn, 1) := by decide +kernel
theorem dX5_tryOne_20 : decode cX5_tryOne 20 = .ok (.aload_n 0, 1) := by decide +kernel
theorem dX5_tryOne_21 : decode cX5_tryOne 21 = .ok (.iload_n 1, 1) := by decide +kernel
theorem dX5_tryOne_22 : decode cX5_tryOne 22 = .ok (.lload_n 2, 1) := by decide +kernel
theorem dX5_tryOne_23 : decode cX5_tryOne 23 = .ok (.invokevirtual 96, 3) := by decide +kernel
theorem dX5_tryOne_26 : decode cX5_tryOne 26 = .ok (.iconst 1, 1) := by decide +kernel
theorem dX5_tryOne_27 : decode cX5_tryOne 27 = .ok (.ireturn, 1) := by decide +kernel
theorem dX5_begin_0 : decode cX5_begin 0 = .ok (.aload_n 0, 1) := by decide +kernel
theorem dX5_begin_1 : decode cX5_begin 1 = .ok (.aload_n 0, 1) := by decide +kernel
theorem dX5_begin_2 : decode cX5_begin 2 = .ok (.getfield 33, 3) := by decide +kernel
theorem dX5_begin_5 : decode cX5_begin 5 = .ok (.ifCond .eq 10, 3) := by decide +kernel
theorem dX5_begin_8 : decode cX5_begin 8 = .ok (.aload_n 0, 1) := by decide +kernel
theorem dX5_begin_9 : decode cX5_begin 9 = .ok (.getfield 72, 3) := by decide +kernel
theorem dX5_begin_12 : decode cX5_begin 12 = .ok (.ifCond .eq 7, 3) := by decide +kernel
theorem dX5_begin_15 : decode cX5_begin 15 = .ok (.iconst 1, 1) := by decide +kernel
theorem dX5_begin_16 : decode cX5_begin 16 = .ok (.goto 4, 3) := by decide +kernel
theorem dX5_begin_19 : decode cX5_begin 19 = .ok (.iconst 0, 1) := by decide +kernel
theorem dX5_begin_20 : decode cX5_begin 20 = .ok (.putfield 37, 3) := by decide +kernel
theorem dX5_begin_23 : decode cX5_begin 23 = .ok (.aload_n 0, 1) := by decide +kernel
theorem dX5_begin_24 : decode cX5_begin 24 = .ok (.getfield 37, 3) := by decide +kernel
theorem dX5_begin_27 : decode cX5_begin 27 = .ok (.ifCond .le 5, 3) := by decide +kernel
theorem dX5_begin_30 : decode cX5_begin 30 = .ok (.iconst 0, 1) := by decide +kernel
theorem dX5_begin_31 : decode cX5_begin 31 = .ok (.ireturn, 1) := by decide +kernel
theorem dX5_begin_32 : decode cX5_begin 32 = .ok (.aload_n 0, 1) := by decide +kernel
theorem dX5_begin_33 : decode cX5_begin 33 = .ok (.invokevirtual 57, 3) := by decide +kernel
theorem dX5_begin_36 : decode cX5_begin 36 = .ok (.aload_n 0, 1) := by decide +kernel
theorem dX5_begin_37 : decode cX5_begin 37 = .ok (.iconst 1, 1) := by decide +kernel
theorem dX5_begin_38 : decode cX5_begin 38 = .ok (.putfield 72, 3) := by decide +kernel
theorem dX5_begin_41 : decode cX5_begin 41 = .ok (.aload_n 0, 1) := by decide +kernel
theorem dX5_begin_42 : decode cX5_begin 42 = .ok (.getfield 100, 3) := by decide +kernel
theorem dX5_begin_45 : decode cX5_begin 45 = .ok (.lconst 1, 1) := by decide +kernel
theorem dX5_begin_46 : decode cX5_begin 46 = .ok (.ladd, 1) := by decide +kernel
theorem dX5_begin_47 : decode cX5_begin 47 = .ok (.l2i, 1) := by decide +kernel
theorem dX5_begin_48 : decode cX5_begin 48 = .ok (.ireturn, 1) := by decide +kernel
theorem dX5_isShut_0 : decode cX5_isShut 0 = .ok (.aload_n 0, 1) := by decide +kernel
theorem dX5_isShut_1 : decode cX5_isShut 1 = .ok (.getfield 33, 3) := by decide +kernel
theorem dX5_isShut_4 : decode cX5_isShut 4 = .ok (.ifCond .eq 10, 3) := by decide +kernel
theorem dX5_isShut_7 : decode cX5_isShut 7 = .ok (.aload_n 0, 1) := by decide +kernel
theorem dX5_isShut_8 : decode cX5_isShut 8 = .ok (.getfield 72, 3) := by decide +kernel
theorem dX5_isShut_11 : decode cX5_isShut 11 = .ok (.ifCond .ne 7, 3) := by decide +kernel
theorem dX5_isShut_14 : decode cX5_isShut 14 = .ok (.iconst 1, 1) := by decide +kernel
theorem dX5_isShut_15 : decode cX5_isShut 15 = .ok (.goto 4, 3) := by decide +kernel
theorem dX5_isShut_18 : decode cX5_isShut 18 = .ok (.iconst 0, 1) := by decide +kernel
theorem dX5_isShut_19 : decode cX5_isShut 19 = .ok (.ireturn, 1) := by decide +kernel
theorem dX5_take_0 : decode cX5_take 0 = .ok (.aload_n 0, 1) := by decide +kernel
theorem dX5_take_1 : decode cX5_take 1 = .ok (.aload_n 0, 1) := by decide +kernel
theorem dX5_take_2 : decode cX5_take 2 = .ok (.invokevirtual 104, 3) := by decide +kernel
theorem dX5_take_5 : decode cX5_take 5 = .ok (.ifCond .eq 7, 3) := by decide +kernel
theorem dX5_take_8 : decode cX5_take 8 = .ok (.iconst 1, 1) := by decide +kernel
theorem dX5_take_9 : decode cX5_take 9 = .ok (.goto 20, 3) := by decide +kernel
theorem dX5_take_12 : decode cX5_take 12 = .ok (.iload_n 1, 1) := by decide +kernel
theorem dX5_take_13 : decode cX5_take 13 = .ok (.iconst 1, 1) := by decide +kernel
theorem dX5_take_14 : decode cX5_take 14 = .ok (.if_icmp .lt 10, 3) := by decide +kernel
theorem dX5_take_17 : decode cX5_take 17 = .ok (.iload_n 1, 1) := by decide +kernel
theorem dX5_take_18 : decode cX5_take 18 = .ok (.sipush 847, 3) := by decide +kernel
theorem dX5_take_21 : decode cX5_take 21 = .ok (.if_icmp .le 7, 3) := by decide +kernel
theorem dX5_take_24 : decode cX5_take 24 = .ok (.iconst 2, 1) := by decide +kernel
theorem dX5_take_25 : decode cX5_take 25 = .ok (.goto 4, 3) := by decide +kernel
theorem dX5_take_28 : decode cX5_take 28 = .ok (.iconst 0, 1) := by decide +kernel
theorem dX5_take_29 : decode cX5_take 29 = .ok (.putfield 37, 3) := by decide +kernel
theorem dX5_take_32 : decode cX5_take 32 = .ok (.aload_n 0, 1) := by decide +kernel
theorem dX5_take_33 : decode cX5_take 33 = .ok (.getfield 37, 3) := by decide +kernel
theorem dX5_take_36 : decode cX5_take 36 = .ok (.ifCond .le 5, 3) := by decide +kernel
theorem dX5_take_39 : decode cX5_take 39 = .ok (.iconst 0, 1) := by decide +kernel
theorem dX5_take_40 : decode cX5_take 40 = .ok (.ireturn, 1) := by decide +kernel
theorem dX5_take_41 : decode cX5_take 41 = .ok (.sipush 176, 3) := by decide +kernel
theorem dX5_take_44 : decode cX5_take 44 = .ok (.istore_n 2, 1) := by decide +kernel
theorem dX5_take_45 : decode cX5_take 45 = .ok (.iload_n 2, 1) := by decide +kernel
theorem dX5_take_46 : decode cX5_take 46 = .ok (.sipush 1024, 3) := by decide +kernel
theorem dX5_take_49 : decode cX5_take 49 = .ok (.if_icmp .ge 33, 3) := by decide +kernel
theorem dX5_take_52 : decode cX5_take 52 = .ok (.aload_n 0, 1) := by decide +kernel
theorem dX5_take_53 : decode cX5_take 53 = .ok (.iload_n 2, 1) := by decide +kernel
theorem dX5_take_54 : decode cX5_take 54 = .ok (.invokevirtual 88, 3) := by decide +kernel
theorem dX5_take_57 : decode cX5_take 57 = .ok (.ifCond .ne 12, 3) := by decide +kernel
theorem dX5_take_60 : decode cX5_take 60 = .ok (.aload_n 0, 1) := by decide +kernel
theorem dX5_take_61 : decode cX5_take 61 = .ok (.iload_n 2, 1) := by decide +kernel
theorem dX5_take_62 : decode cX5_take 62 = .ok (.invokevirtual 84, 3) := by decide +kernel
theorem dX5_take_65 : decode cX5_take 65 = .ok (.iload_n 1, 1) := by decide +kernel
theorem dX5_take_66 : decode cX5_take 66 = .ok (.if_icmp .ge 16, 3) := by decide +kernel
theorem dX5_take_69 : decode cX5_take 69 = .ok (.iload_n 2, 1) := by decide +kernel
theorem dX5_take_70 : decode cX5_take 70 = .ok (.aload_n 0, 1) := by decide +kernel
theorem dX5_take_71 : decode cX5_take 71 = .ok (.iload_n 2, 1) := by decide +kernel
theorem dX5_take_72 : decode cX5_take 72 = .ok (.invokevirtual 84, 3) := by decide +kernel
theorem dX5_take_75 : decode cX5_take 75 = .ok (.iconst 1, 1) := by decide +kernel
theorem dX5_take_76 : decode cX5_take 76 = .ok (.iadd, 1) := by decide +kernel
theorem dX5_take_77 : decode cX5_take 77 = .ok (.iadd, 1) := by decide +kernel
theorem dX5_take_78 : decode cX5_take 78 = .ok (.istore_n 2, 1) := by decide +kernel
theorem dX5_take_79 : decode cX5_take 79 = .ok (.goto (-34), 3) := by decide +kernel
theorem dX5_take_82 : decode cX5_take 82 = .ok (.iload_n 2, 1) := by decide +kernel
theorem dX5_take_83 : decode cX5_take 83 = .ok (.sipush 1024, 3) := by decide +kernel
theorem dX5_take_86 : decode cX5_take 86 = .ok (.if_icmp .lt 5, 3) := by decide +kernel
theorem dX5_take_89 : decode cX5_take 89 = .ok (.iconst (-1), 1) := by decide +kernel
theorem dX5_take_90 : decode cX5_take 90 = .ok (.ireturn, 1) := by decide +kernel
theorem dX5_take_91 : decode cX5_take 91 = .ok (.aload_n 0, 1) := by decide +kernel
theorem dX5_take_92 : decode cX5_take 92 = .ok (.iload_n 2, 1) := by decide +kernel
theorem dX5_take_93 : decode cX5_take 93 = .ok (.invokevirtual 84, 3) := by decide +kernel
theorem dX5_take_96 : decode cX5_take 96 = .ok (.istore_n 3, 1) := by decide +kernel
theorem dX5_take_97 : decode cX5_take 97 = .ok (.iload_n 3, 1) := by decide +kernel
theorem dX5_take_98 : decode cX5_take 98 = .ok (.iload_n 1, 1) := by decide +kernel
theorem dX5_take_99 : decode cX5_take 99 = .ok (.iconst 2, 1) := by decide +kernel
theorem dX5_take_100 : decode cX5_take 100 = .ok (.iadd, 1) := by decide +kernel
theorem dX5_take_101 : decode cX5_take 101 = .ok (.if_icmp .lt 7, 3) := by decide +kernel
theorem dX5_take_104 : decode cX5_take 104 = .ok (.iconst 1, 1) := by decide +kernel
theorem dX5_take_105 : decode cX5_take 105 = .ok (.goto 4, 3) := by decide +kernel
theorem dX5_take_108 : decode cX5_take 108 = .ok (.iconst 0, 1) := by decide +kernel
theorem dX5_take_109 : decode cX5_take 109 = .ok (.istore 4, 2) := by decide +kernel
theorem dX5_take_111 : decode cX5_take 111 = .ok (.iload_n 2, 1) := by decide +kernel
theorem dX5_take_112 : decode cX5_take 112 = .ok (.iconst 1, 1) := by decide +kernel
theorem dX5_take_113 : decode cX5_take 113 = .ok (.iadd, 1) := by decide +kernel
theorem dX5_take_114 : decode cX5_take 114 = .ok (.iload_n 1, 1) := by decide +kernel
theorem dX5_take_115 : decode cX5_take 115 = .ok (.iadd, 1) := by decide +kernel
theorem dX5_take_116 : decode cX5_take 116 = .ok (.istore 5, 2) := by decide +kernel
theorem dX5_take_118 : decode cX5_take 118 = .ok (.ldc2_w 82, 3) := by decide +kernel
theorem dX5_take_121 : decode cX5_take 121 = .ok (.iload_n 3, 1) := by decide +kernel
theorem dX5_take_122 : decode cX5_take 122 = .ok (.iload_n 1, 1) := by decide +kernel
theorem dX5_take_123 : decode cX5_take 123 = .ok (.isub, 1) := by decide +kernel
theorem dX5_take_124 : decode cX5_take 124 = .ok (.iconst 1, 1) := by decide +kernel
theorem dX5_take_125 : decode cX5_take 125 = .ok (.isub, 1) := by decide +kernel
theorem dX5_take_126 : decode cX5_take 126 = .ok (.i2l, 1) := by decide +kernel
theorem dX5_take_127 : decode cX5_take 127 = .ok (.lmul, 1) := by decide +kernel
theorem dX5_take_128 : decode cX5_take 128 = .ok (.lstore 6, 2) := by decide +kernel
theorem dX5_take_130 : decode cX5_take 130 = .ok (.iload 4, 2) := by decide +kernel
theorem dX5_take_132 : decode cX5_take 132 = .ok (.ifCond .eq 14, 3) := by decide +kernel
theorem dX5_take_135 : decode cX5_take 135 = .ok (.ldc2_w 82, 3) := by decide +kernel
theorem dX5_take_138 : decode cX5_take 138 = .ok (.iload_n 1, 1) := by decide +kernel
theorem dX5_take_139 : decode cX5_take 139 = .ok (.i2l, 1) := by decide +kernel
theorem dX5_take_140 : decode cX5_take 140 = .ok (.lmul, 1) := by decide +kernel
theorem dX5_take_141 : decode cX5_take 141 = .ok (.lconst 1, 1) := by decide +kernel
theorem dX5_take_142 : decode cX5_take 142 = .ok (.ladd, 1) := by decide +kernel
theorem dX5_take_143 : decode cX5_take 143 = .ok (.goto 11, 3) := by decide +kernel
theorem dX5_take_146 : decode cX5_take 146 = .ok (.ldc2_w 82, 3) := by decide +kernel
theorem dX5_take_149 : decode cX5_take 149 = .ok (.iload_n 3, 1) := by decide +kernel
theorem dX5_take_150 : decode cX5_take 150 = .ok (.i2l, 1) := by decide +kernel
theorem dX5_take_151 : decode cX5_take 151 = .ok (.lmul, 1) := by decide +kernel
theorem dX5_take_152 : decode cX5_take 152 = .ok (.lconst 1, 1) := by decide +kernel
theorem dX5_take_153 : decode cX5_take 153 = .ok (.ladd, 1) := by decide +kernel
theorem dX5_take_154 : decode cX5_take 154 = .ok (.lstore 8, 2) := by decide +kernel
theorem dX5_take_156 : decode cX5_take 156 = .ok (.iload 4, 2) := by decide +kernel
theorem dX5_take_158 : decode cX5_take 158 = .ok (.ifCond .eq 18, 3) := by decide +kernel
theorem dX5_take_161 : decode cX5_take 161 = .ok (.aload_n 0, 1) := by decide +kernel
theorem dX5_take_162 : decode cX5_take 162 = .ok (.iload 5, 2) := by decide +kernel
theorem dX5_take_164 : decode cX5_take 164 = .ok (.lload 6, 2) := by decide +kernel
theorem dX5_take_166 : decode cX5_take 166 = .ok (.invokevirtual 92, 3) := by decide +kernel
theorem dX5_take_169 : decode cX5_take 169 = .ok (.ifCond .eq 7, 3) := by decide +kernel
theorem dX5_take_172 : decode cX5_take 172 = .ok (.iconst 1, 1) := by decide +kernel
theorem dX5_take_173 : decode cX5_take 173 = .ok (.goto 4, 3) := by decide +kernel
theorem dX5_take_176 : decode cX5_take 176 = .ok (.iconst 0, 1) := by decide +kernel
theorem dX5_take_177 : decode cX5_take 177 = .ok (.aload_n 0, 1) := by decide +kernel
theorem dX5_take_178 : decode cX5_take 178 = .ok (.iload_n 2, 1) := by decide +kernel
theorem dX5_take_179 : decode cX5_take 179 = .ok (.lload 8, 2) := by decide +kernel
theorem dX5_take_181 : decode cX5_take 181 = .ok (.invokevirtual 92, 3) := by decide +kernel
theorem dX5_take_184 : decode cX5_take 184 = .ok (.ifCond .eq 7, 3) := by decide +kernel
theorem dX5_take_187 : decode cX5_take 187 = .ok (.iconst 1, 1) := by decide +kernel
theorem dX5_take_188 : decode cX5_take 188 = .ok (.goto 4, 3) := by decide +kernel
theorem dX5_take_191 : decode cX5_take 191 = .ok (.iconst 0, 1) := by decide +kernel
theorem dX5_take_192 : decode cX5_take 192 = .ok (.iadd, 1) := by decide +kernel
theorem dX5_take_193 : decode cX5_take 193 = .ok (.istore 10, 2) := by decide +kernel
theorem dX5_take_195 : decode cX5_take 195 = .ok (.aload_n 0, 1) := by decide +kernel
theorem dX5_take_196 : decode cX5_take 196 = .ok (.getfield 75, 3) := by decide +kernel
theorem dX5_take_199 : decode cX5_take 199 = .ok (.iload 10, 2) := by decide +kernel
theorem dX5_take_201 : decode cX5_take 201 = .ok (.iadd, 1) := by decide +kernel
theorem dX5_take_202 : decode cX5_take 202 = .ok (.bipush 96, 2) := by decide +kernel
theorem dX5_take_204 : decode cX5_take 204 = .ok (.if_icmp .le 5, 3) := by decide +kernel
theorem dX5_take_207 : decode cX5_take 207 = .ok (.iconst (-1), 1) := by decide +kernel
theorem dX5_take_208 : decode cX5_take 208 = .ok (.ireturn, 1) := by decide +kernel
theorem dX5_take_209 : decode cX5_take 209 = .ok (.iload 4, 2) := by decide +kernel
theorem dX5_take_211 : decode cX5_take 211 = .ok (.ifCond .eq 11, 3) := by decide +kernel
theorem dX5_take_214 : decode cX5_take 214 = .ok (.aload_n 0, 1) := by decide +kernel
theorem dX5_take_215 : decode cX5_take 215 = .ok (.iload 5, 2) := by decide +kernel
theorem dX5_take_217 : decode cX5_take 217 = .ok (.lload 6, 2) := by decide +kernel
theorem dX5_take_219 : decode cX5_take 219 = .ok (.invokevirtual 96, 3) := by decide +kernel
theorem dX5_take_222 : decode cX5_take 222 = .ok (.aload_n 0, 1) := by decide +kernel
theorem dX5_take_223 : decode cX5_take 223 = .ok (.iload_n 2, 1) := by decide +kernel
theorem dX5_take_224 : decode cX5_take 224 = .ok (.lload 8, 2) := by decide +kernel
theorem dX5_take_226 : decode cX5_take 226 = .ok (.invokevirtual 96, 3) := by decide +kernel
theorem dX5_take_229 : decode cX5_take 229 = .ok (.iload_n 2, 1) := by decide +kernel
theorem dX5_take_230 : decode cX5_take 230 = .ok (.iconst 1, 1) := by decide +kernel
theorem dX5_take_231 : decode cX5_take 231 = .ok (.iadd, 1) := by decide +kernel
theorem dX5_take_232 : decode cX5_take 232 = .ok (.ireturn, 1) := by decide +kernel
theorem dX5_give_0 : decode cX5_give 0 = .ok (.aload_n 0, 1) := by decide +kernel
theorem dX5_give_1 : decode cX5_give 1 = .ok (.invokevirtual 104, 3) := by decide +kernel
theorem dX5_give_4 : decode cX5_give 4 = .ok (.ifCond .eq 7, 3) := by decide +kernel
theorem dX5_give_7 : decode cX5_give 7 = .ok (.iconst (-1), 1) := by decide +kernel
theorem dX5_give_8 : decode cX5_give 8 = .ok (.goto 8, 3) := by decide +kernel
theorem dX5_give_11 : decode cX5_give 11 = .ok (.aload_n 0, 1) := by decide +kernel
theorem dX5_give_12 : decode cX5_give 12 = .ok (.iload_n 1, 1) := by decide +kernel
theorem dX5_give_13 : decode cX5_give 13 = .ok (.invokevirtual 108, 3) := by decide +kernel
theorem dX5_give_16 : decode cX5_give 16 = .ok (.istore_n 2, 1) := by decide +kernel
theorem dX5_give_17 : decode cX5_give 17 = .ok (.aload_n 0, 1) := by decide +kernel
theorem dX5_give_18 : decode cX5_give 18 = .ok (.aload_n 0, 1) := by decide +kernel
theorem dX5_give_19 : decode cX5_give 19 = .ok (.invokevirtual 104, 3) := by decide +kernel
theorem dX5_give_22 : decode cX5_give 22 = .ok (.ifCond .eq 7, 3) := by decide +kernel
theorem dX5_give_25 : decode cX5_give 25 = .ok (.iconst 1, 1) := by decide +kernel
theorem dX5_give_26 : decode cX5_give 26 = .ok (.goto 12, 3) := by decide +kernel
theorem dX5_give_29 : decode cX5_give 29 = .ok (.iload_n 2, 1) := by decide +kernel
theorem dX5_give_30 : decode cX5_give 30 = .ok (.ifCond .ge 7, 3) := by decide +kernel
theorem dX5_give_33 : decode cX5_give 33 = .ok (.iconst 2, 1) := by decide +kernel
theorem dX5_give_34 : decode cX5_give 34 = .ok (.goto 4, 3) := by decide +kernel
theorem dX5_give_37 : decode cX5_give 37 = .ok (.iconst 0, 1) := by decide +kernel
theorem dX5_give_38 : decode cX5_give 38 = .ok (.putfield 37, 3) := by decide +kernel
theorem dX5_give_41 : decode cX5_give 41 = .ok (.aload_n 0, 1) := by decide +kernel
theorem dX5_give_42 : decode cX5_give 42 = .ok (.getfield 37, 3) := by decide +kernel
theorem dX5_give_45 : decode cX5_give 45 = .ok (.ifCond .le 5, 3) := by decide +kernel
theorem dX5_give_48 : decode cX5_give 48 = .ok (.iconst 0, 1) := by decide +kernel
theorem dX5_give_49 : decode cX5_give 49 = .ok (.ireturn, 1) := by decide +kernel
theorem dX5_give_50 : decode cX5_give 50 = .ok (.aload_n 0, 1) := by decide +kernel
theorem dX5_give_51 : decode cX5_give 51 = .ok (.iload_n 2, 1) := by decide +kernel
theorem dX5_give_52 : decode cX5_give 52 = .ok (.invokevirtual 84, 3) := by decide +kernel
theorem dX5_give_55 : decode cX5_give 55 = .ok (.istore_n 3, 1) := by decide +kernel
theorem dX5_give_56 : decode cX5_give 56 = .ok (.iload_n 2, 1) := by decide +kernel
theorem dX5_give_57 : decode cX5_give 57 = .ok (.iconst 1, 1) := by decide +kernel
theorem dX5_give_58 : decode cX5_give 58 = .ok (.iadd, 1) := by decide +kernel
theorem dX5_give_59 : decode cX5_give 59 = .ok (.iload_n 3, 1) := by decide +kernel
theorem dX5_give_60 : decode cX5_give 60 = .ok (.iadd, 1) := by decide +kernel
theorem dX5_give_61 : decode cX5_give 61 = .ok (.istore 4, 2) := by decide +kernel
theorem dX5_give_63 : decode cX5_give 63 = .ok (.iload 4, 2) := by decide +kernel
theorem dX5_give_65 : decode cX5_give 65 = .ok (.sipush 1024, 3) := by decide +kernel
theorem dX5_give_68 : decode cX5_give 68 = .ok (.if_icmp .ge 23, 3) := by decide +kernel
theorem dX5_give_71 : decode cX5_give 71 = .ok (.aload_n 0, 1) := by decide +kernel
theorem dX5_give_72 : decode cX5_give 72 = .ok (.iload 4, 2) := by decide +kernel
theorem dX5_give_74 : decode cX5_give 74 = .ok (.invokevirtual 88, 3) := by decide +kernel
theorem dX5_give_77 : decode cX5_give 77 = .ok (.ifCond .ne 14, 3) := by decide +kernel
theorem dX5_give_80 : decode cX5_give 80 = .ok (.iload_n 3, 1) := by decide +kernel
theorem dX5_give_81 : decode cX5_give 81 = .ok (.aload_n 0, 1) := by decide +kernel
theorem dX5_give_82 : decode cX5_give 82 = .ok (.iload 4, 2) := by decide +kernel
theorem dX5_give_84 : decode cX5_give 84 = .ok (.invokevirtual 84, 3) := by decide +kernel
theorem dX5_give_87 : decode cX5_give 87 = .ok (.iconst 1, 1) := by decide +kernel
theorem dX5_give_88 : decode cX5_give 88 = .ok (.iadd, 1) := by decide +kernel
theorem dX5_give_89 : decode cX5_give 89 = .ok (.iadd, 1) := by decide +kernel
theorem dX5_give_90 : decode cX5_give 90 = .ok (.istore_n 3, 1) := by decide +kernel
theorem dX5_give_91 : decode cX5_give 91 = .ok (.iconst (-1), 1) := by decide +kernel
theorem dX5_give_92 : decode cX5_give 92 = .ok (.istore 5, 2) := by decide +kernel
theorem dX5_give_94 : decode cX5_give 94 = .ok (.sipush 176, 3) := by decide +kernel
theorem dX5_give_97 : decode cX5_give 97 = .ok (.istore 6, 2) := by decide +kernel
theorem dX5_give_99 : decode cX5_give 99 = .ok (.iload 6, 2) := by decide +kernel
theorem dX5_give_101 : decode cX5_give 101 = .ok (.iload_n 2, 1) := by decide +kernel
theorem dX5_give_102 : decode cX5_give 102 = .ok (.if_icmp .ge 23, 3) := by decide +kernel
theorem dX5_give_105 : decode cX5_give 105 = .ok (.iload 6, 2) := by decide +kernel
theorem dX5_give_107 : decode cX5_give 107 = .ok (.istore 5, 2) := by decide +kernel
theorem dX5_give_109 : decode cX5_give 109 = .ok (.iload 6, 2) := by decide +kernel
theorem dX5_give_111 : decode cX5_give 111 = .ok (.aload_n 0, 1) := by decide +kernel
theorem dX5_give_112 : decode cX5_give 112 = .ok (.iload 6, 2) := by decide +kernel
theorem dX5_give_114 : decode cX5_give 114 = .ok (.invokevirtual 84, 3) := by decide +kernel
theorem dX5_give_117 : decode cX5_give 117 = .ok (.iconst 1, 1) := by decide +kernel
theorem dX5_give_118 : decode cX5_give 118 = .ok (.iadd, 1) := by decide +kernel
theorem dX5_give_119 : decode cX5_give 119 = .ok (.iadd, 1) := by decide +kernel
theorem dX5_give_120 : decode cX5_give 120 = .ok (.istore 6, 2) := by decide +kernel
theorem dX5_give_122 : decode cX5_give 122 = .ok (.goto (-23), 3) := by decide +kernel
theorem dX5_give_125 : decode cX5_give 125 = .ok (.iload_n 2, 1) := by decide +kernel
theorem dX5_give_126 : decode cX5_give 126 = .ok (.istore 7, 2) := by decide +kernel
theorem dX5_give_128 : decode cX5_give 128 = .ok (.iload 5, 2) := by decide +kernel
theorem dX5_give_130 : decode cX5_give 130 = .ok (.ifCond .lt 27, 3) := by decide +kernel
theorem dX5_give_133 : decode cX5_give 133 = .ok (.aload_n 0, 1) := by decide +kernel
theorem dX5_give_134 : decode cX5_give 134 = .ok (.iload 5, 2) := by decide +kernel
theorem dX5_give_136 : decode cX5_give 136 = .ok (.invokevirtual 88, 3) := by decide +kernel
theorem dX5_give_139 : decode cX5_give 139 = .ok (.ifCond .ne 18, 3) := by decide +kernel
theorem dX5_give_142 : decode cX5_give 142 = .ok (.iload_n 3, 1) := by decide +kernel
theorem dX5_give_143 : decode cX5_give 143 = .ok (.aload_n 0, 1) := by decide +kernel
theorem dX5_give_144 : decode cX5_give 144 = .ok (.iload 5, 2) := by decide +kernel
theorem dX5_give_146 : decode cX5_give 146 = .ok (.invokevirtual 84, 3) := by decide +kernel
theorem dX5_give_149 : decode cX5_give 149 = .ok (.iconst 1, 1) := by decide +kernel
theorem dX5_give_150 : decode cX5_give 150 = .ok (.iadd, 1) := by decide +kernel
theorem dX5_give_151 : decode cX5_give 151 = .ok (.iadd, 1) := by decide +kernel
theorem dX5_give_152 : decode cX5_give 152 = .ok (.istore_n 3, 1) := by decide +kernel
theorem dX5_give_153 : decode cX5_give 153 = .ok (.iload 5, 2) := by decide +kernel
theorem dX5_give_155 : decode cX5_give 155 = .ok (.istore 7, 2) := by decide +kernel
theorem dX5_give_157 : decode cX5_give 157 = .ok (.aload_n 0, 1) := by decide +kernel
theorem dX5_give_158 : decode cX5_give 158 = .ok (.iload 7, 2) := by decide +kernel
theorem dX5_give_160 : decode cX5_give 160 = .ok (.ldc2_w 82, 3) := by decide +kernel
theorem dX5_give_163 : decode cX5_give 163 = .ok (.iload_n 3, 1) := by decide +kernel
theorem dX5_give_164 : decode cX5_give 164 = .ok (.i2l, 1) := by decide +kernel
theorem dX5_give_165 : decode cX5_give 165 = .ok (.lmul, 1) := by decide +kernel
theorem dX5_give_166 : decode cX5_give 166 = .ok (.invokevirtual 111, 3) := by decide +kernel
theorem dX5_give_169 : decode cX5_give 169 = .ok (.ifCond .eq 7, 3) := by decide +kernel
theorem dX5_give_172 : decode cX5_give 172 = .ok (.iload_n 3, 1) := by decide +kernel
theorem dX5_give_173 : decode cX5_give 173 = .ok (.goto 4, 3) := by decide +kernel
theorem dX5_give_176 : decode cX5_give 176 = .ok (.iconst (-1), 1) := by decide +kernel
theorem dX5_give_177 : decode cX5_give 177 = .ok (.ireturn, 1) := by decide +kernel
theorem dX5_set_0 : decode cX5_set 0 = .ok (.aload_n 0, 1) := by decide +kernel
theorem dX5_set_1 : decode cX5_set 1 = .ok (.invokevirtual 104, 3) := by decide +kernel
theorem dX5_set_4 : decode cX5_set 4 = .ok (.ifCond .eq 7, 3) := by decide +kernel
theorem dX5_set_7 : decode cX5_set 7 = .ok (.iconst (-1), 1) := by decide +kernel
theorem dX5_set_8 : decode cX5_set 8 = .ok (.goto 8, 3) := by decide +kernel
theorem dX5_set_11 : decode cX5_set 11 = .ok (.aload_n 0, 1) := by decide +kernel
theorem dX5_set_12 : decode cX5_set 12 = .ok (.iload_n 1, 1) := by decide +kernel
theorem dX5_set_13 : decode cX5_set 13 = .ok (.invokevirtual 108, 3) := by decide +kernel
theorem dX5_set_16 : decode cX5_set 16 = .ok (.istore 5, 2) := by decide +kernel
theorem dX5_set_18 : decode cX5_set 18 = .ok (.aload_n 0, 1) := by decide +kernel
theorem dX5_set_19 : decode cX5_set 19 = .ok (.aload_n 0, 1) := by decide +kernel
theorem dX5_set_20 : decode cX5_set 20 = .ok (.invokevirtual 104, 3) := by decide +kernel
theorem dX5_set_23 : decode cX5_set 23 = .ok (.ifCond .eq 7, 3) := by decide +kernel
theorem dX5_set_26 : decode cX5_set 26 = .ok (.iconst 1, 1) := by decide +kernel
theorem dX5_set_27 : decode cX5_set 27 = .ok (.goto 27, 3) := by decide +kernel
theorem dX5_set_30 : decode cX5_set 30 = .ok (.iload 5, 2) := by decide +kernel
theorem dX5_set_32 : decode cX5_set 32 = .ok (.ifCond .lt 17, 3) := by decide +kernel
theorem dX5_set_35 : decode cX5_set 35 = .ok (.iload_n 2, 1) := by decide +kernel
theorem dX5_set_36 : decode cX5_set 36 = .ok (.ifCond .lt 13, 3) := by decide +kernel
theorem dX5_set_39 : decode cX5_set 39 = .ok (.iload_n 2, 1) := by decide +kernel
theorem dX5_set_40 : decode cX5_set 40 = .ok (.aload_n 0, 1) := by decide +kernel
theorem dX5_set_41 : decode cX5_set 41 = .ok (.iload 5, 2) := by decide +kernel
theorem dX5_set_43 : decode cX5_set 43 = .ok (.invokevirtual 84, 3) := by decide +kernel
theorem dX5_set_46 : decode cX5_set 46 = .ok (.if_icmp .lt 7, 3) := by decide +kernel
theorem dX5_set_49 : decode cX5_set 49 = .ok (.iconst 2, 1) := by decide +kernel
theorem dX5_set_50 : decode cX5_set 50 = .ok (.goto 4, 3) := by decide +kernel
theorem dX5_set_53 : decode cX5_set 53 = .ok (.iconst 0, 1) := by decide +kernel
theorem dX5_set_54 : decode cX5_set 54 = .ok (.putfield 37, 3) := by decide +kernel
theorem dX5_set_57 : decode cX5_set 57 = .ok (.aload_n 0, 1) := by decide +kernel
theorem dX5_set_58 : decode cX5_set 58 = .ok (.getfield 37, 3) := by decide +kernel
theorem dX5_set_61 : decode cX5_set 61 = .ok (.ifCond .ne 18, 3) := by decide +kernel
theorem dX5_set_64 : decode cX5_set 64 = .ok (.aload_n 0, 1) := by decide +kernel
theorem dX5_set_65 : decode cX5_set 65 = .ok (.iload_n 1, 1) := by decide +kernel
theorem dX5_set_66 : decode cX5_set 66 = .ok (.iload_n 2, 1) := by decide +kernel
theorem dX5_set_67 : decode cX5_set 67 = .ok (.iadd, 1) := by decide +kernel
theorem dX5_set_68 : decode cX5_set 68 = .ok (.lload_n 3, 1) := by decide +kernel
theorem dX5_set_69 : decode cX5_set 69 = .ok (.invokevirtual 111, 3) := by decide +kernel
theorem dX5_set_72 : decode cX5_set 72 = .ok (.ifCond .eq 7, 3) := by decide +kernel
theorem dX5_set_75 : decode cX5_set 75 = .ok (.iconst 1, 1) := by decide +kernel
theorem dX5_set_76 : decode cX5_set 76 = .ok (.goto 4, 3) := by decide +kernel
theorem dX5_set_79 : decode cX5_set 79 = .ok (.iconst 0, 1) := by decide +kernel
theorem dX5_set_80 : decode cX5_set 80 = .ok (.ireturn, 1) := by decide +kernel
theorem dX5_get_0 : decode cX5_get 0 = .ok (.aload_n 0, 1) := by decide +kernel
theorem dX5_get_1 : decode cX5_get 1 = .ok (.getfield 33, 3) := by decide +kernel
theorem dX5_get_4 : decode cX5_get 4 = .ok (.ifCond .ne 7, 3) := by decide +kernel
theorem dX5_get_7 : decode cX5_get 7 = .ok (.iconst (-1), 1) := by decide +kernel
theorem dX5_get_8 : decode cX5_get 8 = .ok (.goto 8, 3) := by decide +kernel
theorem dX5_get_11 : decode cX5_get 11 = .ok (.aload_n 0, 1) := by decide +kernel
theorem dX5_get_12 : decode cX5_get 12 = .ok (.iload_n 1, 1) := by decide +kernel
theorem dX5_get_13 : decode cX5_get 13 = .ok (.invokevirtual 108, 3) := by decide +kernel
theorem dX5_get_16 : decode cX5_get 16 = .ok (.istore_n 3, 1) := by decide +kernel
theorem dX5_get_17 : decode cX5_get 17 = .ok (.aload_n 0, 1) := by decide +kernel
theorem dX5_get_18 : decode cX5_get 18 = .ok (.aload_n 0, 1) := by decide +kernel
theorem dX5_get_19 : decode cX5_get 19 = .ok (.getfield 33, 3) := by decide +kernel
theorem dX5_get_22 : decode cX5_get 22 = .ok (.ifCond .ne 7, 3) := by decide +kernel
theorem dX5_get_25 : decode cX5_get 25 = .ok (.iconst 1, 1) := by decide +kernel
theorem dX5_get_26 : decode cX5_get 26 = .ok (.goto 25, 3) := by decide +kernel
theorem dX5_get_29 : decode cX5_get 29 = .ok (.iload_n 3, 1) := by decide +kernel
theorem dX5_get_30 : decode cX5_get 30 = .ok (.ifCond .lt 16, 3) := by decide +kernel
theorem dX5_get_33 : decode cX5_get 33 = .ok (.iload_n 2, 1) := by decide +kernel
theorem dX5_get_34 : decode cX5_get 34 = .ok (.ifCond .lt 12, 3) := by decide +kernel
theorem dX5_get_37 : decode cX5_get 37 = .ok (.iload_n 2, 1) := by decide +kernel
theorem dX5_get_38 : decode cX5_get 38 = .ok (.aload_n 0, 1) := by decide +kernel
theorem dX5_get_39 : decode cX5_get 39 = .ok (.iload_n 3, 1) := by decide +kernel
theorem dX5_get_40 : decode cX5_get 40 = .ok (.invokevirtual 84, 3) := by decide +kernel
theorem dX5_get_43 : decode cX5_get 43 = .ok (.if_icmp .lt 7, 3) := by decide +kernel
theorem dX5_get_46 : decode cX5_get 46 = .ok (.iconst 2, 1) := by decide +kernel
theorem dX5_get_47 : decode cX5_get 47 = .ok (.goto 4, 3) := by decide +kernel
theorem dX5_get_50 : decode cX5_get 50 = .ok (.iconst 0, 1) := by decide +kernel
theorem dX5_get_51 : decode cX5_get 51 = .ok (.putfield 37, 3) := by decide +kernel
theorem dX5_get_54 : decode cX5_get 54 = .ok (.aload_n 0, 1) := by decide +kernel
theorem dX5_get_55 : decode cX5_get 55 = .ok (.getfield 37, 3) := by decide +kernel
theorem dX5_get_58 : decode cX5_get 58 = .ok (.ifCond .le 7, 3) := by decide +kernel
theorem dX5_get_61 : decode cX5_get 61 = .ok (.lconst 0, 1) := by decide +kernel
theorem dX5_get_62 : decode cX5_get 62 = .ok (.goto 10, 3) := by decide +kernel
theorem dX5_get_65 : decode cX5_get 65 = .ok (.aload_n 0, 1) := by decide +kernel
theorem dX5_get_66 : decode cX5_get 66 = .ok (.iload_n 1, 1) := by decide +kernel
theorem dX5_get_67 : decode cX5_get 67 = .ok (.iload_n 2, 1) := by decide +kernel
theorem dX5_get_68 : decode cX5_get 68 = .ok (.iadd, 1) := by decide +kernel
theorem dX5_get_69 : decode cX5_get 69 = .ok (.invokevirtual 78, 3) := by decide +kernel
theorem dX5_get_72 : decode cX5_get 72 = .ok (.lreturn, 1) := by decide +kernel
theorem dX5_setRoot_0 : decode cX5_setRoot 0 = .ok (.aload_n 0, 1) := by decide +kernel
theorem dX5_setRoot_1 : decode cX5_setRoot 1 = .ok (.aload_n 0, 1) := by decide +kernel
theorem dX5_setRoot_2 : decode cX5_setRoot 2 = .ok (.invokevirtual 104, 3) := by decide +kernel
theorem dX5_setRoot_5 : decode cX5_setRoot 5 = .ok (.ifCond .eq 7, 3) := by decide +kernel
theorem dX5_setRoot_8 : decode cX5_setRoot 8 = .ok (.iconst 1, 1) := by decide +kernel
theorem dX5_setRoot_9 : decode cX5_setRoot 9 = .ok (.goto 20, 3) := by decide +kernel
theorem dX5_setRoot_12 : decode cX5_setRoot 12 = .ok (.iload_n 1, 1) := by decide +kernel
theorem dX5_setRoot_13 : decode cX5_setRoot 13 = .ok (.ifCond .eq 15, 3) := by decide +kernel
theorem dX5_setRoot_16 : decode cX5_setRoot 16 = .ok (.aload_n 0, 1) := by decide +kernel
theorem dX5_setRoot_17 : decode cX5_setRoot 17 = .ok (.iload_n 1, 1) := by decide +kernel
theorem dX5_setRoot_18 : decode cX5_setRoot 18 = .ok (.invokevirtual 108, 3) := by decide +kernel
theorem dX5_setRoot_21 : decode cX5_setRoot 21 = .ok (.ifCond .ge 7, 3) := by decide +kernel
theorem dX5_setRoot_24 : decode cX5_setRoot 24 = .ok (.iconst 2, 1) := by decide +kernel
theorem dX5_setRoot_25 : decode cX5_setRoot 25 = .ok (.goto 4, 3) := by decide +kernel
theorem dX5_setRoot_28 : decode cX5_setRoot 28 = .ok (.iconst 0, 1) := by decide +kernel
theorem dX5_setRoot_29 : decode cX5_setRoot 29 = .ok (.putfield 37, 3) := by decide +kernel
theorem dX5_setRoot_32 : decode cX5_setRoot 32 = .ok (.aload_n 0, 1) := by decide +kernel
theorem dX5_setRoot_33 : decode cX5_setRoot 33 = .ok (.getfield 37, 3) := by decide +kernel
theorem dX5_setRoot_36 : decode cX5_setRoot 36 = .ok (.ifCond .ne 17, 3) := by decide +kernel
theorem dX5_setRoot_39 : decode cX5_setRoot 39 = .ok (.aload_n 0, 1) := by decide +kernel
theorem dX5_setRoot_40 : decode cX5_setRoot 40 = .ok (.iconst 1, 1) := by decide +kernel
theorem dX5_setRoot_41 : decode cX5_setRoot 41 = .ok (.iload_n 1, 1) := by decide +kernel
theorem dX5_setRoot_42 : decode cX5_setRoot 42 = .ok (.i2l, 1) := by decide +kernel
theorem dX5_setRoot_43 : decode cX5_setRoot 43 = .ok (.invokevirtual 111, 3) := by decide +kernel
theorem dX5_setRoot_46 : decode cX5_setRoot 46 = .ok (.ifCond .eq 7, 3) := by decide +kernel
theorem dX5_setRoot_49 : decode cX5_setRoot 49 = .ok (.iconst 1, 1) := by decide +kernel
theorem dX5_setRoot_50 : decode cX5_setRoot 50 = .ok (.goto 4, 3) := by decide +kernel
theorem dX5_setRoot_53 : decode cX5_setRoot 53 = .ok (.iconst 0, 1) := by decide +kernel
theorem dX5_setRoot_54 : decode cX5_setRoot 54 = .ok (.ireturn, 1) := by decide +kernel
theorem dX5_root_0 : decode cX5_root 0 = .ok (.aload_n 0, 1) := by decide +kernel
theorem dX5_root_1 : decode cX5_root 1 = .ok (.aload_n 0, 1) := by decide +kernel
theorem dX5_root_2 : decode cX5_root 2 = .ok (.getfield 33, 3) := by decide +kernel
theorem dX5_root_5 : decode cX5_root 5 = .ok (.ifCond .eq 7, 3) := by decide +kernel
theorem dX5_root_8 : decode cX5_root 8 = .ok (.iconst 0, 1) := by decide +kernel
theorem dX5_root_9 : decode cX5_root 9 = .ok (.goto 4, 3) := by decide +kernel
theorem dX5_root_12 : decode cX5_root 12 = .ok (.iconst 1, 1) := by decide +kernel
theorem dX5_root_13 : decode cX5_root 13 = .ok (.putfield 37, 3) := by decide +kernel
theorem dX5_root_16 : decode cX5_root 16 = .ok (.aload_n 0, 1) := by decide +kernel
theorem dX5_root_17 : decode cX5_root 17 = .ok (.getfield 37, 3) := by decide +kernel
theorem dX5_root_20 : decode cX5_root 20 = .ok (.ifCond .le 7, 3) := by decide +kernel
theorem dX5_root_23 : decode cX5_root 23 = .ok (.iconst 0, 1) := by decide +kernel
theorem dX5_root_24 : decode cX5_root 24 = .ok (.goto 9, 3) := by decide +kernel
theorem dX5_root_27 : decode cX5_root 27 = .ok (.aload_n 0, 1) := by decide +kernel
theorem dX5_root_28 : decode cX5_root 28 = .ok (.iconst 1, 1) := by decide +kernel
theorem dX5_root_29 : decode cX5_root 29 = .ok (.invokevirtual 78, 3) := by decide +kernel
theorem dX5_root_32 : decode cX5_root 32 = .ok (.l2i, 1) := by decide +kernel
theorem dX5_root_33 : decode cX5_root 33 = .ok (.ireturn, 1) := by decide +kernel
theorem dX5_empty_0 : decode cX5_empty 0 = .ok (.bipush 16, 2) := by decide +kernel
theorem dX5_empty_2 : decode cX5_empty 2 = .ok (.istore_n 3, 1) := by decide +kernel
theorem dX5_empty_3 : decode cX5_empty 3 = .ok (.aload_n 0, 1) := by decide +kernel
theorem dX5_empty_4 : decode cX5_empty 4 = .ok (.getfield 13, 3) := by decide +kernel
theorem dX5_empty_7 : decode cX5_empty 7 = .ok (.iconst 2, 1) := by decide +kernel
theorem dX5_empty_8 : decode cX5_empty 8 = .ok (.laload, 1) := by decide +kernel
theorem dX5_empty_9 : decode cX5_empty 9 = .ok (.lstore 4, 2) := by decide +kernel
theorem dX5_empty_11 : decode cX5_empty 11 = .ok (.iload_n 3, 1) := by decide +kernel
theorem dX5_empty_12 : decode cX5_empty 12 = .ok (.bipush 16, 2) := by decide +kernel
theorem dX5_empty_14 : decode cX5_empty 14 = .ok (.iload_n 1, 1) := by decide +kernel
theorem dX5_empty_15 : decode cX5_empty 15 = .ok (.iadd, 1) := by decide +kernel
theorem dX5_empty_16 : decode cX5_empty 16 = .ok (.if_icmp .ge 99, 3) := by decide +kernel
theorem dX5_empty_19 : decode cX5_empty 19 = .ok (.aload_n 0, 1) := by decide +kernel
theorem dX5_empty_20 : decode cX5_empty 20 = .ok (.getfield 13, 3) := by decide +kernel
theorem dX5_empty_23 : decode cX5_empty 23 = .ok (.iload_n 3, 1) := by decide +kernel
theorem dX5_empty_24 : decode cX5_empty 24 = .ok (.laload, 1) := by decide +kernel
theorem dX5_empty_25 : decode cX5_empty 25 = .ok (.ldc2_w 114, 3) := by decide +kernel
theorem dX5_empty_28 : decode cX5_empty 28 = .ok (.land, 1) := by decide +kernel
theorem dX5_empty_29 : decode cX5_empty 29 = .ok (.l2i, 1) := by decide +kernel
theorem dX5_empty_30 : decode cX5_empty 30 = .ok (.istore 6, 2) := by decide +kernel
theorem dX5_empty_32 : decode cX5_empty 32 = .ok (.iconst 0, 1) := by decide +kernel
theorem dX5_empty_33 : decode cX5_empty 33 = .ok (.istore 7, 2) := by decide +kernel
theorem dX5_empty_35 : decode cX5_empty 35 = .ok (.iload 7, 2) := by decide +kernel
theorem dX5_empty_37 : decode cX5_empty 37 = .ok (.iload 6, 2) := by decide +kernel
theorem dX5_empty_39 : decode cX5_empty 39 = .ok (.if_icmp .ge 45, 3) := by decide +kernel
theorem dX5_empty_42 : decode cX5_empty 42 = .ok (.aload_n 0, 1) := by decide +kernel
theorem dX5_empty_43 : decode cX5_empty 43 = .ok (.aload_n 0, 1) := by decide +kernel
theorem dX5_empty_44 : decode cX5_empty 44 = .ok (.getfield 13, 3) := by decide +kernel
theorem dX5_empty_47 : decode cX5_empty 47 = .ok (.iload_n 3, 1) := by decide +kernel
theorem dX5_empty_48 : decode cX5_empty 48 = .ok (.iconst 1, 1) := by decide +kernel
theorem dX5_empty_49 : decode cX5_empty 49 = .ok (.iadd, 1) := by decide +kernel
theorem dX5_empty_50 : decode cX5_empty 50 = .ok (.iconst 2, 1) := by decide +kernel
theorem dX5_empty_51 : decode cX5_empty 51 = .ok (.iload 7, 2) := by decide +kernel
theorem dX5_empty_53 : decode cX5_empty 53 = .ok (.imul, 1) := by decide +kernel
theorem dX5_empty_54 : decode cX5_empty 54 = .ok (.iadd, 1) := by decide +kernel
theorem dX5_empty_55 : decode cX5_empty 55 = .ok (.laload, 1) := by decide +kernel
theorem dX5_empty_56 : decode cX5_empty 56 = .ok (.l2i, 1) := by decide +kernel
theorem dX5_empty_57 : decode cX5_empty 57 = .ok (.aload_n 0, 1) := by decide +kernel
theorem dX5_empty_58 : decode cX5_empty 58 = .ok (.getfield 13, 3) := by decide +kernel
theorem dX5_empty_61 : decode cX5_empty 61 = .ok (.iload_n 3, 1) := by decide +kernel
theorem dX5_empty_62 : decode cX5_empty 62 = .ok (.iconst 2, 1) := by decide +kernel
theorem dX5_empty_63 : decode cX5_empty 63 = .ok (.iadd, 1) := by decide +kernel
theorem dX5_empty_64 : decode cX5_empty 64 = .ok (.iconst 2, 1) := by decide +kernel
theorem dX5_empty_65 : decode cX5_empty 65 = .ok (.iload 7, 2) := by decide +kernel
theorem dX5_empty_67 : decode cX5_empty 67 = .ok (.imul, 1) := by decide +kernel
theorem dX5_empty_68 : decode cX5_empty 68 = .ok (.iadd, 1) := by decide +kernel
theorem dX5_empty_69 : decode cX5_empty 69 = .ok (.laload, 1) := by decide +kernel
theorem dX5_empty_70 : decode cX5_empty 70 = .ok (.invokevirtual 116, 3) := by decide +kernel
theorem dX5_empty_73 : decode cX5_empty 73 = .ok (.ifCond .ne 5, 3) := by decide +kernel
theorem dX5_empty_76 : decode cX5_empty 76 = .ok (.iconst 0, 1) := by decide +kernel
theorem dX5_empty_77 : decode cX5_empty 77 = .ok (.ireturn, 1) := by decide +kernel
theorem dX5_empty_78 : decode cX5_empty 78 = .ok (.iinc 7 1, 3) := by decide +kernel
theorem dX5_empty_81 : decode cX5_empty 81 = .ok (.goto (-46), 3) := by decide +kernel
theorem dX5_empty_84 : decode cX5_empty 84 = .ok (.ldc2_w 119, 3) := by decide +kernel
theorem dX5_empty_87 : decode cX5_empty 87 = .ok (.aload_n 0, 1) := by decide +kernel
theorem dX5_empty_88 : decode cX5_empty 88 = .ok (.getfield 13, 3) := by decide +kernel
theorem dX5_empty_91 : decode cX5_empty 91 = .ok (.iload_n 3, 1) := by decide +kernel
theorem dX5_empty_92 : decode cX5_empty 92 = .ok (.iconst 1, 1) := by decide +kernel
theorem dX5_empty_93 : decode cX5_empty 93 = .ok (.iadd, 1) := by decide +kernel
theorem dX5_empty_94 : decode cX5_empty 94 = .ok (.iconst 2, 1) := by decide +kernel
theorem dX5_empty_95 : decode cX5_empty 95 = .ok (.iload 6, 2) := by decide +kernel
theorem dX5_empty_97 : decode cX5_empty 97 = .ok (.imul, 1) := by decide +kernel
theorem dX5_empty_98 : decode cX5_empty 98 = .ok (.iadd, 1) := by decide +kernel
theorem dX5_empty_99 : decode cX5_empty 99 = .ok (.laload, 1) := by decide +kernel
theorem dX5_empty_100 : decode cX5_empty 100 = .ok (.lsub, 1) := by decide +kernel
theorem dX5_empty_101 : decode cX5_empty 101 = .ok (.lstore 4, 2) := by decide +kernel
theorem dX5_empty_103 : decode cX5_empty 103 = .ok (.iload_n 3, 1) := by decide +kernel
theorem dX5_empty_104 : decode cX5_empty 104 = .ok (.iconst 2, 1) := by decide +kernel
theorem dX5_empty_105 : decode cX5_empty 105 = .ok (.iconst 2, 1) := by decide +kernel
theorem dX5_empty_106 : decode cX5_empty 106 = .ok (.iload 6, 2) := by decide +kernel
theorem dX5_empty_108 : decode cX5_empty 108 = .ok (.imul, 1) := by decide +kernel
theorem dX5_empty_109 : decode cX5_empty 109 = .ok (.iadd, 1) := by decide +kernel
theorem dX5_empty_110 : decode cX5_empty 110 = .ok (.iadd, 1) := by decide +kernel
theorem dX5_empty_111 : decode cX5_empty 111 = .ok (.istore_n 3, 1) := by decide +kernel
theorem dX5_empty_112 : decode cX5_empty 112 = .ok (.goto (-101), 3) := by decide +kernel
theorem dX5_empty_115 : decode cX5_empty 115 = .ok (.aload_n 0, 1) := by decide +kernel
theorem dX5_empty_116 : decode cX5_empty 116 = .ok (.iconst 2, 1) := by decide +kernel
theorem dX5_empty_117 : decode cX5_empty 117 = .ok (.lload 4, 2) := by decide +kernel
theorem dX5_empty_119 : decode cX5_empty 119 = .ok (.invokevirtual 116, 3) := by decide +kernel
theorem dX5_empty_122 : decode cX5_empty 122 = .ok (.ifCond .ne 5, 3) := by decide +kernel
theorem dX5_empty_125 : decode cX5_empty 125 = .ok (.iconst 0, 1) := by decide +kernel
theorem dX5_empty_126 : decode cX5_empty 126 = .ok (.ireturn, 1) := by decide +kernel
theorem dX5_empty_127 : decode cX5_empty 127 = .ok (.aload_n 0, 1) := by decide +kernel
theorem dX5_empty_128 : decode cX5_empty 128 = .ok (.invokevirtual 121, 3) := by decide +kernel
theorem dX5_empty_131 : decode cX5_empty 131 = .ok (.istore 6, 2) := by decide +kernel
theorem dX5_empty_133 : decode cX5_empty 133 = .ok (.bipush 16, 2) := by decide +kernel
theorem dX5_empty_135 : decode cX5_empty 135 = .ok (.istore 7, 2) := by decide +kernel
theorem dX5_empty_137 : decode cX5_empty 137 = .ok (.iload 7, 2) := by decide +kernel
theorem dX5_empty_139 : decode cX5_empty 139 = .ok (.bipush 16, 2) := by decide +kernel
theorem dX5_empty_141 : decode cX5_empty 141 = .ok (.iload_n 2, 1) := by decide +kernel
theorem dX5_empty_142 : decode cX5_empty 142 = .ok (.iadd, 1) := by decide +kernel
theorem dX5_empty_143 : decode cX5_empty 143 = .ok (.if_icmp .ge 21, 3) := by decide +kernel
theorem dX5_empty_146 : decode cX5_empty 146 = .ok (.aload_n 0, 1) := by decide +kernel
theorem dX5_empty_147 : decode cX5_empty 147 = .ok (.iload 7, 2) := by decide +kernel
theorem dX5_empty_149 : decode cX5_empty 149 = .ok (.lconst 0, 1) := by decide +kernel
theorem dX5_empty_150 : decode cX5_empty 150 = .ok (.invokevirtual 116, 3) := by decide +kernel
theorem dX5_empty_153 : decode cX5_empty 153 = .ok (.ifCond .ne 5, 3) := by decide +kernel
theorem dX5_empty_156 : decode cX5_empty 156 = .ok (.iconst 0, 1) := by decide +kernel
theorem dX5_empty_157 : decode cX5_empty 157 = .ok (.ireturn, 1) := by decide +kernel
theorem dX5_empty_158 : decode cX5_empty 158 = .ok (.iinc 7 1, 3) := by decide +kernel
theorem dX5_empty_161 : decode cX5_empty 161 = .ok (.goto (-24), 3) := by decide +kernel
theorem dX5_empty_164 : decode cX5_empty 164 = .ok (.aload_n 0, 1) := by decide +kernel
theorem dX5_empty_165 : decode cX5_empty 165 = .ok (.iconst 0, 1) := by decide +kernel
theorem dX5_empty_166 : decode cX5_empty 166 = .ok (.aload_n 0, 1) := by decide +kernel
theorem dX5_empty_167 : decode cX5_empty 167 = .ok (.getfield 13, 3) := by decide +kernel
theorem dX5_empty_170 : decode cX5_empty 170 = .ok (.iconst 0, 1) := by decide +kernel
theorem dX5_empty_171 : decode cX5_empty 171 = .ok (.laload, 1) := by decide +kernel
theorem dX5_empty_172 : decode cX5_empty 172 = .ok (.lconst 1, 1) := by decide +kernel
theorem dX5_empty_173 : decode cX5_empty 173 = .ok (.ladd, 1) := by decide +kernel
theorem dX5_empty_174 : decode cX5_empty 174 = .ok (.invokevirtual 116, 3) := by decide +kernel
theorem dX5_empty_177 : decode cX5_empty 177 = .ok (.ifCond .ne 5, 3) := by decide +kernel
theorem dX5_empty_180 : decode cX5_empty 180 = .ok (.iconst 0, 1) := by decide +kernel
theorem dX5_empty_181 : decode cX5_empty 181 = .ok (.ireturn, 1) := by decide +kernel
theorem dX5_empty_182 : decode cX5_empty 182 = .ok (.aload_n 0, 1) := by decide +kernel
theorem dX5_empty_183 : decode cX5_empty 183 = .ok (.invokevirtual 121, 3) := by decide +kernel
theorem dX5_empty_186 : decode cX5_empty 186 = .ok (.istore 6, 2) := by decide +kernel
theorem dX5_empty_188 : decode cX5_empty 188 = .ok (.aload_n 0, 1) := by decide +kernel
theorem dX5_empty_189 : decode cX5_empty 189 = .ok (.iconst 0, 1) := by decide +kernel
theorem dX5_empty_190 : decode cX5_empty 190 = .ok (.putfield 125, 3) := by decide +kernel
theorem dX5_empty_193 : decode cX5_empty 193 = .ok (.aload_n 0, 1) := by decide +kernel
theorem dX5_empty_194 : decode cX5_empty 194 = .ok (.iconst 0, 1) := by decide +kernel
theorem dX5_empty_195 : decode cX5_empty 195 = .ok (.putfield 128, 3) := by decide +kernel
theorem dX5_empty_198 : decode cX5_empty 198 = .ok (.iconst 1, 1) := by decide +kernel
theorem dX5_empty_199 : decode cX5_empty 199 = .ok (.ireturn, 1) := by decide +kernel
theorem dX5_commit_0 : decode cX5_commit 0 = .ok (.aload_n 0, 1) := by decide +kernel
theorem dX5_commit_1 : decode cX5_commit 1 = .ok (.aload_n 0, 1) := by decide +kernel
theorem dX5_commit_2 : decode cX5_commit 2 = .ok (.invokevirtual 104, 3) := by decide +kernel
theorem dX5_commit_5 : decode cX5_commit 5 = .ok (.ifCond .eq 7, 3) := by decide +kernel
theorem dX5_commit_8 : decode cX5_commit 8 = .ok (.iconst 1, 1) := by decide +kernel
theorem dX5_commit_9 : decode cX5_commit 9 = .ok (.goto 4, 3) := by decide +kernel
theorem dX5_commit_12 : decode cX5_commit 12 = .ok (.iconst 0, 1) := by decide +kernel
theorem dX5_commit_13 : decode cX5_commit 13 = .ok (.putfield 37, 3) := by decide +kernel
theorem dX5_commit_16 : decode cX5_commit 16 = .ok (.aload_n 0, 1) := by decide +kernel
theorem dX5_commit_17 : decode cX5_commit 17 = .ok (.getfield 37, 3) := by decide +kernel
theorem dX5_commit_20 : decode cX5_commit 20 = .ok (.ifCond .le 5, 3) := by decide +kernel
theorem dX5_commit_23 : decode cX5_commit 23 = .ok (.iconst 0, 1) := by decide +kernel
theorem dX5_commit_24 : decode cX5_commit 24 = .ok (.ireturn, 1) := by decide +kernel
theorem dX5_commit_25 : decode cX5_commit 25 = .ok (.aload_n 0, 1) := by decide +kernel
theorem dX5_commit_26 : decode cX5_commit 26 = .ok (.getfield 75, 3) := by decide +kernel
theorem dX5_commit_29 : decode cX5_commit 29 = .ok (.istore_n 2, 1) := by decide +kernel
theorem dX5_commit_30 : decode cX5_commit 30 = .ok (.iload_n 2, 1) := by decide +kernel
theorem dX5_commit_31 : decode cX5_commit 31 = .ok (.ifCond .ne 13, 3) := by decide +kernel
theorem dX5_commit_34 : decode cX5_commit 34 = .ok (.aload_n 0, 1) := by decide +kernel
theorem dX5_commit_35 : decode cX5_commit 35 = .ok (.invokevirtual 57, 3) := by decide +kernel
theorem dX5_commit_38 : decode cX5_commit 38 = .ok (.aload_n 0, 1) := by decide +kernel
theorem dX5_commit_39 : decode cX5_commit 39 = .ok (.getfield 100, 3) := by decide +kernel
theorem dX5_commit_42 : decode cX5_commit 42 = .ok (.l2i, 1) := by decide +kernel
theorem dX5_commit_43 : decode cX5_commit 43 = .ok (.ireturn, 1) := by decide +kernel
theorem dX5_commit_44 : decode cX5_commit 44 = .ok (.iconst 2, 1) := by decide +kernel
theorem dX5_commit_45 : decode cX5_commit 45 = .ok (.iconst 2, 1) := by decide +kernel
theorem dX5_commit_46 : decode cX5_commit 46 = .ok (.iload_n 2, 1) := by decide +kernel
theorem dX5_commit_47 : decode cX5_commit 47 = .ok (.imul, 1) := by decide +kernel
theorem dX5_commit_48 : decode cX5_commit 48 = .ok (.iadd, 1) := by decide +kernel
theorem dX5_commit_49 : decode cX5_commit 49 = .ok (.istore_n 3, 1) := by decide +kernel
theorem dX5_commit_50 : decode cX5_commit 50 = .ok (.sipush 160, 3) := by decide +kernel
theorem dX5_commit_53 : decode cX5_commit 53 = .ok (.aload_n 0, 1) := by decide +kernel
theorem dX5_commit_54 : decode cX5_commit 54 = .ok (.getfield 125, 3) := by decide +kernel
theorem dX5_commit_57 : decode cX5_commit 57 = .ok (.isub, 1) := by decide +kernel
theorem dX5_commit_58 : decode cX5_commit 58 = .ok (.iload_n 3, 1) := by decide +kernel
theorem dX5_commit_59 : decode cX5_commit 59 = .ok (.if_icmp .ge 28, 3) := by decide +kernel
theorem dX5_commit_62 : decode cX5_commit 62 = .ok (.aload_n 0, 1) := by decide +kernel
theorem dX5_commit_63 : decode cX5_commit 63 = .ok (.getfield 125, 3) := by decide +kernel
theorem dX5_commit_66 : decode cX5_commit 66 = .ok (.ifCond .le 21, 3) := by decide +kernel
theorem dX5_commit_69 : decode cX5_commit 69 = .ok (.aload_n 0, 1) := by decide +kernel
theorem dX5_commit_70 : decode cX5_commit 70 = .ok (.aload_n 0, 1) := by decide +kernel
theorem dX5_commit_71 : decode cX5_commit 71 = .ok (.getfield 125, 3) := by decide +kernel
theorem dX5_commit_74 : decode cX5_commit 74 = .ok (.aload_n 0, 1) := by decide +kernel
theorem dX5_commit_75 : decode cX5_commit 75 = .ok (.getfield 125, 3) := by decide +kernel
theorem dX5_commit_78 : decode cX5_commit 78 = .ok (.invokevirtual 131, 3) := by decide +kernel
theorem dX5_commit_81 : decode cX5_commit 81 = .ok (.ifCond .ne 6, 3) := by decide +kernel
theorem dX5_commit_84 : decode cX5_commit 84 = .ok (.bipush (-2), 2) := by decide +kernel
theorem dX5_commit_86 : decode cX5_commit 86 = .ok (.ireturn, 1) := by decide +kernel
theorem dX5_commit_87 : decode cX5_commit 87 = .ok (.sipush 160, 3) := by decide +kernel
theorem dX5_commit_90 : decode cX5_commit 90 = .ok (.aload_n 0, 1) := by decide +kernel
theorem dX5_commit_91 : decode cX5_commit 91 = .ok (.getfield 125, 3) := by decide +kernel
theorem dX5_commit_94 : decode cX5_commit 94 = .ok (.isub, 1) := by decide +kernel
theorem dX5_commit_95 : decode cX5_commit 95 = .ok (.iload_n 3, 1) := by decide +kernel
theorem dX5_commit_96 : decode cX5_commit 96 = .ok (.if_icmp .ge 5, 3) := by decide +kernel
theorem dX5_commit_99 : decode cX5_commit 99 = .ok (.iconst (-1), 1) := by decide +kernel
theorem dX5_commit_100 : decode cX5_commit 100 = .ok (.ireturn, 1) := by decide +kernel
theorem dX5_commit_101 : decode cX5_commit 101 = .ok (.bipush 16, 2) := by decide +kernel
theorem dX5_commit_103 : decode cX5_commit 103 = .ok (.aload_n 0, 1) := by decide +kernel
theorem dX5_commit_104 : decode cX5_commit 104 = .ok (.getfield 125, 3) := by decide +kernel
theorem dX5_commit_107 : decode cX5_commit 107 = .ok (.iadd, 1) := by decide +kernel
theorem dX5_commit_108 : decode cX5_commit 108 = .ok (.istore 4, 2) := by decide +kernel
theorem dX5_commit_110 : decode cX5_commit 110 = .ok (.aload_n 0, 1) := by decide +kernel
theorem dX5_commit_111 : decode cX5_commit 111 = .ok (.iload 4, 2) := by decide +kernel
theorem dX5_commit_113 : decode cX5_commit 113 = .ok (.ldc2_w 135, 3) := by decide +kernel
theorem dX5_commit_116 : decode cX5_commit 116 = .ok (.aload_n 0, 1) := by decide +kernel
theorem dX5_commit_117 : decode cX5_commit 117 = .ok (.getfield 13, 3) := by decide +kernel
theorem dX5_commit_120 : decode cX5_commit 120 = .ok (.iconst 0, 1) := by decide +kernel
theorem dX5_commit_121 : decode cX5_commit 121 = .ok (.laload, 1) := by decide +kernel
theorem dX5_commit_122 : decode cX5_commit 122 = .ok (.lmul, 1) := by decide +kernel
theorem dX5_commit_123 : decode cX5_commit 123 = .ok (.iload_n 2, 1) := by decide +kernel
theorem dX5_commit_124 : decode cX5_commit 124 = .ok (.i2l, 1) := by decide +kernel
theorem dX5_commit_125 : decode cX5_commit 125 = .ok (.ladd, 1) := by decide +kernel
theorem dX5_commit_126 : decode cX5_commit 126 = .ok (.invokevirtual 116, 3) := by decide +kernel
theorem dX5_commit_129 : decode cX5_commit 129 = .ok (.ifCond .ne 6, 3) := by decide +kernel
theorem dX5_commit_132 : decode cX5_commit 132 = .ok (.bipush (-2), 2) := by decide +kernel
theorem dX5_commit_134 : decode cX5_commit 134 = .ok (.ireturn, 1) := by decide +kernel
theorem dX5_commit_135 : decode cX5_commit 135 = .ok (.iinc 4 1, 3) := by decide +kernel
theorem dX5_commit_138 : decode cX5_commit 138 = .ok (.iconst 0, 1) := by decide +kernel
theorem dX5_commit_139 : decode cX5_commit 139 = .ok (.istore 5, 2) := by decide +kernel
theorem dX5_commit_141 : decode cX5_commit 141 = .ok (.iload 5, 2) := by decide +kernel
theorem dX5_commit_143 : decode cX5_commit 143 = .ok (.sipush 1024, 3) := by decide +kernel
theorem dX5_commit_146 : decode cX5_commit 146 = .ok (.if_icmp .ge 55, 3) := by decide +kernel
theorem dX5_commit_149 : decode cX5_commit 149 = .ok (.aload_n 0, 1) := by decide +kernel
theorem dX5_commit_150 : decode cX5_commit 150 = .ok (.getfield 26, 3) := by decide +kernel
theorem dX5_commit_153 : decode cX5_commit 153 = .ok (.iload 5, 2) := by decide +kernel
theorem dX5_commit_155 : decode cX5_commit 155 = .ok (.baload, 1) := by decide +kernel
theorem dX5_commit_156 : decode cX5_commit 156 = .ok (.ifCond .eq 39, 3) := by decide +kernel
theorem dX5_commit_159 : decode cX5_commit 159 = .ok (.aload_n 0, 1) := by decide +kernel
theorem dX5_commit_160 : decode cX5_commit 160 = .ok (.iload 4, 2) := by decide +kernel
theorem dX5_commit_162 : decode cX5_commit 162 = .ok (.iload 5, 2) := by decide +kernel
theorem dX5_commit_164 : decode cX5_commit 164 = .ok (.i2l, 1) := by decide +kernel
theorem dX5_commit_165 : decode cX5_commit 165 = .ok (.invokevirtual 116, 3) := by decide +kernel
theorem dX5_commit_168 : decode cX5_commit 168 = .ok (.ifCond .eq 21, 3) := by decide +kernel
theorem dX5_commit_171 : decode cX5_commit 171 = .ok (.aload_n 0, 1) := by decide +kernel
theorem dX5_commit_172 : decode cX5_commit 172 = .ok (.iload 4, 2) := by decide +kernel
theorem dX5_commit_174 : decode cX5_commit 174 = .ok (.iconst 1, 1) := by decide +kernel
theorem dX5_commit_175 : decode cX5_commit 175 = .ok (.iadd, 1) := by decide +kernel
theorem dX5_commit_176 : decode cX5_commit 176 = .ok (.aload_n 0, 1) := by decide +kernel
theorem dX5_commit_177 : decode cX5_commit 177 = .ok (.getfield 30, 3) := by decide +kernel
theorem dX5_commit_180 : decode cX5_commit 180 = .ok (.iload 5, 2) := by decide +kernel
theorem dX5_commit_182 : decode cX5_commit 182 = .ok (.laload, 1) := by decide +kernel
theorem dX5_commit_183 : decode cX5_commit 183 = .ok (.invokevirtual 116, 3) := by decide +kernel
theorem dX5_commit_186 : decode cX5_commit 186 = .ok (.ifCond .ne 6, 3) := by decide +kernel
theorem dX5_commit_189 : decode cX5_commit 189 = .ok (.bipush (-2), 2) := by decide +kernel
theorem dX5_commit_191 : decode cX5_commit 191 = .ok (.ireturn, 1) := by decide +kernel
theorem dX5_commit_192 : decode cX5_commit 192 = .ok (.iinc 4 2, 3) := by decide +kernel
theorem dX5_commit_195 : decode cX5_commit 195 = .ok (.iinc 5 1, 3) := by decide +kernel
theorem dX5_commit_198 : decode cX5_commit 198 = .ok (.goto (-57), 3) := by decide +kernel
theorem dX5_commit_201 : decode cX5_commit 201 = .ok (.aload_n 0, 1) := by decide +kernel
theorem dX5_commit_202 : decode cX5_commit 202 = .ok (.iload 4, 2) := by decide +kernel
theorem dX5_commit_204 : decode cX5_commit 204 = .ok (.ldc2_w 137, 3) := by decide +kernel
theorem dX5_commit_207 : decode cX5_commit 207 = .ok (.aload_n 0, 1) := by decide +kernel
theorem dX5_commit_208 : decode cX5_commit 208 = .ok (.getfield 100, 3) := by decide +kernel
theorem dX5_commit_211 : decode cX5_commit 211 = .ok (.lsub, 1) := by decide +kernel
theorem dX5_commit_212 : decode cX5_commit 212 = .ok (.invokevirtual 116, 3) := by decide +kernel
theorem dX5_commit_215 : decode cX5_commit 215 = .ok (.ifCond .ne 6, 3) := by decide +kernel
theorem dX5_commit_218 : decode cX5_commit 218 = .ok (.bipush (-2), 2) := by decide +kernel
theorem dX5_commit_220 : decode cX5_commit 220 = .ok (.ireturn, 1) := by decide +kernel
theorem dX5_commit_221 : decode cX5_commit 221 = .ok (.iload_n 1, 1) := by decide +kernel
theorem dX5_commit_222 : decode cX5_commit 222 = .ok (.ifCond .eq 9, 3) := by decide +kernel
theorem dX5_commit_225 : decode cX5_commit 225 = .ok (.aload_n 0, 1) := by decide +kernel
theorem dX5_commit_226 : decode cX5_commit 226 = .ok (.invokevirtual 121, 3) := by decide +kernel
theorem dX5_commit_229 : decode cX5_commit 229 = .ok (.istore 5, 2) := by decide +kernel
theorem dX5_commit_231 : decode cX5_commit 231 = .ok (.iconst 0, 1) := by decide +kernel
theorem dX5_commit_232 : decode cX5_commit 232 = .ok (.istore 5, 2) := by decide +kernel
theorem dX5_commit_234 : decode cX5_commit 234 = .ok (.iload 5, 2) := by decide +kernel
theorem dX5_commit_236 : decode cX5_commit 236 = .ok (.sipush 1024, 3) := by decide +kernel
theorem dX5_commit_239 : decode cX5_commit 239 = .ok (.if_icmp .ge 43, 3) := by decide +kernel
theorem dX5_commit_242 : decode cX5_commit 242 = .ok (.aload_n 0, 1) := by decide +kernel
theorem dX5_commit_243 : decode cX5_commit 243 = .ok (.getfield 23, 3) := by decide +kernel
theorem dX5_commit_246 : decode cX5_commit 246 = .ok (.iload 5, 2) := by decide +kernel
theorem dX5_commit_248 : decode cX5_commit 248 = .ok (.aload_n 0, 1) := by decide +kernel
theorem dX5_commit_249 : decode cX5_commit 249 = .ok (.getfield 26, 3) := by decide +kernel
theorem dX5_commit_252 : decode cX5_commit 252 = .ok (.iload 5, 2) := by decide +kernel
theorem dX5_commit_254 : decode cX5_commit 254 = .ok (.baload, 1) := by decide +kernel
theorem dX5_commit_255 : decode cX5_commit 255 = .ok (.ifCond .eq 13, 3) := by decide +kernel
theorem dX5_commit_258 : decode cX5_commit 258 = .ok (.aload_n 0, 1) := by decide +kernel
theorem dX5_commit_259 : decode cX5_commit 259 = .ok (.getfield 30, 3) := by decide +kernel
theorem dX5_commit_262 : decode cX5_commit 262 = .ok (.iload 5, 2) := by decide +kernel
theorem dX5_commit_264 : decode cX5_commit 264 = .ok (.laload, 1) := by decide +kernel
theorem dX5_commit_265 : decode cX5_commit 265 = .ok (.goto 10, 3) := by decide +kernel
theorem dX5_commit_268 : decode cX5_commit 268 = .ok (.aload_n 0, 1) := by decide +kernel
theorem dX5_commit_269 : decode cX5_commit 269 = .ok (.getfield 23, 3) := by decide +kernel
theorem dX5_commit_272 : decode cX5_commit 272 = .ok (.iload 5, 2) := by decide +kernel
theorem dX5_commit_274 : decode cX5_commit 274 = .ok (.laload, 1) := by decide +kernel
theorem dX5_commit_275 : decode cX5_commit 275 = .ok (.lastore, 1) := by decide +kernel
theorem dX5_commit_276 : decode cX5_commit 276 = .ok (.iinc 5 1, 3) := by decide +kernel
theorem dX5_commit_279 : decode cX5_commit 279 = .ok (.goto (-45), 3) := by decide +kernel
theorem dX5_commit_282 : decode cX5_commit 282 = .ok (.aload_n 0, 1) := by decide +kernel
theorem dX5_commit_283 : decode cX5_commit 283 = .ok (.dup, 1) := by decide +kernel
theorem dX5_commit_284 : decode cX5_commit 284 = .ok (.getfield 125, 3) := by decide +kernel
theorem dX5_commit_287 : decode cX5_commit 287 = .ok (.iload_n 3, 1) := by decide +kernel
theorem dX5_commit_288 : decode cX5_commit 288 = .ok (.iadd, 1) := by decide +kernel
theorem dX5_commit_289 : decode cX5_commit 289 = .ok (.putfield 125, 3) := by decide +kernel
theorem dX5_commit_292 : decode cX5_commit 292 = .ok (.aload_n 0, 1) := by decide +kernel
theorem dX5_commit_293 : decode cX5_commit 293 = .ok (.dup, 1) := by decide +kernel
theorem dX5_commit_294 : decode cX5_commit 294 = .ok (.getfield 128, 3) := by decide +kernel
theorem dX5_commit_297 : decode cX5_commit 297 = .ok (.iconst 1, 1) := by decide +kernel
theorem dX5_commit_298 : decode cX5_commit 298 = .ok (.iadd, 1) := by decide +kernel
theorem dX5_commit_299 : decode cX5_commit 299 = .ok (.putfield 128, 3) := by decide +kernel
theorem dX5_commit_302 : decode cX5_commit 302 = .ok (.aload_n 0, 1) := by decide +kernel
theorem dX5_commit_303 : decode cX5_commit 303 = .ok (.dup, 1) := by decide +kernel
theorem dX5_commit_304 : decode cX5_commit 304 = .ok (.getfield 100, 3) := by decide +kernel
theorem dX5_commit_307 : decode cX5_commit 307 = .ok (.lconst 1, 1) := by decide +kernel
theorem dX5_commit_308 : decode cX5_commit 308 = .ok (.ladd, 1) := by decide +kernel
theorem dX5_commit_309 : decode cX5_commit 309 = .ok (.putfield 100, 3) := by decide +kernel
theorem dX5_commit_312 : decode cX5_commit 312 = .ok (.aload_n 0, 1) := by decide +kernel
theorem dX5_commit_313 : decode cX5_commit 313 = .ok (.invokevirtual 57, 3) := by decide +kernel
theorem dX5_commit_316 : decode cX5_commit 316 = .ok (.aload_n 0, 1) := by decide +kernel
theorem dX5_commit_317 : decode cX5_commit 317 = .ok (.getfield 100, 3) := by decide +kernel
theorem dX5_commit_320 : decode cX5_commit 320 = .ok (.l2i, 1) := by decide +kernel
theorem dX5_commit_321 : decode cX5_commit 321 = .ok (.ireturn, 1) := by decide +kernel
theorem dX5_sync_0 : decode cX5_sync 0 = .ok (.aload_n 0, 1) := by decide +kernel
theorem dX5_sync_1 : decode cX5_sync 1 = .ok (.aload_n 0, 1) := by decide +kernel
theorem dX5_sync_2 : decode cX5_sync 2 = .ok (.getfield 33, 3) := by decide +kernel
theorem dX5_sync_5 : decode cX5_sync 5 = .ok (.ifCond .eq 7, 3) := by decide +kernel
theorem dX5_sync_8 : decode cX5_sync 8 = .ok (.iconst 0, 1) := by decide +kernel
theorem dX5_sync_9 : decode cX5_sync 9 = .ok (.goto 4, 3) := by decide +kernel
theorem dX5_sync_12 : decode cX5_sync 12 = .ok (.iconst 1, 1) := by decide +kernel
theorem dX5_sync_13 : decode cX5_sync 13 = .ok (.putfield 37, 3) := by decide +kernel
theorem dX5_sync_16 : decode cX5_sync 16 = .ok (.aload_n 0, 1) := by decide +kernel
theorem dX5_sync_17 : decode cX5_sync 17 = .ok (.getfield 37, 3) := by decide +kernel
theorem dX5_sync_20 : decode cX5_sync 20 = .ok (.ifCond .le 7, 3) := by decide +kernel
theorem dX5_sync_23 : decode cX5_sync 23 = .ok (.iconst 0, 1) := by decide +kernel
theorem dX5_sync_24 : decode cX5_sync 24 = .ok (.goto 7, 3) := by decide +kernel
theorem dX5_sync_27 : decode cX5_sync 27 = .ok (.aload_n 0, 1) := by decide +kernel
theorem dX5_sync_28 : decode cX5_sync 28 = .ok (.invokevirtual 121, 3) := by decide +kernel
theorem dX5_sync_31 : decode cX5_sync 31 = .ok (.ireturn, 1) := by decide +kernel
theorem dX5_abort_0 : decode cX5_abort 0 = .ok (.aload_n 0, 1) := by decide +kernel
theorem dX5_abort_1 : decode cX5_abort 1 = .ok (.aload_n 0, 1) := by decide +kernel
theorem dX5_abort_2 : decode cX5_abort 2 = .ok (.invokevirtual 104, 3) := by decide +kernel
theorem dX5_abort_5 : decode cX5_abort 5 = .ok (.ifCond .eq 7, 3) := by decide +kernel
theorem dX5_abort_8 : decode cX5_abort 8 = .ok (.iconst 1, 1) := by decide +kernel
theorem dX5_abort_9 : decode cX5_abort 9 = .ok (.goto 4, 3) := by decide +kernel
theorem dX5_abort_12 : decode cX5_abort 12 = .ok (.iconst 0, 1) := by decide +kernel
theorem dX5_abort_13 : decode cX5_abort 13 = .ok (.putfield 37, 3) := by decide +kernel
theorem dX5_abort_16 : decode cX5_abort 16 = .ok (.aload_n 0, 1) := by decide +kernel
theorem dX5_abort_17 : decode cX5_abort 17 = .ok (.getfield 37, 3) := by decide +kernel
theorem dX5_abort_20 : decode cX5_abort 20 = .ok (.ifCond .le 5, 3) := by decide +kernel
theorem dX5_abort_23 : decode cX5_abort 23 = .ok (.iconst 0, 1) := by decide +kernel
theorem dX5_abort_24 : decode cX5_abort 24 = .ok (.ireturn, 1) := by decide +kernel
theorem dX5_abort_25 : decode cX5_abort 25 = .ok (.aload_n 0, 1) := by decide +kernel
theorem dX5_abort_26 : decode cX5_abort 26 = .ok (.getfield 75, 3) := by decide +kernel
theorem dX5_abort_29 : decode cX5_abort 29 = .ok (.istore_n 1, 1) := by decide +kernel
theorem dX5_abort_30 : decode cX5_abort 30 = .ok (.aload_n 0, 1) := by decide +kernel
theorem dX5_abort_31 : decode cX5_abort 31 = .ok (.invokevirtual 57, 3) := by decide +kernel
theorem dX5_abort_34 : decode cX5_abort 34 = .ok (.iload_n 1, 1) := by decide +kernel
theorem dX5_abort_35 : decode cX5_abort 35 = .ok (.ireturn, 1) := by decide +kernel
theorem dX5_checkpoint_0 : decode cX5_checkpoint 0 = .ok (.aload_n 0, 1) := by decide +kernel
theorem dX5_checkpoint_1 : decode cX5_checkpoint 1 = .ok (.aload_n 0, 1) := by decide +kernel
theorem dX5_checkpoint_2 : decode cX5_checkpoint 2 = .ok (.getfield 33, 3) := by decide +kernel
theorem dX5_checkpoint_5 : decode cX5_checkpoint 5 = .ok (.ifCond .eq 10, 3) := by decide +kernel
theorem dX5_checkpoint_8 : decode cX5_checkpoint 8 = .ok (.aload_n 0, 1) := by decide +kernel
theorem dX5_checkpoint_9 : decode cX5_checkpoint 9 = .ok (.getfield 72, 3) := by decide +kernel
theorem dX5_checkpoint_12 : decode cX5_checkpoint 12 = .ok (.ifCond .eq 7, 3) := by decide +kernel
theorem dX5_checkpoint_15 : decode cX5_checkpoint 15 = .ok (.iconst 1, 1) := by decide +kernel
theorem dX5_checkpoint_16 : decode cX5_checkpoint 16 = .ok (.goto 4, 3) := by decide +kernel
theorem dX5_checkpoint_19 : decode cX5_checkpoint 19 = .ok (.iconst 0, 1) := by decide +kernel
theorem dX5_checkpoint_20 : decode cX5_checkpoint 20 = .ok (.putfield 37, 3) := by decide +kernel
theorem dX5_checkpoint_23 : decode cX5_checkpoint 23 = .ok (.aload_n 0, 1) := by decide +kernel
theorem dX5_checkpoint_24 : decode cX5_checkpoint 24 = .ok (.getfield 37, 3) := by decide +kernel
theorem dX5_checkpoint_27 : decode cX5_checkpoint 27 = .ok (.ifCond .le 5, 3) := by decide +kernel
theorem dX5_checkpoint_30 : decode cX5_checkpoint 30 = .ok (.iconst 0, 1) := by decide +kernel
theorem dX5_checkpoint_31 : decode cX5_checkpoint 31 = .ok (.ireturn, 1) := by decide +kernel
theorem dX5_checkpoint_32 : decode cX5_checkpoint 32 = .ok (.aload_n 0, 1) := by decide +kernel
theorem dX5_checkpoint_33 : decode cX5_checkpoint 33 = .ok (.getfield 128, 3) := by decide +kernel
theorem dX5_checkpoint_36 : decode cX5_checkpoint 36 = .ok (.istore_n 1, 1) := by decide +kernel
theorem dX5_checkpoint_37 : decode cX5_checkpoint 37 = .ok (.iload_n 1, 1) := by decide +kernel
theorem dX5_checkpoint_38 : decode cX5_checkpoint 38 = .ok (.ifCond .eq 18, 3) := by decide +kernel
theorem dX5_checkpoint_41 : decode cX5_checkpoint 41 = .ok (.aload_n 0, 1) := by decide +kernel
theorem dX5_checkpoint_42 : decode cX5_checkpoint 42 = .ok (.aload_n 0, 1) := by decide +kernel
theorem dX5_checkpoint_43 : decode cX5_checkpoint 43 = .ok (.getfield 125, 3) := by decide +kernel
theorem dX5_checkpoint_46 : decode cX5_checkpoint 46 = .ok (.aload_n 0, 1) := by decide +kernel
theorem dX5_checkpoint_47 : decode cX5_checkpoint 47 = .ok (.getfield 125, 3) := by decide +kernel
theorem dX5_checkpoint_50 : decode cX5_checkpoint 50 = .ok (.invokevirtual 131, 3) := by decide +kernel
theorem dX5_checkpoint_53 : decode cX5_checkpoint 53 = .ok (.ifCond .eq 7, 3) := by decide +kernel
theorem dX5_checkpoint_56 : decode cX5_checkpoint 56 = .ok (.iload_n 1, 1) := by decide +kernel
theorem dX5_checkpoint_57 : decode cX5_checkpoint 57 = .ok (.goto 5, 3) := by decide +kernel
theorem dX5_checkpoint_60 : decode cX5_checkpoint 60 = .ok (.bipush (-2), 2) := by decide +kernel
theorem dX5_checkpoint_62 : decode cX5_checkpoint 62 = .ok (.ireturn, 1) := by decide +kernel
theorem dX5_power_0 : decode cX5_power 0 = .ok (.aload_n 0, 1) := by decide +kernel
theorem dX5_power_1 : decode cX5_power 1 = .ok (.iload_n 1, 1) := by decide +kernel
theorem dX5_power_2 : decode cX5_power 2 = .ok (.ifCond .lt 21, 3) := by decide +kernel
theorem dX5_power_5 : decode cX5_power 5 = .ok (.iload_n 1, 1) := by decide +kernel
theorem dX5_power_6 : decode cX5_power 6 = .ok (.sipush 5000, 3) := by decide +kernel
theorem dX5_power_9 : decode cX5_power 9 = .ok (.if_icmp .gt 14, 3) := by decide +kernel
theorem dX5_power_12 : decode cX5_power 12 = .ok (.iload_n 2, 1) := by decide +kernel
theorem dX5_power_13 : decode cX5_power 13 = .ok (.ifCond .lt 10, 3) := by decide +kernel
theorem dX5_power_16 : decode cX5_power 16 = .ok (.iload_n 2, 1) := by decide +kernel
theorem dX5_power_17 : decode cX5_power 17 = .ok (.sipush 5000, 3) := by decide +kernel
theorem dX5_power_20 : decode cX5_power 20 = .ok (.if_icmp .le 7, 3) := by decide +kernel
theorem dX5_power_23 : decode cX5_power 23 = .ok (.iconst 1, 1) := by decide +kernel
theorem dX5_power_24 : decode cX5_power 24 = .ok (.goto 4, 3) := by decide +kernel
theorem dX5_power_27 : decode cX5_power 27 = .ok (.iconst 0, 1) := by decide +kernel
theorem dX5_power_28 : decode cX5_power 28 = .ok (.putfield 37, 3) := by decide +kernel
theorem dX5_power_31 : decode cX5_power 31 = .ok (.aload_n 0, 1) := by decide +kernel
theorem dX5_power_32 : decode cX5_power 32 = .ok (.getfield 37, 3) := by decide +kernel
theorem dX5_power_35 : decode cX5_power 35 = .ok (.ifCond .le 5, 3) := by decide +kernel
theorem dX5_power_38 : decode cX5_power 38 = .ok (.iconst 0, 1) := by decide +kernel
theorem dX5_power_39 : decode cX5_power 39 = .ok (.ireturn, 1) := by decide +kernel
theorem dX5_power_40 : decode cX5_power 40 = .ok (.aload_n 0, 1) := by decide +kernel
theorem dX5_power_41 : decode cX5_power 41 = .ok (.getfield 51, 3) := by decide +kernel
theorem dX5_power_44 : decode cX5_power 44 = .ok (.istore_n 3, 1) := by decide +kernel
theorem dX5_power_45 : decode cX5_power 45 = .ok (.aload_n 0, 1) := by decide +kernel
theorem dX5_power_46 : decode cX5_power 46 = .ok (.iload_n 1, 1) := by decide +kernel
theorem dX5_power_47 : decode cX5_power 47 = .ok (.putfield 51, 3) := by decide +kernel
theorem dX5_power_50 : decode cX5_power 50 = .ok (.aload_n 0, 1) := by decide +kernel
theorem dX5_power_51 : decode cX5_power 51 = .ok (.iload_n 2, 1) := by decide +kernel
theorem dX5_power_52 : decode cX5_power 52 = .ok (.putfield 63, 3) := by decide +kernel
theorem dX5_power_55 : decode cX5_power 55 = .ok (.iload_n 3, 1) := by decide +kernel
theorem dX5_power_56 : decode cX5_power 56 = .ok (.ireturn, 1) := by decide +kernel
theorem dX5_cut_0 : decode cX5_cut 0 = .ok (.aload_n 0, 1) := by decide +kernel
theorem dX5_cut_1 : decode cX5_cut 1 = .ok (.aload_n 0, 1) := by decide +kernel
theorem dX5_cut_2 : decode cX5_cut 2 = .ok (.getfield 33, 3) := by decide +kernel
theorem dX5_cut_5 : decode cX5_cut 5 = .ok (.ifCond .ne 7, 3) := by decide +kernel
theorem dX5_cut_8 : decode cX5_cut 8 = .ok (.iconst 1, 1) := by decide +kernel
theorem dX5_cut_9 : decode cX5_cut 9 = .ok (.goto 12, 3) := by decide +kernel
theorem dX5_cut_12 : decode cX5_cut 12 = .ok (.iload_n 1, 1) := by decide +kernel
theorem dX5_cut_13 : decode cX5_cut 13 = .ok (.ifCond .ge 7, 3) := by decide +kernel
theorem dX5_cut_16 : decode cX5_cut 16 = .ok (.iconst 2, 1) := by decide +kernel
theorem dX5_cut_17 : decode cX5_cut 17 = .ok (.goto 4, 3) := by decide +kernel
theorem dX5_cut_20 : decode cX5_cut 20 = .ok (.iconst 0, 1) := by decide +kernel
theorem dX5_cut_21 : decode cX5_cut 21 = .ok (.putfield 37, 3) := by decide +kernel
theorem dX5_cut_24 : decode cX5_cut 24 = .ok (.aload_n 0, 1) := by decide +kernel
theorem dX5_cut_25 : decode cX5_cut 25 = .ok (.getfield 37, 3) := by decide +kernel
theorem dX5_cut_28 : decode cX5_cut 28 = .ok (.ifCond .le 5, 3) := by decide +kernel
theorem dX5_cut_31 : decode cX5_cut 31 = .ok (.iconst 0, 1) := by decide +kernel
theorem dX5_cut_32 : decode cX5_cut 32 = .ok (.ireturn, 1) := by decide +kernel
theorem dX5_cut_33 : decode cX5_cut 33 = .ok (.aload_n 0, 1) := by decide +kernel
theorem dX5_cut_34 : decode cX5_cut 34 = .ok (.getfield 41, 3) := by decide +kernel
theorem dX5_cut_37 : decode cX5_cut 37 = .ok (.istore_n 2, 1) := by decide +kernel
theorem dX5_cut_38 : decode cX5_cut 38 = .ok (.aload_n 0, 1) := by decide +kernel
theorem dX5_cut_39 : decode cX5_cut 39 = .ok (.iload_n 1, 1) := by decide +kernel
theorem dX5_cut_40 : decode cX5_cut 40 = .ok (.invokevirtual 66, 3) := by decide +kernel
theorem dX5_cut_43 : decode cX5_cut 43 = .ok (.iload_n 2, 1) := by decide +kernel
theorem dX5_cut_44 : decode cX5_cut 44 = .ok (.ireturn, 1) := by decide +kernel
theorem dX5_find_0 : decode cX5_find 0 = .ok (.bipush 16, 2) := by decide +kernel
theorem dX5_find_2 : decode cX5_find 2 = .ok (.istore_n 1, 1) := by decide +kernel
theorem dX5_find_3 : decode cX5_find 3 = .ok (.aload_n 0, 1) := by decide +kernel
theorem dX5_find_4 : decode cX5_find 4 = .ok (.iconst 0, 1) := by decide +kernel
theorem dX5_find_5 : decode cX5_find 5 = .ok (.putfield 128, 3) := by decide +kernel
theorem dX5_find_8 : decode cX5_find 8 = .ok (.iconst 1, 1) := by decide +kernel
theorem dX5_find_9 : decode cX5_find 9 = .ok (.istore_n 2, 1) := by decide +kernel
theorem dX5_find_10 : decode cX5_find 10 = .ok (.iload_n 2, 1) := by decide +kernel
theorem dX5_find_11 : decode cX5_find 11 = .ok (.ifCond .eq 111, 3) := by decide +kernel
theorem dX5_find_14 : decode cX5_find 14 = .ok (.iload_n 1, 1) := by decide +kernel
theorem dX5_find_15 : decode cX5_find 15 = .ok (.sipush 176, 3) := by decide +kernel
theorem dX5_find_18 : decode cX5_find 18 = .ok (.if_icmp .ge 104, 3) := by decide +kernel
theorem dX5_find_21 : decode cX5_find 21 = .ok (.aload_n 0, 1) := by decide +kernel
theorem dX5_find_22 : decode cX5_find 22 = .ok (.getfield 13, 3) := by decide +kernel
theorem dX5_find_25 : decode cX5_find 25 = .ok (.iload_n 1, 1) := by decide +kernel
theorem dX5_find_26 : decode cX5_find 26 = .ok (.laload, 1) := by decide +kernel
theorem dX5_find_27 : decode cX5_find 27 = .ok (.ldc2_w 135, 3) := by decide +kernel
theorem dX5_find_30 : decode cX5_find 30 = .ok (.aload_n 0, 1) := by decide +kernel
theorem dX5_find_31 : decode cX5_find 31 = .ok (.getfield 13, 3) := by decide +kernel
theorem dX5_find_34 : decode cX5_find 34 = .ok (.iconst 0, 1) := by decide +kernel
theorem dX5_find_35 : decode cX5_find 35 = .ok (.laload, 1) := by decide +kernel
theorem dX5_find_36 : decode cX5_find 36 = .ok (.lmul, 1) := by decide +kernel
theorem dX5_find_37 : decode cX5_find 37 = .ok (.lsub, 1) := by decide +kernel
theorem dX5_find_38 : decode cX5_find 38 = .ok (.lstore_n 3, 1) := by decide +kernel
theorem dX5_find_39 : decode cX5_find 39 = .ok (.lload_n 3, 1) := by decide +kernel
theorem dX5_find_40 : decode cX5_find 40 = .ok (.lconst 1, 1) := by decide +kernel
theorem dX5_find_41 : decode cX5_find 41 = .ok (.lcmp, 1) := by decide +kernel
theorem dX5_find_42 : decode cX5_find 42 = .ok (.ifCond .lt 52, 3) := by decide +kernel
theorem dX5_find_45 : decode cX5_find 45 = .ok (.lload_n 3, 1) := by decide +kernel
theorem dX5_find_46 : decode cX5_find 46 = .ok (.ldc2_w 139, 3) := by decide +kernel
theorem dX5_find_49 : decode cX5_find 49 = .ok (.lcmp, 1) := by decide +kernel
theorem dX5_find_50 : decode cX5_find 50 = .ok (.ifCond .gt 44, 3) := by decide +kernel
theorem dX5_find_53 : decode cX5_find 53 = .ok (.iload_n 1, 1) := by decide +kernel
theorem dX5_find_54 : decode cX5_find 54 = .ok (.i2l, 1) := by decide +kernel
theorem dX5_find_55 : decode cX5_find 55 = .ok (.ldc2_w 82, 3) := by decide +kernel
theorem dX5_find_58 : decode cX5_find 58 = .ok (.ladd, 1) := by decide +kernel
theorem dX5_find_59 : decode cX5_find 59 = .ok (.ldc2_w 82, 3) := by decide +kernel
theorem dX5_find_62 : decode cX5_find 62 = .ok (.lload_n 3, 1) := by decide +kernel
theorem dX5_find_63 : decode cX5_find 63 = .ok (.lmul, 1) := by decide +kernel
theorem dX5_find_64 : decode cX5_find 64 = .ok (.ladd, 1) := by decide +kernel
theorem dX5_find_65 : decode cX5_find 65 = .ok (.ldc2_w 141, 3) := by decide +kernel
theorem dX5_find_68 : decode cX5_find 68 = .ok (.lcmp, 1) := by decide +kernel
theorem dX5_find_69 : decode cX5_find 69 = .ok (.ifCond .gt 25, 3) := by decide +kernel
theorem dX5_find_72 : decode cX5_find 72 = .ok (.aload_n 0, 1) := by decide +kernel
theorem dX5_find_73 : decode cX5_find 73 = .ok (.getfield 13, 3) := by decide +kernel
theorem dX5_find_76 : decode cX5_find 76 = .ok (.iload_n 1, 1) := by decide +kernel
theorem dX5_find_77 : decode cX5_find 77 = .ok (.iconst 1, 1) := by decide +kernel
theorem dX5_find_78 : decode cX5_find 78 = .ok (.iadd, 1) := by decide +kernel
theorem dX5_find_79 : decode cX5_find 79 = .ok (.iconst 2, 1) := by decide +kernel
theorem dX5_find_80 : decode cX5_find 80 = .ok (.lload_n 3, 1) := by decide +kernel
theorem dX5_find_81 : decode cX5_find 81 = .ok (.l2i, 1) := by decide +kernel
theorem dX5_find_82 : decode cX5_find 82 = .ok (.imul, 1) := by decide +kernel
theorem dX5_find_83 : decode cX5_find 83 = .ok (.iadd, 1) := by decide +kernel
theorem dX5_find_84 : decode cX5_find 84 = .ok (.laload, 1) := by decide +kernel
theorem dX5_find_85 : decode cX5_find 85 = .ok (.lconst 0, 1) := by decide +kernel
theorem dX5_find_86 : decode cX5_find 86 = .ok (.lcmp, 1) := by decide +kernel
theorem dX5_find_87 : decode cX5_find 87 = .ok (.ifCond .ge 7, 3) := by decide +kernel
theorem dX5_find_90 : decode cX5_find 90 = .ok (.iconst 1, 1) := by decide +kernel
theorem dX5_find_91 : decode cX5_find 91 = .ok (.goto 4, 3) := by decide +kernel
theorem dX5_find_94 : decode cX5_find 94 = .ok (.iconst 0, 1) := by decide +kernel
theorem dX5_find_95 : decode cX5_find 95 = .ok (.istore_n 2, 1) := by decide +kernel
theorem dX5_find_96 : decode cX5_find 96 = .ok (.iload_n 2, 1) := by decide +kernel
theorem dX5_find_97 : decode cX5_find 97 = .ok (.ifCond .eq 22, 3) := by decide +kernel
theorem dX5_find_100 : decode cX5_find 100 = .ok (.aload_n 0, 1) := by decide +kernel
theorem dX5_find_101 : decode cX5_find 101 = .ok (.dup, 1) := by decide +kernel
theorem dX5_find_102 : decode cX5_find 102 = .ok (.getfield 128, 3) := by decide +kernel
theorem dX5_find_105 : decode cX5_find 105 = .ok (.iconst 1, 1) := by decide +kernel
theorem dX5_find_106 : decode cX5_find 106 = .ok (.iadd, 1) := by decide +kernel
theorem dX5_find_107 : decode cX5_find 107 = .ok (.putfield 128, 3) := by decide +kernel
theorem dX5_find_110 : decode cX5_find 110 = .ok (.iload_n 1, 1) := by decide +kernel
theorem dX5_find_111 : decode cX5_find 111 = .ok (.iconst 2, 1) := by decide +kernel
theorem dX5_find_112 : decode cX5_find 112 = .ok (.iconst 2, 1) := by decide +kernel
theorem dX5_find_113 : decode cX5_find 113 = .ok (.lload_n 3, 1) := by decide +kernel
theorem dX5_find_114 : decode cX5_find 114 = .ok (.l2i, 1) := by decide +kernel
theorem dX5_find_115 : decode cX5_find 115 = .ok (.imul, 1) := by decide +kernel
theorem dX5_find_116 : decode cX5_find 116 = .ok (.iadd, 1) := by decide +kernel
theorem dX5_find_117 : decode cX5_find 117 = .ok (.iadd, 1) := by decide +kernel
theorem dX5_find_118 : decode cX5_find 118 = .ok (.istore_n 1, 1) := by decide +kernel
theorem dX5_find_119 : decode cX5_find 119 = .ok (.goto (-109), 3) := by decide +kernel
theorem dX5_find_122 : decode cX5_find 122 = .ok (.iload_n 1, 1) := by decide +kernel
theorem dX5_find_123 : decode cX5_find 123 = .ok (.bipush 16, 2) := by decide +kernel
theorem dX5_find_125 : decode cX5_find 125 = .ok (.isub, 1) := by decide +kernel
theorem dX5_find_126 : decode cX5_find 126 = .ok (.ireturn, 1) := by decide +kernel
theorem dX5_open_0 : decode cX5_open 0 = .ok (.aload_n 0, 1) := by decide +kernel
theorem dX5_open_1 : decode cX5_open 1 = .ok (.aload_n 0, 1) := by decide +kernel
theorem dX5_open_2 : decode cX5_open 2 = .ok (.getfield 33, 3) := by decide +kernel
theorem dX5_open_5 : decode cX5_open 5 = .ok (.ifCond .eq 7, 3) := by decide +kernel
theorem dX5_open_8 : decode cX5_open 8 = .ok (.iconst 1, 1) := by decide +kernel
theorem dX5_open_9 : decode cX5_open 9 = .ok (.goto 4, 3) := by decide +kernel
theorem dX5_open_12 : decode cX5_open 12 = .ok (.iconst 0, 1) := by decide +kernel
theorem dX5_open_13 : decode cX5_open 13 = .ok (.putfield 37, 3) := by decide +kernel
theorem dX5_open_16 : decode cX5_open 16 = .ok (.aload_n 0, 1) := by decide +kernel
theorem dX5_open_17 : decode cX5_open 17 = .ok (.getfield 37, 3) := by decide +kernel
theorem dX5_open_20 : decode cX5_open 20 = .ok (.ifCond .le 5, 3) := by decide +kernel
theorem dX5_open_23 : decode cX5_open 23 = .ok (.iconst 0, 1) := by decide +kernel
theorem dX5_open_24 : decode cX5_open 24 = .ok (.ireturn, 1) := by decide +kernel
theorem dX5_open_25 : decode cX5_open 25 = .ok (.aload_n 0, 1) := by decide +kernel
theorem dX5_open_26 : decode cX5_open 26 = .ok (.iconst 1, 1) := by decide +kernel
theorem dX5_open_27 : decode cX5_open 27 = .ok (.putfield 33, 3) := by decide +kernel
theorem dX5_open_30 : decode cX5_open 30 = .ok (.aload_n 0, 1) := by decide +kernel
theorem dX5_open_31 : decode cX5_open 31 = .ok (.invokevirtual 57, 3) := by decide +kernel
theorem dX5_open_34 : decode cX5_open 34 = .ok (.aload_n 0, 1) := by decide +kernel
theorem dX5_open_35 : decode cX5_open 35 = .ok (.iconst 0, 1) := by decide +kernel
theorem dX5_open_36 : decode cX5_open 36 = .ok (.putfield 125, 3) := by decide +kernel
theorem dX5_open_39 : decode cX5_open 39 = .ok (.aload_n 0, 1) := by decide +kernel
theorem dX5_open_40 : decode cX5_open 40 = .ok (.iconst 0, 1) := by decide +kernel
theorem dX5_open_41 : decode cX5_open 41 = .ok (.putfield 128, 3) := by decide +kernel
theorem dX5_open_44 : decode cX5_open 44 = .ok (.iconst 0, 1) := by decide +kernel
theorem dX5_open_45 : decode cX5_open 45 = .ok (.istore_n 1, 1) := by decide +kernel
theorem dX5_open_46 : decode cX5_open 46 = .ok (.aload_n 0, 1) := by decide +kernel
theorem dX5_open_47 : decode cX5_open 47 = .ok (.getfield 13, 3) := by decide +kernel
theorem dX5_open_50 : decode cX5_open 50 = .ok (.iconst 0, 1) := by decide +kernel
theorem dX5_open_51 : decode cX5_open 51 = .ok (.laload, 1) := by decide +kernel
theorem dX5_open_52 : decode cX5_open 52 = .ok (.lconst 0, 1) := by decide +kernel
theorem dX5_open_53 : decode cX5_open 53 = .ok (.lcmp, 1) := by decide +kernel
theorem dX5_open_54 : decode cX5_open 54 = .ok (.ifCond .ne 45, 3) := by decide +kernel
theorem dX5_open_57 : decode cX5_open 57 = .ok (.aload_n 0, 1) := by decide +kernel
theorem dX5_open_58 : decode cX5_open 58 = .ok (.sipush 176, 3) := by decide +kernel
theorem dX5_open_61 : decode cX5_open 61 = .ok (.ldc2_w 143, 3) := by decide +kernel
theorem dX5_open_64 : decode cX5_open 64 = .ok (.invokevirtual 116, 3) := by decide +kernel
theorem dX5_open_67 : decode cX5_open 67 = .ok (.ifCond .eq 21, 3) := by decide +kernel
theorem dX5_open_70 : decode cX5_open 70 = .ok (.aload_n 0, 1) := by decide +kernel
theorem dX5_open_71 : decode cX5_open 71 = .ok (.iconst 1, 1) := by decide +kernel
theorem dX5_open_72 : decode cX5_open 72 = .ok (.lconst 0, 1) := by decide +kernel
theorem dX5_open_73 : decode cX5_open 73 = .ok (.invokevirtual 116, 3) := by decide +kernel
theorem dX5_open_76 : decode cX5_open 76 = .ok (.ifCond .eq 12, 3) := by decide +kernel
theorem dX5_open_79 : decode cX5_open 79 = .ok (.aload_n 0, 1) := by decide +kernel
theorem dX5_open_80 : decode cX5_open 80 = .ok (.iconst 0, 1) := by decide +kernel
theorem dX5_open_81 : decode cX5_open 81 = .ok (.lconst 1, 1) := by decide +kernel
theorem dX5_open_82 : decode cX5_open 82 = .ok (.invokevirtual 116, 3) := by decide +kernel
theorem dX5_open_85 : decode cX5_open 85 = .ok (.ifCond .ne 6, 3) := by decide +kernel
theorem dX5_open_88 : decode cX5_open 88 = .ok (.bipush (-2), 2) := by decide +kernel
theorem dX5_open_90 : decode cX5_open 90 = .ok (.ireturn, 1) := by decide +kernel
theorem dX5_open_91 : decode cX5_open 91 = .ok (.aload_n 0, 1) := by decide +kernel
theorem dX5_open_92 : decode cX5_open 92 = .ok (.invokevirtual 121, 3) := by decide +kernel
theorem dX5_open_95 : decode cX5_open 95 = .ok (.istore_n 2, 1) := by decide +kernel
theorem dX5_open_96 : decode cX5_open 96 = .ok (.goto 73, 3) := by decide +kernel
theorem dX5_open_99 : decode cX5_open 99 = .ok (.aload_n 0, 1) := by decide +kernel
theorem dX5_open_100 : decode cX5_open 100 = .ok (.invokevirtual 145, 3) := by decide +kernel
theorem dX5_open_103 : decode cX5_open 103 = .ok (.istore_n 2, 1) := by decide +kernel
theorem dX5_open_104 : decode cX5_open 104 = .ok (.aload_n 0, 1) := by decide +kernel
theorem dX5_open_105 : decode cX5_open 105 = .ok (.getfield 128, 3) := by decide +kernel
theorem dX5_open_108 : decode cX5_open 108 = .ok (.istore_n 1, 1) := by decide +kernel
theorem dX5_open_109 : decode cX5_open 109 = .ok (.iconst 0, 1) := by decide +kernel
theorem dX5_open_110 : decode cX5_open 110 = .ok (.istore_n 3, 1) := by decide +kernel
theorem dX5_open_111 : decode cX5_open 111 = .ok (.bipush 16, 2) := by decide +kernel
theorem dX5_open_113 : decode cX5_open 113 = .ok (.istore 4, 2) := by decide +kernel
theorem dX5_open_115 : decode cX5_open 115 = .ok (.iload 4, 2) := by decide +kernel
theorem dX5_open_117 : decode cX5_open 117 = .ok (.sipush 176, 3) := by decide +kernel
theorem dX5_open_120 : decode cX5_open 120 = .ok (.if_icmp .ge 33, 3) := by decide +kernel
theorem dX5_open_123 : decode cX5_open 123 = .ok (.aload_n 0, 1) := by decide +kernel
theorem dX5_open_124 : decode cX5_open 124 = .ok (.getfield 13, 3) := by decide +kernel
theorem dX5_open_127 : decode cX5_open 127 = .ok (.iload 4, 2) := by decide +kernel
theorem dX5_open_129 : decode cX5_open 129 = .ok (.laload, 1) := by decide +kernel
theorem dX5_open_130 : decode cX5_open 130 = .ok (.lconst 0, 1) := by decide +kernel
theorem dX5_open_131 : decode cX5_open 131 = .ok (.lcmp, 1) := by decide +kernel
theorem dX5_open_132 : decode cX5_open 132 = .ok (.ifCond .eq 13, 3) := by decide +kernel
theorem dX5_open_135 : decode cX5_open 135 = .ok (.iload 4, 2) := by decide +kernel
theorem dX5_open_137 : decode cX5_open 137 = .ok (.bipush 16, 2) := by decide +kernel
theorem dX5_open_139 : decode cX5_open 139 = .ok (.isub, 1) := by decide +kernel
theorem dX5_open_140 : decode cX5_open 140 = .ok (.iconst 1, 1) := by decide +kernel
theorem dX5_open_141 : decode cX5_open 141 = .ok (.iadd, 1) := by decide +kernel
theorem dX5_open_142 : decode cX5_open 142 = .ok (.goto 4, 3) := by decide +kernel
theorem dX5_open_145 : decode cX5_open 145 = .ok (.iload_n 3, 1) := by decide +kernel
theorem dX5_open_146 : decode cX5_open 146 = .ok (.istore_n 3, 1) := by decide +kernel
theorem dX5_open_147 : decode cX5_open 147 = .ok (.iinc 4 1, 3) := by decide +kernel
theorem dX5_open_150 : decode cX5_open 150 = .ok (.goto (-35), 3) := by decide +kernel
theorem dX5_open_153 : decode cX5_open 153 = .ok (.iload_n 3, 1) := by decide +kernel
theorem dX5_open_154 : decode cX5_open 154 = .ok (.ifCond .le 15, 3) := by decide +kernel
theorem dX5_open_157 : decode cX5_open 157 = .ok (.aload_n 0, 1) := by decide +kernel
theorem dX5_open_158 : decode cX5_open 158 = .ok (.iload_n 2, 1) := by decide +kernel
theorem dX5_open_159 : decode cX5_open 159 = .ok (.iload_n 3, 1) := by decide +kernel
theorem dX5_open_160 : decode cX5_open 160 = .ok (.invokevirtual 131, 3) := by decide +kernel
theorem dX5_open_163 : decode cX5_open 163 = .ok (.ifCond .ne 6, 3) := by decide +kernel
theorem dX5_open_166 : decode cX5_open 166 = .ok (.bipush (-2), 2) := by decide +kernel
theorem dX5_open_168 : decode cX5_open 168 = .ok (.ireturn, 1) := by decide +kernel
theorem dX5_open_169 : decode cX5_open 169 = .ok (.aload_n 0, 1) := by decide +kernel
theorem dX5_open_170 : decode cX5_open 170 = .ok (.iconst 0, 1) := by decide +kernel
theorem dX5_open_171 : decode cX5_open 171 = .ok (.putfield 125, 3) := by decide +kernel
theorem dX5_open_174 : decode cX5_open 174 = .ok (.aload_n 0, 1) := by decide +kernel
theorem dX5_open_175 : decode cX5_open 175 = .ok (.iconst 0, 1) := by decide +kernel
theorem dX5_open_176 : decode cX5_open 176 = .ok (.putfield 128, 3) := by decide +kernel
theorem dX5_open_179 : decode cX5_open 179 = .ok (.iconst 0, 1) := by decide +kernel
theorem dX5_open_180 : decode cX5_open 180 = .ok (.istore_n 2, 1) := by decide +kernel
theorem dX5_open_181 : decode cX5_open 181 = .ok (.iload_n 2, 1) := by decide +kernel
theorem dX5_open_182 : decode cX5_open 182 = .ok (.sipush 1024, 3) := by decide +kernel
theorem dX5_open_185 : decode cX5_open 185 = .ok (.if_icmp .ge 21, 3) := by decide +kernel
theorem dX5_open_188 : decode cX5_open 188 = .ok (.aload_n 0, 1) := by decide +kernel
theorem dX5_open_189 : decode cX5_open 189 = .ok (.getfield 23, 3) := by decide +kernel
theorem dX5_open_192 : decode cX5_open 192 = .ok (.iload_n 2, 1) := by decide +kernel
theorem dX5_open_193 : decode cX5_open 193 = .ok (.aload_n 0, 1) := by decide +kernel
theorem dX5_open_194 : decode cX5_open 194 = .ok (.getfield 13, 3) := by decide +kernel
theorem dX5_open_197 : decode cX5_open 197 = .ok (.iload_n 2, 1) := by decide +kernel
theorem dX5_open_198 : decode cX5_open 198 = .ok (.laload, 1) := by decide +kernel
theorem dX5_open_199 : decode cX5_open 199 = .ok (.lastore, 1) := by decide +kernel
theorem dX5_open_200 : decode cX5_open 200 = .ok (.iinc 2 1, 3) := by decide +kernel
theorem dX5_open_203 : decode cX5_open 203 = .ok (.goto (-22), 3) := by decide +kernel
theorem dX5_open_206 : decode cX5_open 206 = .ok (.aload_n 0, 1) := by decide +kernel
theorem dX5_open_207 : decode cX5_open 207 = .ok (.aload_n 0, 1) := by decide +kernel
theorem dX5_open_208 : decode cX5_open 208 = .ok (.getfield 13, 3) := by decide +kernel
theorem dX5_open_211 : decode cX5_open 211 = .ok (.iconst 2, 1) := by decide +kernel
theorem dX5_open_212 : decode cX5_open 212 = .ok (.laload, 1) := by decide +kernel
theorem dX5_open_213 : decode cX5_open 213 = .ok (.putfield 100, 3) := by decide +kernel
theorem dX5_open_216 : decode cX5_open 216 = .ok (.iload_n 1, 1) := by decide +kernel
theorem dX5_open_217 : decode cX5_open 217 = .ok (.ireturn, 1) := by decide +kernel
theorem dX5_word_0 : decode cX5_word 0 = .ok (.aload_n 0, 1) := by decide +kernel
theorem dX5_word_1 : decode cX5_word 1 = .ok (.iload_n 1, 1) := by decide +kernel
theorem dX5_word_2 : decode cX5_word 2 = .ok (.ifCond .lt 10, 3) := by decide +kernel
theorem dX5_word_5 : decode cX5_word 5 = .ok (.iload_n 1, 1) := by decide +kernel
theorem dX5_word_6 : decode cX5_word 6 = .ok (.sipush 1024, 3) := by decide +kernel
theorem dX5_word_9 : decode cX5_word 9 = .ok (.if_icmp .lt 7, 3) := by decide +kernel
theorem dX5_word_12 : decode cX5_word 12 = .ok (.iconst 1, 1) := by decide +kernel
theorem dX5_word_13 : decode cX5_word 13 = .ok (.goto 4, 3) := by decide +kernel
theorem dX5_word_16 : decode cX5_word 16 = .ok (.iconst 0, 1) := by decide +kernel
theorem dX5_word_17 : decode cX5_word 17 = .ok (.putfield 37, 3) := by decide +kernel
theorem dX5_word_20 : decode cX5_word 20 = .ok (.aload_n 0, 1) := by decide +kernel
theorem dX5_word_21 : decode cX5_word 21 = .ok (.getfield 37, 3) := by decide +kernel
theorem dX5_word_24 : decode cX5_word 24 = .ok (.ifCond .le 7, 3) := by decide +kernel
theorem dX5_word_27 : decode cX5_word 27 = .ok (.lconst 0, 1) := by decide +kernel
theorem dX5_word_28 : decode cX5_word 28 = .ok (.goto 9, 3) := by decide +kernel
theorem dX5_word_31 : decode cX5_word 31 = .ok (.aload_n 0, 1) := by decide +kernel
theorem dX5_word_32 : decode cX5_word 32 = .ok (.getfield 7, 3) := by decide +kernel
theorem dX5_word_35 : decode cX5_word 35 = .ok (.iload_n 1, 1) := by decide +kernel
theorem dX5_word_36 : decode cX5_word 36 = .ok (.laload, 1) := by decide +kernel
theorem dX5_word_37 : decode cX5_word 37 = .ok (.lreturn, 1) := by decide +kernel
theorem dX5_block_0 : decode cX5_block 0 = .ok (.aload_n 0, 1) := by decide +kernel
theorem dX5_block_1 : decode cX5_block 1 = .ok (.aload_n 0, 1) := by decide +kernel
theorem dX5_block_2 : decode cX5_block 2 = .ok (.getfield 33, 3) := by decide +kernel
theorem dX5_block_5 : decode cX5_block 5 = .ok (.ifCond .ne 7, 3) := by decide +kernel
theorem dX5_block_8 : decode cX5_block 8 = .ok (.iconst 1, 1) := by decide +kernel
theorem dX5_block_9 : decode cX5_block 9 = .ok (.goto 17, 3) := by decide +kernel
theorem dX5_block_12 : decode cX5_block 12 = .ok (.iload_n 2, 1) := by decide +kernel
theorem dX5_block_13 : decode cX5_block 13 = .ok (.ifCond .lt 8, 3) := by decide +kernel
theorem dX5_block_16 : decode cX5_block 16 = .ok (.iload_n 2, 1) := by decide +kernel
theorem dX5_block_17 : decode cX5_block 17 = .ok (.iconst 2, 1) := by decide +kernel
theorem dX5_block_18 : decode cX5_block 18 = .ok (.if_icmp .le 7, 3) := by decide +kernel
theorem dX5_block_21 : decode cX5_block 21 = .ok (.iconst 2, 1) := by decide +kernel
theorem dX5_block_22 : decode cX5_block 22 = .ok (.goto 4, 3) := by decide +kernel
theorem dX5_block_25 : decode cX5_block 25 = .ok (.iconst 0, 1) := by decide +kernel
theorem dX5_block_26 : decode cX5_block 26 = .ok (.putfield 37, 3) := by decide +kernel
theorem dX5_block_29 : decode cX5_block 29 = .ok (.aload_n 0, 1) := by decide +kernel
theorem dX5_block_30 : decode cX5_block 30 = .ok (.getfield 37, 3) := by decide +kernel
theorem dX5_block_33 : decode cX5_block 33 = .ok (.ifCond .le 5, 3) := by decide +kernel
theorem dX5_block_36 : decode cX5_block 36 = .ok (.iconst 0, 1) := by decide +kernel
theorem dX5_block_37 : decode cX5_block 37 = .ok (.ireturn, 1) := by decide +kernel
theorem dX5_block_38 : decode cX5_block 38 = .ok (.sipush 176, 3) := by decide +kernel
theorem dX5_block_41 : decode cX5_block 41 = .ok (.istore_n 3, 1) := by decide +kernel
theorem dX5_block_42 : decode cX5_block 42 = .ok (.iconst 0, 1) := by decide +kernel
theorem dX5_block_43 : decode cX5_block 43 = .ok (.istore 4, 2) := by decide +kernel
theorem dX5_block_45 : decode cX5_block 45 = .ok (.iload_n 3, 1) := by decide +kernel
theorem dX5_block_46 : decode cX5_block 46 = .ok (.sipush 1024, 3) := by decide +kernel
theorem dX5_block_49 : decode cX5_block 49 = .ok (.if_icmp .ge 25, 3) := by decide +kernel
theorem dX5_block_52 : decode cX5_block 52 = .ok (.iload 4, 2) := by decide +kernel
theorem dX5_block_54 : decode cX5_block 54 = .ok (.iload_n 1, 1) := by decide +kernel
theorem dX5_block_55 : decode cX5_block 55 = .ok (.if_icmp .ge 19, 3) := by decide +kernel
theorem dX5_block_58 : decode cX5_block 58 = .ok (.iload_n 3, 1) := by decide +kernel
theorem dX5_block_59 : decode cX5_block 59 = .ok (.aload_n 0, 1) := by decide +kernel
theorem dX5_block_60 : decode cX5_block 60 = .ok (.iload_n 3, 1) := by decide +kernel
theorem dX5_block_61 : decode cX5_block 61 = .ok (.invokevirtual 84, 3) := by decide +kernel
theorem dX5_block_64 : decode cX5_block 64 = .ok (.iconst 1, 1) := by decide +kernel
theorem dX5_block_65 : decode cX5_block 65 = .ok (.iadd, 1) := by decide +kernel
theorem dX5_block_66 : decode cX5_block 66 = .ok (.iadd, 1) := by decide +kernel
theorem dX5_block_67 : decode cX5_block 67 = .ok (.istore_n 3, 1) := by decide +kernel
theorem dX5_block_68 : decode cX5_block 68 = .ok (.iinc 4 1, 3) := by decide +kernel
theorem dX5_block_71 : decode cX5_block 71 = .ok (.goto (-26), 3) := by decide +kernel
theorem dX5_block_74 : decode cX5_block 74 = .ok (.iload_n 1, 1) := by decide +kernel
theorem dX5_block_75 : decode cX5_block 75 = .ok (.ifCond .lt 10, 3) := by decide +kernel
theorem dX5_block_78 : decode cX5_block 78 = .ok (.iload_n 3, 1) := by decide +kernel
theorem dX5_block_79 : decode cX5_block 79 = .ok (.sipush 1024, 3) := by decide +kernel
theorem dX5_block_82 : decode cX5_block 82 = .ok (.if_icmp .lt 5, 3) := by decide +kernel
theorem dX5_block_85 : decode cX5_block 85 = .ok (.iconst (-1), 1) := by decide +kernel
theorem dX5_block_86 : decode cX5_block 86 = .ok (.ireturn, 1) := by decide +kernel
theorem dX5_block_87 : decode cX5_block 87 = .ok (.iload_n 2, 1) := by decide +kernel
theorem dX5_block_88 : decode cX5_block 88 = .ok (.ifCond .ne 9, 3) := by decide +kernel
theorem dX5_block_91 : decode cX5_block 91 = .ok (.iload_n 3, 1) := by decide +kernel
theorem dX5_block_92 : decode cX5_block 92 = .ok (.iconst 1, 1) := by decide +kernel
theorem dX5_block_93 : decode cX5_block 93 = .ok (.iadd, 1) := by decide +kernel
theorem dX5_block_94 : decode cX5_block 94 = .ok (.goto 29, 3) := by decide +kernel
theorem dX5_block_97 : decode cX5_block 97 = .ok (.iload_n 2, 1) := by decide +kernel
theorem dX5_block_98 : decode cX5_block 98 = .ok (.iconst 1, 1) := by decide +kernel
theorem dX5_block_99 : decode cX5_block 99 = .ok (.if_icmp .ne 11, 3) := by decide +kernel
theorem dX5_block_102 : decode cX5_block 102 = .ok (.aload_n 0, 1) := by decide +kernel
theorem dX5_block_103 : decode cX5_block 103 = .ok (.iload_n 3, 1) := by decide +kernel
theorem dX5_block_104 : decode cX5_block 104 = .ok (.invokevirtual 84, 3) := by decide +kernel
theorem dX5_block_107 : decode cX5_block 107 = .ok (.goto 16, 3) := by decide +kernel
theorem dX5_block_110 : decode cX5_block 110 = .ok (.aload_n 0, 1) := by decide +kernel
theorem dX5_block_111 : decode cX5_block 111 = .ok (.iload_n 3, 1) := by decide +kernel
theorem dX5_block_112 : decode cX5_block 112 = .ok (.invokevirtual 88, 3) := by decide +kernel
theorem dX5_block_115 : decode cX5_block 115 = .ok (.ifCond .eq 7, 3) := by decide +kernel
theorem dX5_block_118 : decode cX5_block 118 = .ok (.iconst 1, 1) := by decide +kernel
theorem dX5_block_119 : decode cX5_block 119 = .ok (.goto 4, 3) := by decide +kernel
theorem dX5_block_122 : decode cX5_block 122 = .ok (.iconst 0, 1) := by decide +kernel
theorem dX5_block_123 : decode cX5_block 123 = .ok (.ireturn, 1) := by decide +kernel
theorem dX5_told_0 : decode cX5_told 0 = .ok (.aload_n 0, 1) := by decide +kernel
theorem dX5_told_1 : decode cX5_told 1 = .ok (.aload_n 0, 1) := by decide +kernel
theorem dX5_told_2 : decode cX5_told 2 = .ok (.getfield 33, 3) := by decide +kernel
theorem dX5_told_5 : decode cX5_told 5 = .ok (.ifCond .ne 7, 3) := by decide +kernel
theorem dX5_told_8 : decode cX5_told 8 = .ok (.iconst 1, 1) := by decide +kernel
theorem dX5_told_9 : decode cX5_told 9 = .ok (.goto 18, 3) := by decide +kernel
theorem dX5_told_12 : decode cX5_told 12 = .ok (.iload_n 1, 1) := by decide +kernel
theorem dX5_told_13 : decode cX5_told 13 = .ok (.ifCond .lt 9, 3) := by decide +kernel
theorem dX5_told_16 : decode cX5_told 16 = .ok (.iload_n 1, 1) := by decide +kernel
theorem dX5_told_17 : decode cX5_told 17 = .ok (.bipush 7, 2) := by decide +kernel
theorem dX5_told_19 : decode cX5_told 19 = .ok (.if_icmp .le 7, 3) := by decide +kernel
theorem dX5_told_22 : decode cX5_told 22 = .ok (.iconst 2, 1) := by decide +kernel
theorem dX5_told_23 : decode cX5_told 23 = .ok (.goto 4, 3) := by decide +kernel
theorem dX5_told_26 : decode cX5_told 26 = .ok (.iconst 0, 1) := by decide +kernel
theorem dX5_told_27 : decode cX5_told 27 = .ok (.putfield 37, 3) := by decide +kernel
theorem dX5_told_30 : decode cX5_told 30 = .ok (.aload_n 0, 1) := by decide +kernel
theorem dX5_told_31 : decode cX5_told 31 = .ok (.getfield 37, 3) := by decide +kernel
theorem dX5_told_34 : decode cX5_told 34 = .ok (.ifCond .le 5, 3) := by decide +kernel
theorem dX5_told_37 : decode cX5_told 37 = .ok (.iconst 0, 1) := by decide +kernel
theorem dX5_told_38 : decode cX5_told 38 = .ok (.ireturn, 1) := by decide +kernel
theorem dX5_told_39 : decode cX5_told 39 = .ok (.iconst 0, 1) := by decide +kernel
theorem dX5_told_40 : decode cX5_told 40 = .ok (.istore_n 2, 1) := by decide +kernel
theorem dX5_told_41 : decode cX5_told 41 = .ok (.iconst 0, 1) := by decide +kernel
theorem dX5_told_42 : decode cX5_told 42 = .ok (.istore_n 3, 1) := by decide +kernel
theorem dX5_told_43 : decode cX5_told 43 = .ok (.iconst 0, 1) := by decide +kernel
theorem dX5_told_44 : decode cX5_told 44 = .ok (.istore 4, 2) := by decide +kernel
theorem dX5_told_46 : decode cX5_told 46 = .ok (.sipush 176, 3) := by decide +kernel
theorem dX5_told_49 : decode cX5_told 49 = .ok (.istore 5, 2) := by decide +kernel
theorem dX5_told_51 : decode cX5_told 51 = .ok (.iload 5, 2) := by decide +kernel
theorem dX5_told_53 : decode cX5_told 53 = .ok (.sipush 1024, 3) := by decide +kernel
theorem dX5_told_56 : decode cX5_told 56 = .ok (.if_icmp .ge 53, 3) := by decide +kernel
theorem dX5_told_59 : decode cX5_told 59 = .ok (.aload_n 0, 1) := by decide +kernel
theorem dX5_told_60 : decode cX5_told 60 = .ok (.iload 5, 2) := by decide +kernel
theorem dX5_told_62 : decode cX5_told 62 = .ok (.invokevirtual 84, 3) := by decide +kernel
theorem dX5_told_65 : decode cX5_told 65 = .ok (.istore 6, 2) := by decide +kernel
theorem dX5_told_67 : decode cX5_told 67 = .ok (.aload_n 0, 1) := by decide +kernel
theorem dX5_told_68 : decode cX5_told 68 = .ok (.iload 5, 2) := by decide +kernel
theorem dX5_told_70 : decode cX5_told 70 = .ok (.invokevirtual 88, 3) := by decide +kernel
theorem dX5_told_73 : decode cX5_told 73 = .ok (.ifCond .ne 21, 3) := by decide +kernel
theorem dX5_told_76 : decode cX5_told 76 = .ok (.iload_n 2, 1) := by decide +kernel
theorem dX5_told_77 : decode cX5_told 77 = .ok (.iload 6, 2) := by decide +kernel
theorem dX5_told_79 : decode cX5_told 79 = .ok (.iadd, 1) := by decide +kernel
theorem dX5_told_80 : decode cX5_told 80 = .ok (.istore_n 2, 1) := by decide +kernel
theorem dX5_told_81 : decode cX5_told 81 = .ok (.iload 6, 2) := by decide +kernel
theorem dX5_told_83 : decode cX5_told 83 = .ok (.iload_n 3, 1) := by decide +kernel
theorem dX5_told_84 : decode cX5_told 84 = .ok (.if_icmp .le 8, 3) := by decide +kernel
theorem dX5_told_87 : decode cX5_told 87 = .ok (.iload 6, 2) := by decide +kernel
theorem dX5_told_89 : decode cX5_told 89 = .ok (.goto 4, 3) := by decide +kernel
theorem dX5_told_92 : decode cX5_told 92 = .ok (.iload_n 3, 1) := by decide +kernel
theorem dX5_told_93 : decode cX5_told 93 = .ok (.istore_n 3, 1) := by decide +kernel
theorem dX5_told_94 : decode cX5_told 94 = .ok (.iinc 4 1, 3) := by decide +kernel
theorem dX5_told_97 : decode cX5_told 97 = .ok (.iload 5, 2) := by decide +kernel
theorem dX5_told_99 : decode cX5_told 99 = .ok (.iload 6, 2) := by decide +kernel
theorem dX5_told_101 : decode cX5_told 101 = .ok (.iconst 1, 1) := by decide +kernel
theorem dX5_told_102 : decode cX5_told 102 = .ok (.iadd, 1) := by decide +kernel
theorem dX5_told_103 : decode cX5_told 103 = .ok (.iadd, 1) := by decide +kernel
theorem dX5_told_104 : decode cX5_told 104 = .ok (.istore 5, 2) := by decide +kernel
theorem dX5_told_106 : decode cX5_told 106 = .ok (.goto (-55), 3) := by decide +kernel
theorem dX5_told_109 : decode cX5_told 109 = .ok (.iload_n 1, 1) := by decide +kernel
theorem dX5_told_110 : decode cX5_told 110 = .ok (.tableswitch 73 0 6 #[42, 44, 46, 49, 54, 59, 67], 42) := by decide +kernel
theorem dX5_told_152 : decode cX5_told 152 = .ok (.iload_n 2, 1) := by decide +kernel
theorem dX5_told_153 : decode cX5_told 153 = .ok (.ireturn, 1) := by decide +kernel
theorem dX5_told_154 : decode cX5_told 154 = .ok (.iload_n 3, 1) := by decide +kernel
theorem dX5_told_155 : decode cX5_told 155 = .ok (.ireturn, 1) := by decide +kernel
theorem dX5_told_156 : decode cX5_told 156 = .ok (.iload 4, 2) := by decide +kernel
theorem dX5_told_158 : decode cX5_told 158 = .ok (.ireturn, 1) := by decide +kernel
theorem dX5_told_159 : decode cX5_told 159 = .ok (.aload_n 0, 1) := by decide +kernel
theorem dX5_told_160 : decode cX5_told 160 = .ok (.getfield 125, 3) := by decide +kernel
theorem dX5_told_163 : decode cX5_told 163 = .ok (.ireturn, 1) := by decide +kernel
theorem dX5_told_164 : decode cX5_told 164 = .ok (.aload_n 0, 1) := by decide +kernel
theorem dX5_told_165 : decode cX5_told 165 = .ok (.getfield 128, 3) := by decide +kernel
theorem dX5_told_168 : decode cX5_told 168 = .ok (.ireturn, 1) := by decide +kernel
theorem dX5_told_169 : decode cX5_told 169 = .ok (.aload_n 0, 1) := by decide +kernel
theorem dX5_told_170 : decode cX5_told 170 = .ok (.getfield 13, 3) := by decide +kernel
theorem dX5_told_173 : decode cX5_told 173 = .ok (.iconst 0, 1) := by decide +kernel
theorem dX5_told_174 : decode cX5_told 174 = .ok (.laload, 1) := by decide +kernel
theorem dX5_told_175 : decode cX5_told 175 = .ok (.l2i, 1) := by decide +kernel
theorem dX5_told_176 : decode cX5_told 176 = .ok (.ireturn, 1) := by decide +kernel
theorem dX5_told_177 : decode cX5_told 177 = .ok (.aload_n 0, 1) := by decide +kernel
theorem dX5_told_178 : decode cX5_told 178 = .ok (.getfield 100, 3) := by decide +kernel
theorem dX5_told_181 : decode cX5_told 181 = .ok (.l2i, 1) := by decide +kernel
theorem dX5_told_182 : decode cX5_told 182 = .ok (.ireturn, 1) := by decide +kernel
theorem dX5_told_183 : decode cX5_told 183 = .ok (.aload_n 0, 1) := by decide +kernel
theorem dX5_told_184 : decode cX5_told 184 = .ok (.getfield 72, 3) := by decide +kernel
theorem dX5_told_187 : decode cX5_told 187 = .ok (.ifCond .eq 10, 3) := by decide +kernel
theorem dX5_told_190 : decode cX5_told 190 = .ok (.aload_n 0, 1) := by decide +kernel
theorem dX5_told_191 : decode cX5_told 191 = .ok (.getfield 75, 3) := by decide +kernel
theorem dX5_told_194 : decode cX5_told 194 = .ok (.goto 4, 3) := by decide +kernel
theorem dX5_told_197 : decode cX5_told 197 = .ok (.iconst 0, 1) := by decide +kernel
theorem dX5_told_198 : decode cX5_told 198 = .ok (.ireturn, 1) := by decide +kernel
theorem dX5_count_0 : decode cX5_count 0 = .ok (.aload_n 0, 1) := by decide +kernel
theorem dX5_count_1 : decode cX5_count 1 = .ok (.iload_n 1, 1) := by decide +kernel
theorem dX5_count_2 : decode cX5_count 2 = .ok (.ifCond .lt 9, 3) := by decide +kernel
theorem dX5_count_5 : decode cX5_count 5 = .ok (.iload_n 1, 1) := by decide +kernel
theorem dX5_count_6 : decode cX5_count 6 = .ok (.bipush 6, 2) := by decide +kernel
theorem dX5_count_8 : decode cX5_count 8 = .ok (.if_icmp .le 7, 3) := by decide +kernel
theorem dX5_count_11 : decode cX5_count 11 = .ok (.iconst 1, 1) := by decide +kernel
theorem dX5_count_12 : decode cX5_count 12 = .ok (.goto 4, 3) := by decide +kernel
theorem dX5_count_15 : decode cX5_count 15 = .ok (.iconst 0, 1) := by decide +kernel
theorem dX5_count_16 : decode cX5_count 16 = .ok (.putfield 37, 3) := by decide +kernel
theorem dX5_count_19 : decode cX5_count 19 = .ok (.aload_n 0, 1) := by decide +kernel
theorem dX5_count_20 : decode cX5_count 20 = .ok (.getfield 37, 3) := by decide +kernel
theorem dX5_count_23 : decode cX5_count 23 = .ok (.ifCond .le 5, 3) := by decide +kernel
theorem dX5_count_26 : decode cX5_count 26 = .ok (.iconst 0, 1) := by decide +kernel
theorem dX5_count_27 : decode cX5_count 27 = .ok (.ireturn, 1) := by decide +kernel
theorem dX5_count_28 : decode cX5_count 28 = .ok (.iload_n 1, 1) := by decide +kernel
theorem dX5_count_29 : decode cX5_count 29 = .ok (.tableswitch 85 0 5 #[39, 52, 65, 70, 75, 80], 39) := by decide +kernel
theorem dX5_count_68 : decode cX5_count 68 = .ok (.aload_n 0, 1) := by decide +kernel
theorem dX5_count_69 : decode cX5_count 69 = .ok (.getfield 33, 3) := by decide +kernel
theorem dX5_count_72 : decode cX5_count 72 = .ok (.ifCond .eq 7, 3) := by decide +kernel
theorem dX5_count_75 : decode cX5_count 75 = .ok (.iconst 1, 1) := by decide +kernel
theorem dX5_count_76 : decode cX5_count 76 = .ok (.goto 4, 3) := by decide +kernel
theorem dX5_count_79 : decode cX5_count 79 = .ok (.iconst 0, 1) := by decide +kernel
theorem dX5_count_80 : decode cX5_count 80 = .ok (.ireturn, 1) := by decide +kernel
theorem dX5_count_81 : decode cX5_count 81 = .ok (.aload_n 0, 1) := by decide +kernel
theorem dX5_count_82 : decode cX5_count 82 = .ok (.getfield 72, 3) := by decide +kernel
theorem dX5_count_85 : decode cX5_count 85 = .ok (.ifCond .eq 7, 3) := by decide +kernel
theorem dX5_count_88 : decode cX5_count 88 = .ok (.iconst 1, 1) := by decide +kernel
theorem dX5_count_89 : decode cX5_count 89 = .ok (.goto 4, 3) := by decide +kernel
theorem dX5_count_92 : decode cX5_count 92 = .ok (.iconst 0, 1) := by decide +kernel
theorem dX5_count_93 : decode cX5_count 93 = .ok (.ireturn, 1) := by decide +kernel
theorem dX5_count_94 : decode cX5_count 94 = .ok (.aload_n 0, 1) := by decide +kernel
theorem dX5_count_95 : decode cX5_count 95 = .ok (.getfield 60, 3) := by decide +kernel
theorem dX5_count_98 : decode cX5_count 98 = .ok (.ireturn, 1) := by decide +kernel
theorem dX5_count_99 : decode cX5_count 99 = .ok (.aload_n 0, 1) := by decide +kernel
theorem dX5_count_100 : decode cX5_count 100 = .ok (.getfield 69, 3) := by decide +kernel
theorem dX5_count_103 : decode cX5_count 103 = .ok (.ireturn, 1) := by decide +kernel
theorem dX5_count_104 : decode cX5_count 104 = .ok (.aload_n 0, 1) := by decide +kernel
theorem dX5_count_105 : decode cX5_count 105 = .ok (.getfield 54, 3) := by decide +kernel
theorem dX5_count_108 : decode cX5_count 108 = .ok (.ireturn, 1) := by decide +kernel
theorem dX5_count_109 : decode cX5_count 109 = .ok (.aload_n 0, 1) := by decide +kernel
theorem dX5_count_110 : decode cX5_count 110 = .ok (.getfield 48, 3) := by decide +kernel
theorem dX5_count_113 : decode cX5_count 113 = .ok (.ireturn, 1) := by decide +kernel
theorem dX5_count_114 : decode cX5_count 114 = .ok (.aload_n 0, 1) := by decide +kernel
theorem dX5_count_115 : decode cX5_count 115 = .ok (.getfield 41, 3) := by decide +kernel
theorem dX5_count_118 : decode cX5_count 118 = .ok (.ireturn, 1) := by decide +kernel
