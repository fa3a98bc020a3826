-- rows of claim/NAMES.whole.lean.txt (starting text): what each instruction is
theorem dX3_init_0 : decode cX3_init 0 = .ok (.aload_n 0, 1) := by decide +kernel
theorem dX3_init_1 : decode cX3_init 1 = .ok (.invokespecial 3, 3) := by decide +kernel
theorem dX3_init_4 : decode cX3_init 4 = .ok (.aload_n 0, 1) := by decide +kernel
theorem dX3_init_5 : decode cX3_init 5 = .ok (.aload_n 1, 1) := by decide +kernel
theorem dX3_init_6 : decode cX3_init 6 = .ok (.putfield 9, 3) := by decide +kernel
theorem dX3_init_9 : decode cX3_init 9 = .ok (.return_, 1) := by decide +kernel
theorem dX3_used_0 : decode cX3_used 0 = .ok (.aload_n 0, 1) := by decide +kernel
theorem dX3_used_1 : decode cX3_used 1 = .ok (.getfield 15, 3) := by decide +kernel
theorem dX3_used_4 : decode cX3_used 4 = .ok (.ireturn, 1) := by decide +kernel
theorem dX3_commits_0 : decode cX3_commits 0 = .ok (.aload_n 0, 1) := by decide +kernel
theorem dX3_commits_1 : decode cX3_commits 1 = .ok (.getfield 19, 3) := by decide +kernel
theorem dX3_commits_4 : decode cX3_commits 4 = .ok (.ireturn, 1) := by decide +kernel
theorem dX3_lastNumber_0 : decode cX3_lastNumber 0 = .ok (.aload_n 0, 1) := by decide +kernel
theorem dX3_lastNumber_1 : decode cX3_lastNumber 1 = .ok (.getfield 22, 3) := by decide +kernel
theorem dX3_lastNumber_4 : decode cX3_lastNumber 4 = .ok (.ireturn, 1) := by decide +kernel
theorem dX3_hasRoomFor_0 : decode cX3_hasRoomFor 0 = .ok (.aload_n 0, 1) := by decide +kernel
theorem dX3_hasRoomFor_1 : decode cX3_hasRoomFor 1 = .ok (.getfield 15, 3) := by decide +kernel
theorem dX3_hasRoomFor_4 : decode cX3_hasRoomFor 4 = .ok (.iconst 2, 1) := by decide +kernel
theorem dX3_hasRoomFor_5 : decode cX3_hasRoomFor 5 = .ok (.iadd, 1) := by decide +kernel
theorem dX3_hasRoomFor_6 : decode cX3_hasRoomFor 6 = .ok (.iconst 2, 1) := by decide +kernel
theorem dX3_hasRoomFor_7 : decode cX3_hasRoomFor 7 = .ok (.iload_n 1, 1) := by decide +kernel
theorem dX3_hasRoomFor_8 : decode cX3_hasRoomFor 8 = .ok (.imul, 1) := by decide +kernel
theorem dX3_hasRoomFor_9 : decode cX3_hasRoomFor 9 = .ok (.iadd, 1) := by decide +kernel
theorem dX3_hasRoomFor_10 : decode cX3_hasRoomFor 10 = .ok (.sipush 160, 3) := by decide +kernel
theorem dX3_hasRoomFor_13 : decode cX3_hasRoomFor 13 = .ok (.if_icmp .gt 7, 3) := by decide +kernel
theorem dX3_hasRoomFor_16 : decode cX3_hasRoomFor 16 = .ok (.iconst 1, 1) := by decide +kernel
theorem dX3_hasRoomFor_17 : decode cX3_hasRoomFor 17 = .ok (.goto 4, 3) := by decide +kernel
theorem dX3_hasRoomFor_20 : decode cX3_hasRoomFor 20 = .ok (.iconst 0, 1) := by decide +kernel
theorem dX3_hasRoomFor_21 : decode cX3_hasRoomFor 21 = .ok (.ireturn, 1) := by decide +kernel
theorem dX3_append_0 : decode cX3_append 0 = .ok (.bipush 16, 2) := by decide +kernel
theorem dX3_append_2 : decode cX3_append 2 = .ok (.aload_n 0, 1) := by decide +kernel
theorem dX3_append_3 : decode cX3_append 3 = .ok (.getfield 15, 3) := by decide +kernel
theorem dX3_append_6 : decode cX3_append 6 = .ok (.iadd, 1) := by decide +kernel
theorem dX3_append_7 : decode cX3_append 7 = .ok (.istore_n 3, 1) := by decide +kernel
theorem dX3_append_8 : decode cX3_append 8 = .ok (.iload_n 3, 1) := by decide +kernel
theorem dX3_append_9 : decode cX3_append 9 = .ok (.iconst 1, 1) := by decide +kernel
theorem dX3_append_10 : decode cX3_append 10 = .ok (.iadd, 1) := by decide +kernel
theorem dX3_append_11 : decode cX3_append 11 = .ok (.iconst 2, 1) := by decide +kernel
theorem dX3_append_12 : decode cX3_append 12 = .ok (.aload_n 1, 1) := by decide +kernel
theorem dX3_append_13 : decode cX3_append 13 = .ok (.invokevirtual 25, 3) := by decide +kernel
theorem dX3_append_16 : decode cX3_append 16 = .ok (.imul, 1) := by decide +kernel
theorem dX3_append_17 : decode cX3_append 17 = .ok (.iadd, 1) := by decide +kernel
theorem dX3_append_18 : decode cX3_append 18 = .ok (.istore 4, 2) := by decide +kernel
theorem dX3_append_20 : decode cX3_append 20 = .ok (.aload_n 0, 1) := by decide +kernel
theorem dX3_append_21 : decode cX3_append 21 = .ok (.getfield 9, 3) := by decide +kernel
theorem dX3_append_24 : decode cX3_append 24 = .ok (.iload_n 3, 1) := by decide +kernel
theorem dX3_append_25 : decode cX3_append 25 = .ok (.aload_n 0, 1) := by decide +kernel
theorem dX3_append_26 : decode cX3_append 26 = .ok (.aload_n 1, 1) := by decide +kernel
theorem dX3_append_27 : decode cX3_append 27 = .ok (.invokevirtual 25, 3) := by decide +kernel
theorem dX3_append_30 : decode cX3_append 30 = .ok (.invokevirtual 31, 3) := by decide +kernel
theorem dX3_append_33 : decode cX3_append 33 = .ok (.invokevirtual 35, 3) := by decide +kernel
theorem dX3_append_36 : decode cX3_append 36 = .ok (.ifCond .eq 37, 3) := by decide +kernel
theorem dX3_append_39 : decode cX3_append 39 = .ok (.aload_n 0, 1) := by decide +kernel
theorem dX3_append_40 : decode cX3_append 40 = .ok (.aload_n 1, 1) := by decide +kernel
theorem dX3_append_41 : decode cX3_append 41 = .ok (.iload_n 3, 1) := by decide +kernel
theorem dX3_append_42 : decode cX3_append 42 = .ok (.iconst 1, 1) := by decide +kernel
theorem dX3_append_43 : decode cX3_append 43 = .ok (.iadd, 1) := by decide +kernel
theorem dX3_append_44 : decode cX3_append 44 = .ok (.invokevirtual 41, 3) := by decide +kernel
theorem dX3_append_47 : decode cX3_append 47 = .ok (.ifCond .eq 26, 3) := by decide +kernel
theorem dX3_append_50 : decode cX3_append 50 = .ok (.aload_n 0, 1) := by decide +kernel
theorem dX3_append_51 : decode cX3_append 51 = .ok (.getfield 9, 3) := by decide +kernel
theorem dX3_append_54 : decode cX3_append 54 = .ok (.iload 4, 2) := by decide +kernel
theorem dX3_append_56 : decode cX3_append 56 = .ok (.ldc2_w 45, 3) := by decide +kernel
theorem dX3_append_59 : decode cX3_append 59 = .ok (.aload_n 0, 1) := by decide +kernel
theorem dX3_append_60 : decode cX3_append 60 = .ok (.getfield 22, 3) := by decide +kernel
theorem dX3_append_63 : decode cX3_append 63 = .ok (.iconst 1, 1) := by decide +kernel
theorem dX3_append_64 : decode cX3_append 64 = .ok (.iadd, 1) := by decide +kernel
theorem dX3_append_65 : decode cX3_append 65 = .ok (.i2l, 1) := by decide +kernel
theorem dX3_append_66 : decode cX3_append 66 = .ok (.lsub, 1) := by decide +kernel
theorem dX3_append_67 : decode cX3_append 67 = .ok (.invokevirtual 35, 3) := by decide +kernel
theorem dX3_append_70 : decode cX3_append 70 = .ok (.ifCond .ne 5, 3) := by decide +kernel
theorem dX3_append_73 : decode cX3_append 73 = .ok (.iconst 0, 1) := by decide +kernel
theorem dX3_append_74 : decode cX3_append 74 = .ok (.ireturn, 1) := by decide +kernel
theorem dX3_append_75 : decode cX3_append 75 = .ok (.iload_n 2, 1) := by decide +kernel
theorem dX3_append_76 : decode cX3_append 76 = .ok (.ifCond .eq 10, 3) := by decide +kernel
theorem dX3_append_79 : decode cX3_append 79 = .ok (.aload_n 0, 1) := by decide +kernel
theorem dX3_append_80 : decode cX3_append 80 = .ok (.getfield 9, 3) := by decide +kernel
theorem dX3_append_83 : decode cX3_append 83 = .ok (.invokevirtual 47, 3) := by decide +kernel
theorem dX3_append_86 : decode cX3_append 86 = .ok (.aload_n 0, 1) := by decide +kernel
theorem dX3_append_87 : decode cX3_append 87 = .ok (.iload 4, 2) := by decide +kernel
theorem dX3_append_89 : decode cX3_append 89 = .ok (.iconst 1, 1) := by decide +kernel
theorem dX3_append_90 : decode cX3_append 90 = .ok (.iadd, 1) := by decide +kernel
theorem dX3_append_91 : decode cX3_append 91 = .ok (.bipush 16, 2) := by decide +kernel
theorem dX3_append_93 : decode cX3_append 93 = .ok (.isub, 1) := by decide +kernel
theorem dX3_append_94 : decode cX3_append 94 = .ok (.putfield 15, 3) := by decide +kernel
theorem dX3_append_97 : decode cX3_append 97 = .ok (.aload_n 0, 1) := by decide +kernel
theorem dX3_append_98 : decode cX3_append 98 = .ok (.dup, 1) := by decide +kernel
theorem dX3_append_99 : decode cX3_append 99 = .ok (.getfield 19, 3) := by decide +kernel
theorem dX3_append_102 : decode cX3_append 102 = .ok (.iconst 1, 1) := by decide +kernel
theorem dX3_append_103 : decode cX3_append 103 = .ok (.iadd, 1) := by decide +kernel
theorem dX3_append_104 : decode cX3_append 104 = .ok (.putfield 19, 3) := by decide +kernel
theorem dX3_append_107 : decode cX3_append 107 = .ok (.aload_n 0, 1) := by decide +kernel
theorem dX3_append_108 : decode cX3_append 108 = .ok (.dup, 1) := by decide +kernel
theorem dX3_append_109 : decode cX3_append 109 = .ok (.getfield 22, 3) := by decide +kernel
theorem dX3_append_112 : decode cX3_append 112 = .ok (.iconst 1, 1) := by decide +kernel
theorem dX3_append_113 : decode cX3_append 113 = .ok (.iadd, 1) := by decide +kernel
theorem dX3_append_114 : decode cX3_append 114 = .ok (.putfield 22, 3) := by decide +kernel
theorem dX3_append_117 : decode cX3_append 117 = .ok (.iconst 1, 1) := by decide +kernel
theorem dX3_append_118 : decode cX3_append 118 = .ok (.ireturn, 1) := by decide +kernel
theorem dX3_carryOut_0 : decode cX3_carryOut 0 = .ok (.iload_n 1, 1) := by decide +kernel
theorem dX3_carryOut_1 : decode cX3_carryOut 1 = .ok (.ifCond .ne 5, 3) := by decide +kernel
theorem dX3_carryOut_4 : decode cX3_carryOut 4 = .ok (.iconst 1, 1) := by decide +kernel
theorem dX3_carryOut_5 : decode cX3_carryOut 5 = .ok (.ireturn, 1) := by decide +kernel
theorem dX3_carryOut_6 : decode cX3_carryOut 6 = .ok (.aload_n 0, 1) := by decide +kernel
theorem dX3_carryOut_7 : decode cX3_carryOut 7 = .ok (.invokevirtual 50, 3) := by decide +kernel
theorem dX3_carryOut_10 : decode cX3_carryOut 10 = .ok (.ifCond .eq 19, 3) := by decide +kernel
theorem dX3_carryOut_13 : decode cX3_carryOut 13 = .ok (.aload_n 0, 1) := by decide +kernel
theorem dX3_carryOut_14 : decode cX3_carryOut 14 = .ok (.getfield 9, 3) := by decide +kernel
theorem dX3_carryOut_17 : decode cX3_carryOut 17 = .ok (.iconst 2, 1) := by decide +kernel
theorem dX3_carryOut_18 : decode cX3_carryOut 18 = .ok (.aload_n 0, 1) := by decide +kernel
theorem dX3_carryOut_19 : decode cX3_carryOut 19 = .ok (.getfield 22, 3) := by decide +kernel
theorem dX3_carryOut_22 : decode cX3_carryOut 22 = .ok (.i2l, 1) := by decide +kernel
theorem dX3_carryOut_23 : decode cX3_carryOut 23 = .ok (.invokevirtual 35, 3) := by decide +kernel
theorem dX3_carryOut_26 : decode cX3_carryOut 26 = .ok (.ifCond .ne 5, 3) := by decide +kernel
theorem dX3_carryOut_29 : decode cX3_carryOut 29 = .ok (.iconst 0, 1) := by decide +kernel
theorem dX3_carryOut_30 : decode cX3_carryOut 30 = .ok (.ireturn, 1) := by decide +kernel
theorem dX3_carryOut_31 : decode cX3_carryOut 31 = .ok (.aload_n 0, 1) := by decide +kernel
theorem dX3_carryOut_32 : decode cX3_carryOut 32 = .ok (.getfield 9, 3) := by decide +kernel
theorem dX3_carryOut_35 : decode cX3_carryOut 35 = .ok (.invokevirtual 47, 3) := by decide +kernel
theorem dX3_carryOut_38 : decode cX3_carryOut 38 = .ok (.iconst 0, 1) := by decide +kernel
theorem dX3_carryOut_39 : decode cX3_carryOut 39 = .ok (.istore_n 2, 1) := by decide +kernel
theorem dX3_carryOut_40 : decode cX3_carryOut 40 = .ok (.iload_n 2, 1) := by decide +kernel
theorem dX3_carryOut_41 : decode cX3_carryOut 41 = .ok (.iload_n 1, 1) := by decide +kernel
theorem dX3_carryOut_42 : decode cX3_carryOut 42 = .ok (.if_icmp .ge 26, 3) := by decide +kernel
theorem dX3_carryOut_45 : decode cX3_carryOut 45 = .ok (.aload_n 0, 1) := by decide +kernel
theorem dX3_carryOut_46 : decode cX3_carryOut 46 = .ok (.getfield 9, 3) := by decide +kernel
theorem dX3_carryOut_49 : decode cX3_carryOut 49 = .ok (.bipush 16, 2) := by decide +kernel
theorem dX3_carryOut_51 : decode cX3_carryOut 51 = .ok (.iload_n 2, 1) := by decide +kernel
theorem dX3_carryOut_52 : decode cX3_carryOut 52 = .ok (.iadd, 1) := by decide +kernel
theorem dX3_carryOut_53 : decode cX3_carryOut 53 = .ok (.lconst 0, 1) := by decide +kernel
theorem dX3_carryOut_54 : decode cX3_carryOut 54 = .ok (.invokevirtual 35, 3) := by decide +kernel
theorem dX3_carryOut_57 : decode cX3_carryOut 57 = .ok (.ifCond .ne 5, 3) := by decide +kernel
theorem dX3_carryOut_60 : decode cX3_carryOut 60 = .ok (.iconst 0, 1) := by decide +kernel
theorem dX3_carryOut_61 : decode cX3_carryOut 61 = .ok (.ireturn, 1) := by decide +kernel
theorem dX3_carryOut_62 : decode cX3_carryOut 62 = .ok (.iinc 2 1, 3) := by decide +kernel
theorem dX3_carryOut_65 : decode cX3_carryOut 65 = .ok (.goto (-25), 3) := by decide +kernel
theorem dX3_carryOut_68 : decode cX3_carryOut 68 = .ok (.aload_n 0, 1) := by decide +kernel
theorem dX3_carryOut_69 : decode cX3_carryOut 69 = .ok (.getfield 9, 3) := by decide +kernel
theorem dX3_carryOut_72 : decode cX3_carryOut 72 = .ok (.iconst 0, 1) := by decide +kernel
theorem dX3_carryOut_73 : decode cX3_carryOut 73 = .ok (.aload_n 0, 1) := by decide +kernel
theorem dX3_carryOut_74 : decode cX3_carryOut 74 = .ok (.getfield 9, 3) := by decide +kernel
theorem dX3_carryOut_77 : decode cX3_carryOut 77 = .ok (.iconst 0, 1) := by decide +kernel
theorem dX3_carryOut_78 : decode cX3_carryOut 78 = .ok (.invokevirtual 54, 3) := by decide +kernel
theorem dX3_carryOut_81 : decode cX3_carryOut 81 = .ok (.lconst 1, 1) := by decide +kernel
theorem dX3_carryOut_82 : decode cX3_carryOut 82 = .ok (.ladd, 1) := by decide +kernel
theorem dX3_carryOut_83 : decode cX3_carryOut 83 = .ok (.invokevirtual 35, 3) := by decide +kernel
theorem dX3_carryOut_86 : decode cX3_carryOut 86 = .ok (.ifCond .ne 5, 3) := by decide +kernel
theorem dX3_carryOut_89 : decode cX3_carryOut 89 = .ok (.iconst 0, 1) := by decide +kernel
theorem dX3_carryOut_90 : decode cX3_carryOut 90 = .ok (.ireturn, 1) := by decide +kernel
theorem dX3_carryOut_91 : decode cX3_carryOut 91 = .ok (.aload_n 0, 1) := by decide +kernel
theorem dX3_carryOut_92 : decode cX3_carryOut 92 = .ok (.getfield 9, 3) := by decide +kernel
theorem dX3_carryOut_95 : decode cX3_carryOut 95 = .ok (.invokevirtual 47, 3) := by decide +kernel
theorem dX3_carryOut_98 : decode cX3_carryOut 98 = .ok (.aload_n 0, 1) := by decide +kernel
theorem dX3_carryOut_99 : decode cX3_carryOut 99 = .ok (.iconst 0, 1) := by decide +kernel
theorem dX3_carryOut_100 : decode cX3_carryOut 100 = .ok (.putfield 15, 3) := by decide +kernel
theorem dX3_carryOut_103 : decode cX3_carryOut 103 = .ok (.aload_n 0, 1) := by decide +kernel
theorem dX3_carryOut_104 : decode cX3_carryOut 104 = .ok (.iconst 0, 1) := by decide +kernel
theorem dX3_carryOut_105 : decode cX3_carryOut 105 = .ok (.putfield 19, 3) := by decide +kernel
theorem dX3_carryOut_108 : decode cX3_carryOut 108 = .ok (.iconst 1, 1) := by decide +kernel
theorem dX3_carryOut_109 : decode cX3_carryOut 109 = .ok (.ireturn, 1) := by decide +kernel
theorem dX3_findCommits_0 : decode cX3_findCommits 0 = .ok (.aload_n 0, 1) := by decide +kernel
theorem dX3_findCommits_1 : decode cX3_findCommits 1 = .ok (.invokevirtual 57, 3) := by decide +kernel
theorem dX3_findCommits_4 : decode cX3_findCommits 4 = .ok (.aload_n 0, 1) := by decide +kernel
theorem dX3_findCommits_5 : decode cX3_findCommits 5 = .ok (.iconst 0, 1) := by decide +kernel
theorem dX3_findCommits_6 : decode cX3_findCommits 6 = .ok (.invokevirtual 60, 3) := by decide +kernel
theorem dX3_findCommits_9 : decode cX3_findCommits 9 = .ok (.istore_n 1, 1) := by decide +kernel
theorem dX3_findCommits_10 : decode cX3_findCommits 10 = .ok (.iload_n 1, 1) := by decide +kernel
theorem dX3_findCommits_11 : decode cX3_findCommits 11 = .ok (.ifCond .le 72, 3) := by decide +kernel
theorem dX3_findCommits_14 : decode cX3_findCommits 14 = .ok (.aload_n 0, 1) := by decide +kernel
theorem dX3_findCommits_15 : decode cX3_findCommits 15 = .ok (.getfield 15, 3) := by decide +kernel
theorem dX3_findCommits_18 : decode cX3_findCommits 18 = .ok (.iload_n 1, 1) := by decide +kernel
theorem dX3_findCommits_19 : decode cX3_findCommits 19 = .ok (.iadd, 1) := by decide +kernel
theorem dX3_findCommits_20 : decode cX3_findCommits 20 = .ok (.sipush 160, 3) := by decide +kernel
theorem dX3_findCommits_23 : decode cX3_findCommits 23 = .ok (.if_icmp .gt 60, 3) := by decide +kernel
theorem dX3_findCommits_26 : decode cX3_findCommits 26 = .ok (.aload_n 0, 1) := by decide +kernel
theorem dX3_findCommits_27 : decode cX3_findCommits 27 = .ok (.dup, 1) := by decide +kernel
theorem dX3_findCommits_28 : decode cX3_findCommits 28 = .ok (.getfield 15, 3) := by decide +kernel
theorem dX3_findCommits_31 : decode cX3_findCommits 31 = .ok (.iload_n 1, 1) := by decide +kernel
theorem dX3_findCommits_32 : decode cX3_findCommits 32 = .ok (.iadd, 1) := by decide +kernel
theorem dX3_findCommits_33 : decode cX3_findCommits 33 = .ok (.putfield 15, 3) := by decide +kernel
theorem dX3_findCommits_36 : decode cX3_findCommits 36 = .ok (.aload_n 0, 1) := by decide +kernel
theorem dX3_findCommits_37 : decode cX3_findCommits 37 = .ok (.dup, 1) := by decide +kernel
theorem dX3_findCommits_38 : decode cX3_findCommits 38 = .ok (.getfield 19, 3) := by decide +kernel
theorem dX3_findCommits_41 : decode cX3_findCommits 41 = .ok (.iconst 1, 1) := by decide +kernel
theorem dX3_findCommits_42 : decode cX3_findCommits 42 = .ok (.iadd, 1) := by decide +kernel
theorem dX3_findCommits_43 : decode cX3_findCommits 43 = .ok (.putfield 19, 3) := by decide +kernel
theorem dX3_findCommits_46 : decode cX3_findCommits 46 = .ok (.aload_n 0, 1) := by decide +kernel
theorem dX3_findCommits_47 : decode cX3_findCommits 47 = .ok (.ldc2_w 45, 3) := by decide +kernel
theorem dX3_findCommits_50 : decode cX3_findCommits 50 = .ok (.aload_n 0, 1) := by decide +kernel
theorem dX3_findCommits_51 : decode cX3_findCommits 51 = .ok (.getfield 9, 3) := by decide +kernel
theorem dX3_findCommits_54 : decode cX3_findCommits 54 = .ok (.bipush 16, 2) := by decide +kernel
theorem dX3_findCommits_56 : decode cX3_findCommits 56 = .ok (.aload_n 0, 1) := by decide +kernel
theorem dX3_findCommits_57 : decode cX3_findCommits 57 = .ok (.getfield 15, 3) := by decide +kernel
theorem dX3_findCommits_60 : decode cX3_findCommits 60 = .ok (.iadd, 1) := by decide +kernel
theorem dX3_findCommits_61 : decode cX3_findCommits 61 = .ok (.iconst 1, 1) := by decide +kernel
theorem dX3_findCommits_62 : decode cX3_findCommits 62 = .ok (.isub, 1) := by decide +kernel
theorem dX3_findCommits_63 : decode cX3_findCommits 63 = .ok (.invokevirtual 54, 3) := by decide +kernel
theorem dX3_findCommits_66 : decode cX3_findCommits 66 = .ok (.lsub, 1) := by decide +kernel
theorem dX3_findCommits_67 : decode cX3_findCommits 67 = .ok (.l2i, 1) := by decide +kernel
theorem dX3_findCommits_68 : decode cX3_findCommits 68 = .ok (.putfield 22, 3) := by decide +kernel
theorem dX3_findCommits_71 : decode cX3_findCommits 71 = .ok (.aload_n 0, 1) := by decide +kernel
theorem dX3_findCommits_72 : decode cX3_findCommits 72 = .ok (.aload_n 0, 1) := by decide +kernel
theorem dX3_findCommits_73 : decode cX3_findCommits 73 = .ok (.getfield 15, 3) := by decide +kernel
theorem dX3_findCommits_76 : decode cX3_findCommits 76 = .ok (.invokevirtual 60, 3) := by decide +kernel
theorem dX3_findCommits_79 : decode cX3_findCommits 79 = .ok (.istore_n 1, 1) := by decide +kernel
theorem dX3_findCommits_80 : decode cX3_findCommits 80 = .ok (.goto (-70), 3) := by decide +kernel
theorem dX3_findCommits_83 : decode cX3_findCommits 83 = .ok (.aload_n 0, 1) := by decide +kernel
theorem dX3_findCommits_84 : decode cX3_findCommits 84 = .ok (.getfield 19, 3) := by decide +kernel
theorem dX3_findCommits_87 : decode cX3_findCommits 87 = .ok (.ireturn, 1) := by decide +kernel
theorem dX3_dirtyWords_0 : decode cX3_dirtyWords 0 = .ok (.sipush 160, 3) := by decide +kernel
theorem dX3_dirtyWords_3 : decode cX3_dirtyWords 3 = .ok (.istore_n 1, 1) := by decide +kernel
theorem dX3_dirtyWords_4 : decode cX3_dirtyWords 4 = .ok (.iload_n 1, 1) := by decide +kernel
theorem dX3_dirtyWords_5 : decode cX3_dirtyWords 5 = .ok (.ifCond .le 29, 3) := by decide +kernel
theorem dX3_dirtyWords_8 : decode cX3_dirtyWords 8 = .ok (.aload_n 0, 1) := by decide +kernel
theorem dX3_dirtyWords_9 : decode cX3_dirtyWords 9 = .ok (.getfield 9, 3) := by decide +kernel
theorem dX3_dirtyWords_12 : decode cX3_dirtyWords 12 = .ok (.bipush 16, 2) := by decide +kernel
theorem dX3_dirtyWords_14 : decode cX3_dirtyWords 14 = .ok (.iload_n 1, 1) := by decide +kernel
theorem dX3_dirtyWords_15 : decode cX3_dirtyWords 15 = .ok (.iadd, 1) := by decide +kernel
theorem dX3_dirtyWords_16 : decode cX3_dirtyWords 16 = .ok (.iconst 1, 1) := by decide +kernel
theorem dX3_dirtyWords_17 : decode cX3_dirtyWords 17 = .ok (.isub, 1) := by decide +kernel
theorem dX3_dirtyWords_18 : decode cX3_dirtyWords 18 = .ok (.invokevirtual 54, 3) := by decide +kernel
theorem dX3_dirtyWords_21 : decode cX3_dirtyWords 21 = .ok (.lconst 0, 1) := by decide +kernel
theorem dX3_dirtyWords_22 : decode cX3_dirtyWords 22 = .ok (.lcmp, 1) := by decide +kernel
theorem dX3_dirtyWords_23 : decode cX3_dirtyWords 23 = .ok (.ifCond .eq 5, 3) := by decide +kernel
theorem dX3_dirtyWords_26 : decode cX3_dirtyWords 26 = .ok (.iload_n 1, 1) := by decide +kernel
theorem dX3_dirtyWords_27 : decode cX3_dirtyWords 27 = .ok (.ireturn, 1) := by decide +kernel
theorem dX3_dirtyWords_28 : decode cX3_dirtyWords 28 = .ok (.iinc 1 (-1), 3) := by decide +kernel
theorem dX3_dirtyWords_31 : decode cX3_dirtyWords 31 = .ok (.goto (-27), 3) := by decide +kernel
theorem dX3_dirtyWords_34 : decode cX3_dirtyWords 34 = .ok (.iconst 0, 1) := by decide +kernel
theorem dX3_dirtyWords_35 : decode cX3_dirtyWords 35 = .ok (.ireturn, 1) := by decide +kernel
theorem dX3_forget_0 : decode cX3_forget 0 = .ok (.aload_n 0, 1) := by decide +kernel
theorem dX3_forget_1 : decode cX3_forget 1 = .ok (.iconst 0, 1) := by decide +kernel
theorem dX3_forget_2 : decode cX3_forget 2 = .ok (.putfield 15, 3) := by decide +kernel
theorem dX3_forget_5 : decode cX3_forget 5 = .ok (.aload_n 0, 1) := by decide +kernel
theorem dX3_forget_6 : decode cX3_forget 6 = .ok (.iconst 0, 1) := by decide +kernel
theorem dX3_forget_7 : decode cX3_forget 7 = .ok (.putfield 19, 3) := by decide +kernel
theorem dX3_forget_10 : decode cX3_forget 10 = .ok (.aload_n 0, 1) := by decide +kernel
theorem dX3_forget_11 : decode cX3_forget 11 = .ok (.aload_n 0, 1) := by decide +kernel
theorem dX3_forget_12 : decode cX3_forget 12 = .ok (.getfield 9, 3) := by decide +kernel
theorem dX3_forget_15 : decode cX3_forget 15 = .ok (.iconst 2, 1) := by decide +kernel
theorem dX3_forget_16 : decode cX3_forget 16 = .ok (.invokevirtual 54, 3) := by decide +kernel
theorem dX3_forget_19 : decode cX3_forget 19 = .ok (.l2i, 1) := by decide +kernel
theorem dX3_forget_20 : decode cX3_forget 20 = .ok (.putfield 22, 3) := by decide +kernel
theorem dX3_forget_23 : decode cX3_forget 23 = .ok (.return_, 1) := by decide +kernel
theorem dX3_writePlaces_0 : decode cX3_writePlaces 0 = .ok (.iconst 0, 1) := by decide +kernel
theorem dX3_writePlaces_1 : decode cX3_writePlaces 1 = .ok (.istore_n 2, 1) := by decide +kernel
theorem dX3_writePlaces_2 : decode cX3_writePlaces 2 = .ok (.iload_n 2, 1) := by decide +kernel
theorem dX3_writePlaces_3 : decode cX3_writePlaces 3 = .ok (.aload_n 0, 1) := by decide +kernel
theorem dX3_writePlaces_4 : decode cX3_writePlaces 4 = .ok (.getfield 15, 3) := by decide +kernel
theorem dX3_writePlaces_7 : decode cX3_writePlaces 7 = .ok (.if_icmp .ge 82, 3) := by decide +kernel
theorem dX3_writePlaces_10 : decode cX3_writePlaces 10 = .ok (.aload_n 0, 1) := by decide +kernel
theorem dX3_writePlaces_11 : decode cX3_writePlaces 11 = .ok (.iload_n 2, 1) := by decide +kernel
theorem dX3_writePlaces_12 : decode cX3_writePlaces 12 = .ok (.invokevirtual 60, 3) := by decide +kernel
theorem dX3_writePlaces_15 : decode cX3_writePlaces 15 = .ok (.istore_n 1, 1) := by decide +kernel
theorem dX3_writePlaces_16 : decode cX3_writePlaces 16 = .ok (.iload_n 1, 1) := by decide +kernel
theorem dX3_writePlaces_17 : decode cX3_writePlaces 17 = .ok (.ifCond .ne 5, 3) := by decide +kernel
theorem dX3_writePlaces_20 : decode cX3_writePlaces 20 = .ok (.iconst 1, 1) := by decide +kernel
theorem dX3_writePlaces_21 : decode cX3_writePlaces 21 = .ok (.ireturn, 1) := by decide +kernel
theorem dX3_writePlaces_22 : decode cX3_writePlaces 22 = .ok (.iload_n 2, 1) := by decide +kernel
theorem dX3_writePlaces_23 : decode cX3_writePlaces 23 = .ok (.iconst 1, 1) := by decide +kernel
theorem dX3_writePlaces_24 : decode cX3_writePlaces 24 = .ok (.iadd, 1) := by decide +kernel
theorem dX3_writePlaces_25 : decode cX3_writePlaces 25 = .ok (.istore_n 3, 1) := by decide +kernel
theorem dX3_writePlaces_26 : decode cX3_writePlaces 26 = .ok (.iload_n 3, 1) := by decide +kernel
theorem dX3_writePlaces_27 : decode cX3_writePlaces 27 = .ok (.iload_n 2, 1) := by decide +kernel
theorem dX3_writePlaces_28 : decode cX3_writePlaces 28 = .ok (.iload_n 1, 1) := by decide +kernel
theorem dX3_writePlaces_29 : decode cX3_writePlaces 29 = .ok (.iadd, 1) := by decide +kernel
theorem dX3_writePlaces_30 : decode cX3_writePlaces 30 = .ok (.iconst 1, 1) := by decide +kernel
theorem dX3_writePlaces_31 : decode cX3_writePlaces 31 = .ok (.isub, 1) := by decide +kernel
theorem dX3_writePlaces_32 : decode cX3_writePlaces 32 = .ok (.if_icmp .ge 50, 3) := by decide +kernel
theorem dX3_writePlaces_35 : decode cX3_writePlaces 35 = .ok (.aload_n 0, 1) := by decide +kernel
theorem dX3_writePlaces_36 : decode cX3_writePlaces 36 = .ok (.getfield 9, 3) := by decide +kernel
theorem dX3_writePlaces_39 : decode cX3_writePlaces 39 = .ok (.bipush 16, 2) := by decide +kernel
theorem dX3_writePlaces_41 : decode cX3_writePlaces 41 = .ok (.iload_n 3, 1) := by decide +kernel
theorem dX3_writePlaces_42 : decode cX3_writePlaces 42 = .ok (.iadd, 1) := by decide +kernel
theorem dX3_writePlaces_43 : decode cX3_writePlaces 43 = .ok (.invokevirtual 54, 3) := by decide +kernel
theorem dX3_writePlaces_46 : decode cX3_writePlaces 46 = .ok (.l2i, 1) := by decide +kernel
theorem dX3_writePlaces_47 : decode cX3_writePlaces 47 = .ok (.istore 4, 2) := by decide +kernel
theorem dX3_writePlaces_49 : decode cX3_writePlaces 49 = .ok (.aload_n 0, 1) := by decide +kernel
theorem dX3_writePlaces_50 : decode cX3_writePlaces 50 = .ok (.getfield 9, 3) := by decide +kernel
theorem dX3_writePlaces_53 : decode cX3_writePlaces 53 = .ok (.iload 4, 2) := by decide +kernel
theorem dX3_writePlaces_55 : decode cX3_writePlaces 55 = .ok (.aload_n 0, 1) := by decide +kernel
theorem dX3_writePlaces_56 : decode cX3_writePlaces 56 = .ok (.getfield 9, 3) := by decide +kernel
theorem dX3_writePlaces_59 : decode cX3_writePlaces 59 = .ok (.bipush 16, 2) := by decide +kernel
theorem dX3_writePlaces_61 : decode cX3_writePlaces 61 = .ok (.iload_n 3, 1) := by decide +kernel
theorem dX3_writePlaces_62 : decode cX3_writePlaces 62 = .ok (.iadd, 1) := by decide +kernel
theorem dX3_writePlaces_63 : decode cX3_writePlaces 63 = .ok (.iconst 1, 1) := by decide +kernel
theorem dX3_writePlaces_64 : decode cX3_writePlaces 64 = .ok (.iadd, 1) := by decide +kernel
theorem dX3_writePlaces_65 : decode cX3_writePlaces 65 = .ok (.invokevirtual 54, 3) := by decide +kernel
theorem dX3_writePlaces_68 : decode cX3_writePlaces 68 = .ok (.invokevirtual 35, 3) := by decide +kernel
theorem dX3_writePlaces_71 : decode cX3_writePlaces 71 = .ok (.ifCond .ne 5, 3) := by decide +kernel
theorem dX3_writePlaces_74 : decode cX3_writePlaces 74 = .ok (.iconst 0, 1) := by decide +kernel
theorem dX3_writePlaces_75 : decode cX3_writePlaces 75 = .ok (.ireturn, 1) := by decide +kernel
theorem dX3_writePlaces_76 : decode cX3_writePlaces 76 = .ok (.iinc 3 2, 3) := by decide +kernel
theorem dX3_writePlaces_79 : decode cX3_writePlaces 79 = .ok (.goto (-53), 3) := by decide +kernel
theorem dX3_writePlaces_82 : decode cX3_writePlaces 82 = .ok (.iload_n 2, 1) := by decide +kernel
theorem dX3_writePlaces_83 : decode cX3_writePlaces 83 = .ok (.iload_n 1, 1) := by decide +kernel
theorem dX3_writePlaces_84 : decode cX3_writePlaces 84 = .ok (.iadd, 1) := by decide +kernel
theorem dX3_writePlaces_85 : decode cX3_writePlaces 85 = .ok (.istore_n 2, 1) := by decide +kernel
theorem dX3_writePlaces_86 : decode cX3_writePlaces 86 = .ok (.goto (-84), 3) := by decide +kernel
theorem dX3_writePlaces_89 : decode cX3_writePlaces 89 = .ok (.iconst 1, 1) := by decide +kernel
theorem dX3_writePlaces_90 : decode cX3_writePlaces 90 = .ok (.ireturn, 1) := by decide +kernel
theorem dX3_appendWords_0 : decode cX3_appendWords 0 = .ok (.iconst 0, 1) := by decide +kernel
theorem dX3_appendWords_1 : decode cX3_appendWords 1 = .ok (.istore_n 3, 1) := by decide +kernel
theorem dX3_appendWords_2 : decode cX3_appendWords 2 = .ok (.iload_n 3, 1) := by decide +kernel
theorem dX3_appendWords_3 : decode cX3_appendWords 3 = .ok (.aload_n 1, 1) := by decide +kernel
theorem dX3_appendWords_4 : decode cX3_appendWords 4 = .ok (.invokevirtual 25, 3) := by decide +kernel
theorem dX3_appendWords_7 : decode cX3_appendWords 7 = .ok (.if_icmp .ge 60, 3) := by decide +kernel
theorem dX3_appendWords_10 : decode cX3_appendWords 10 = .ok (.aload_n 1, 1) := by decide +kernel
theorem dX3_appendWords_11 : decode cX3_appendWords 11 = .ok (.iload_n 3, 1) := by decide +kernel
theorem dX3_appendWords_12 : decode cX3_appendWords 12 = .ok (.invokevirtual 64, 3) := by decide +kernel
theorem dX3_appendWords_15 : decode cX3_appendWords 15 = .ok (.istore 4, 2) := by decide +kernel
theorem dX3_appendWords_17 : decode cX3_appendWords 17 = .ok (.iload_n 2, 1) := by decide +kernel
theorem dX3_appendWords_18 : decode cX3_appendWords 18 = .ok (.iconst 2, 1) := by decide +kernel
theorem dX3_appendWords_19 : decode cX3_appendWords 19 = .ok (.iload_n 3, 1) := by decide +kernel
theorem dX3_appendWords_20 : decode cX3_appendWords 20 = .ok (.imul, 1) := by decide +kernel
theorem dX3_appendWords_21 : decode cX3_appendWords 21 = .ok (.iadd, 1) := by decide +kernel
theorem dX3_appendWords_22 : decode cX3_appendWords 22 = .ok (.istore 5, 2) := by decide +kernel
theorem dX3_appendWords_24 : decode cX3_appendWords 24 = .ok (.aload_n 0, 1) := by decide +kernel
theorem dX3_appendWords_25 : decode cX3_appendWords 25 = .ok (.getfield 9, 3) := by decide +kernel
theorem dX3_appendWords_28 : decode cX3_appendWords 28 = .ok (.iload 5, 2) := by decide +kernel
theorem dX3_appendWords_30 : decode cX3_appendWords 30 = .ok (.iload 4, 2) := by decide +kernel
theorem dX3_appendWords_32 : decode cX3_appendWords 32 = .ok (.i2l, 1) := by decide +kernel
theorem dX3_appendWords_33 : decode cX3_appendWords 33 = .ok (.invokevirtual 35, 3) := by decide +kernel
theorem dX3_appendWords_36 : decode cX3_appendWords 36 = .ok (.ifCond .eq 23, 3) := by decide +kernel
theorem dX3_appendWords_39 : decode cX3_appendWords 39 = .ok (.aload_n 0, 1) := by decide +kernel
theorem dX3_appendWords_40 : decode cX3_appendWords 40 = .ok (.getfield 9, 3) := by decide +kernel
theorem dX3_appendWords_43 : decode cX3_appendWords 43 = .ok (.iload 5, 2) := by decide +kernel
theorem dX3_appendWords_45 : decode cX3_appendWords 45 = .ok (.iconst 1, 1) := by decide +kernel
theorem dX3_appendWords_46 : decode cX3_appendWords 46 = .ok (.iadd, 1) := by decide +kernel
theorem dX3_appendWords_47 : decode cX3_appendWords 47 = .ok (.aload_n 1, 1) := by decide +kernel
theorem dX3_appendWords_48 : decode cX3_appendWords 48 = .ok (.iload 4, 2) := by decide +kernel
theorem dX3_appendWords_50 : decode cX3_appendWords 50 = .ok (.invokevirtual 67, 3) := by decide +kernel
theorem dX3_appendWords_53 : decode cX3_appendWords 53 = .ok (.invokevirtual 35, 3) := by decide +kernel
theorem dX3_appendWords_56 : decode cX3_appendWords 56 = .ok (.ifCond .ne 5, 3) := by decide +kernel
theorem dX3_appendWords_59 : decode cX3_appendWords 59 = .ok (.iconst 0, 1) := by decide +kernel
theorem dX3_appendWords_60 : decode cX3_appendWords 60 = .ok (.ireturn, 1) := by decide +kernel
theorem dX3_appendWords_61 : decode cX3_appendWords 61 = .ok (.iinc 3 1, 3) := by decide +kernel
theorem dX3_appendWords_64 : decode cX3_appendWords 64 = .ok (.goto (-62), 3) := by decide +kernel
theorem dX3_appendWords_67 : decode cX3_appendWords 67 = .ok (.iconst 1, 1) := by decide +kernel
theorem dX3_appendWords_68 : decode cX3_appendWords 68 = .ok (.ireturn, 1) := by decide +kernel
theorem dX3_commitSize_0 : decode cX3_commitSize 0 = .ok (.aload_n 0, 1) := by decide +kernel
theorem dX3_commitSize_1 : decode cX3_commitSize 1 = .ok (.getfield 9, 3) := by decide +kernel
theorem dX3_commitSize_4 : decode cX3_commitSize 4 = .ok (.bipush 16, 2) := by decide +kernel
theorem dX3_commitSize_6 : decode cX3_commitSize 6 = .ok (.iload_n 1, 1) := by decide +kernel
theorem dX3_commitSize_7 : decode cX3_commitSize 7 = .ok (.iadd, 1) := by decide +kernel
theorem dX3_commitSize_8 : decode cX3_commitSize 8 = .ok (.invokevirtual 54, 3) := by decide +kernel
theorem dX3_commitSize_11 : decode cX3_commitSize 11 = .ok (.aload_n 0, 1) := by decide +kernel
theorem dX3_commitSize_12 : decode cX3_commitSize 12 = .ok (.iconst 0, 1) := by decide +kernel
theorem dX3_commitSize_13 : decode cX3_commitSize 13 = .ok (.invokevirtual 31, 3) := by decide +kernel
theorem dX3_commitSize_16 : decode cX3_commitSize 16 = .ok (.lsub, 1) := by decide +kernel
theorem dX3_commitSize_17 : decode cX3_commitSize 17 = .ok (.lstore_n 2, 1) := by decide +kernel
theorem dX3_commitSize_18 : decode cX3_commitSize 18 = .ok (.lload_n 2, 1) := by decide +kernel
theorem dX3_commitSize_19 : decode cX3_commitSize 19 = .ok (.lconst 1, 1) := by decide +kernel
theorem dX3_commitSize_20 : decode cX3_commitSize 20 = .ok (.lcmp, 1) := by decide +kernel
theorem dX3_commitSize_21 : decode cX3_commitSize 21 = .ok (.ifCond .lt 11, 3) := by decide +kernel
theorem dX3_commitSize_24 : decode cX3_commitSize 24 = .ok (.lload_n 2, 1) := by decide +kernel
theorem dX3_commitSize_25 : decode cX3_commitSize 25 = .ok (.ldc2_w 68, 3) := by decide +kernel
theorem dX3_commitSize_28 : decode cX3_commitSize 28 = .ok (.lcmp, 1) := by decide +kernel
theorem dX3_commitSize_29 : decode cX3_commitSize 29 = .ok (.ifCond .le 5, 3) := by decide +kernel
theorem dX3_commitSize_32 : decode cX3_commitSize 32 = .ok (.iconst 0, 1) := by decide +kernel
theorem dX3_commitSize_33 : decode cX3_commitSize 33 = .ok (.ireturn, 1) := by decide +kernel
theorem dX3_commitSize_34 : decode cX3_commitSize 34 = .ok (.iconst 2, 1) := by decide +kernel
theorem dX3_commitSize_35 : decode cX3_commitSize 35 = .ok (.iconst 2, 1) := by decide +kernel
theorem dX3_commitSize_36 : decode cX3_commitSize 36 = .ok (.lload_n 2, 1) := by decide +kernel
theorem dX3_commitSize_37 : decode cX3_commitSize 37 = .ok (.l2i, 1) := by decide +kernel
theorem dX3_commitSize_38 : decode cX3_commitSize 38 = .ok (.imul, 1) := by decide +kernel
theorem dX3_commitSize_39 : decode cX3_commitSize 39 = .ok (.iadd, 1) := by decide +kernel
theorem dX3_commitSize_40 : decode cX3_commitSize 40 = .ok (.istore 4, 2) := by decide +kernel
theorem dX3_commitSize_42 : decode cX3_commitSize 42 = .ok (.iload_n 1, 1) := by decide +kernel
theorem dX3_commitSize_43 : decode cX3_commitSize 43 = .ok (.iload 4, 2) := by decide +kernel
theorem dX3_commitSize_45 : decode cX3_commitSize 45 = .ok (.iadd, 1) := by decide +kernel
theorem dX3_commitSize_46 : decode cX3_commitSize 46 = .ok (.sipush 160, 3) := by decide +kernel
theorem dX3_commitSize_49 : decode cX3_commitSize 49 = .ok (.if_icmp .gt 24, 3) := by decide +kernel
theorem dX3_commitSize_52 : decode cX3_commitSize 52 = .ok (.aload_n 0, 1) := by decide +kernel
theorem dX3_commitSize_53 : decode cX3_commitSize 53 = .ok (.getfield 9, 3) := by decide +kernel
theorem dX3_commitSize_56 : decode cX3_commitSize 56 = .ok (.bipush 16, 2) := by decide +kernel
theorem dX3_commitSize_58 : decode cX3_commitSize 58 = .ok (.iload_n 1, 1) := by decide +kernel
theorem dX3_commitSize_59 : decode cX3_commitSize 59 = .ok (.iadd, 1) := by decide +kernel
theorem dX3_commitSize_60 : decode cX3_commitSize 60 = .ok (.iload 4, 2) := by decide +kernel
theorem dX3_commitSize_62 : decode cX3_commitSize 62 = .ok (.iadd, 1) := by decide +kernel
theorem dX3_commitSize_63 : decode cX3_commitSize 63 = .ok (.iconst 1, 1) := by decide +kernel
theorem dX3_commitSize_64 : decode cX3_commitSize 64 = .ok (.isub, 1) := by decide +kernel
theorem dX3_commitSize_65 : decode cX3_commitSize 65 = .ok (.invokevirtual 54, 3) := by decide +kernel
theorem dX3_commitSize_68 : decode cX3_commitSize 68 = .ok (.lconst 0, 1) := by decide +kernel
theorem dX3_commitSize_69 : decode cX3_commitSize 69 = .ok (.lcmp, 1) := by decide +kernel
theorem dX3_commitSize_70 : decode cX3_commitSize 70 = .ok (.ifCond .lt 5, 3) := by decide +kernel
theorem dX3_commitSize_73 : decode cX3_commitSize 73 = .ok (.iconst 0, 1) := by decide +kernel
theorem dX3_commitSize_74 : decode cX3_commitSize 74 = .ok (.ireturn, 1) := by decide +kernel
theorem dX3_commitSize_75 : decode cX3_commitSize 75 = .ok (.iload 4, 2) := by decide +kernel
theorem dX3_commitSize_77 : decode cX3_commitSize 77 = .ok (.ireturn, 1) := by decide +kernel
theorem dX3_front_0 : decode cX3_front 0 = .ok (.ldc2_w 70, 3) := by decide +kernel
theorem dX3_front_3 : decode cX3_front 3 = .ok (.aload_n 0, 1) := by decide +kernel
theorem dX3_front_4 : decode cX3_front 4 = .ok (.getfield 9, 3) := by decide +kernel
theorem dX3_front_7 : decode cX3_front 7 = .ok (.iconst 0, 1) := by decide +kernel
theorem dX3_front_8 : decode cX3_front 8 = .ok (.invokevirtual 54, 3) := by decide +kernel
theorem dX3_front_11 : decode cX3_front 11 = .ok (.lmul, 1) := by decide +kernel
theorem dX3_front_12 : decode cX3_front 12 = .ok (.iload_n 1, 1) := by decide +kernel
theorem dX3_front_13 : decode cX3_front 13 = .ok (.i2l, 1) := by decide +kernel
theorem dX3_front_14 : decode cX3_front 14 = .ok (.ladd, 1) := by decide +kernel
theorem dX3_front_15 : decode cX3_front 15 = .ok (.lreturn, 1) := by decide +kernel
