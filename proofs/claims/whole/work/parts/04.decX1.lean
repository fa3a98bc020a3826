-- rows of claim/NAMES.whole.lean.txt (starting text): what each instruction is
theorem dX1_init_0 : decode cX1_init 0 = .ok (.aload_n 0, 1) := by decide +kernel
theorem dX1_init_1 : decode cX1_init 1 = .ok (.invokespecial 3, 3) := by decide +kernel
theorem dX1_init_4 : decode cX1_init 4 = .ok (.aload_n 0, 1) := by decide +kernel
theorem dX1_init_5 : decode cX1_init 5 = .ok (.sipush 1024, 3) := by decide +kernel
theorem dX1_init_8 : decode cX1_init 8 = .ok (.newarray .long, 2) := by decide +kernel
theorem dX1_init_10 : decode cX1_init 10 = .ok (.putfield 9, 3) := by decide +kernel
theorem dX1_init_13 : decode cX1_init 13 = .ok (.aload_n 0, 1) := by decide +kernel
theorem dX1_init_14 : decode cX1_init 14 = .ok (.sipush 1024, 3) := by decide +kernel
theorem dX1_init_17 : decode cX1_init 17 = .ok (.newarray .long, 2) := by decide +kernel
theorem dX1_init_19 : decode cX1_init 19 = .ok (.putfield 15, 3) := by decide +kernel
theorem dX1_init_22 : decode cX1_init 22 = .ok (.aload_n 0, 1) := by decide +kernel
theorem dX1_init_23 : decode cX1_init 23 = .ok (.sipush 1024, 3) := by decide +kernel
theorem dX1_init_26 : decode cX1_init 26 = .ok (.newarray .boolean, 2) := by decide +kernel
theorem dX1_init_28 : decode cX1_init 28 = .ok (.putfield 18, 3) := by decide +kernel
theorem dX1_init_31 : decode cX1_init 31 = .ok (.aload_n 0, 1) := by decide +kernel
theorem dX1_init_32 : decode cX1_init 32 = .ok (.bipush 96, 2) := by decide +kernel
theorem dX1_init_34 : decode cX1_init 34 = .ok (.newarray .int, 2) := by decide +kernel
theorem dX1_init_36 : decode cX1_init 36 = .ok (.putfield 22, 3) := by decide +kernel
theorem dX1_init_39 : decode cX1_init 39 = .ok (.return_, 1) := by decide +kernel
theorem dX1_areOpen_0 : decode cX1_areOpen 0 = .ok (.aload_n 0, 1) := by decide +kernel
theorem dX1_areOpen_1 : decode cX1_areOpen 1 = .ok (.getfield 26, 3) := by decide +kernel
theorem dX1_areOpen_4 : decode cX1_areOpen 4 = .ok (.ireturn, 1) := by decide +kernel
theorem dX1_size_0 : decode cX1_size 0 = .ok (.aload_n 0, 1) := by decide +kernel
theorem dX1_size_1 : decode cX1_size 1 = .ok (.getfield 30, 3) := by decide +kernel
theorem dX1_size_4 : decode cX1_size 4 = .ok (.ireturn, 1) := by decide +kernel
theorem dX1_place_0 : decode cX1_place 0 = .ok (.iload_n 1, 1) := by decide +kernel
theorem dX1_place_1 : decode cX1_place 1 = .ok (.ifCond .lt 26, 3) := by decide +kernel
theorem dX1_place_4 : decode cX1_place 4 = .ok (.iload_n 1, 1) := by decide +kernel
theorem dX1_place_5 : decode cX1_place 5 = .ok (.aload_n 0, 1) := by decide +kernel
theorem dX1_place_6 : decode cX1_place 6 = .ok (.getfield 30, 3) := by decide +kernel
theorem dX1_place_9 : decode cX1_place 9 = .ok (.if_icmp .ge 18, 3) := by decide +kernel
theorem dX1_place_12 : decode cX1_place 12 = .ok (.iload_n 1, 1) := by decide +kernel
theorem dX1_place_13 : decode cX1_place 13 = .ok (.bipush 96, 2) := by decide +kernel
theorem dX1_place_15 : decode cX1_place 15 = .ok (.if_icmp .ge 12, 3) := by decide +kernel
theorem dX1_place_18 : decode cX1_place 18 = .ok (.aload_n 0, 1) := by decide +kernel
theorem dX1_place_19 : decode cX1_place 19 = .ok (.getfield 22, 3) := by decide +kernel
theorem dX1_place_22 : decode cX1_place 22 = .ok (.iload_n 1, 1) := by decide +kernel
theorem dX1_place_23 : decode cX1_place 23 = .ok (.iaload, 1) := by decide +kernel
theorem dX1_place_24 : decode cX1_place 24 = .ok (.goto 4, 3) := by decide +kernel
theorem dX1_place_27 : decode cX1_place 27 = .ok (.iconst (-1), 1) := by decide +kernel
theorem dX1_place_28 : decode cX1_place 28 = .ok (.ireturn, 1) := by decide +kernel
theorem dX1_read_0 : decode cX1_read 0 = .ok (.iload_n 1, 1) := by decide +kernel
theorem dX1_read_1 : decode cX1_read 1 = .ok (.invokestatic 34, 3) := by decide +kernel
theorem dX1_read_4 : decode cX1_read 4 = .ok (.ifCond .eq 12, 3) := by decide +kernel
theorem dX1_read_7 : decode cX1_read 7 = .ok (.aload_n 0, 1) := by decide +kernel
theorem dX1_read_8 : decode cX1_read 8 = .ok (.getfield 15, 3) := by decide +kernel
theorem dX1_read_11 : decode cX1_read 11 = .ok (.iload_n 1, 1) := by decide +kernel
theorem dX1_read_12 : decode cX1_read 12 = .ok (.laload, 1) := by decide +kernel
theorem dX1_read_13 : decode cX1_read 13 = .ok (.goto 4, 3) := by decide +kernel
theorem dX1_read_16 : decode cX1_read 16 = .ok (.lconst 0, 1) := by decide +kernel
theorem dX1_read_17 : decode cX1_read 17 = .ok (.lreturn, 1) := by decide +kernel
theorem dX1_start_0 : decode cX1_start 0 = .ok (.aload_n 0, 1) := by decide +kernel
theorem dX1_start_1 : decode cX1_start 1 = .ok (.iconst 1, 1) := by decide +kernel
theorem dX1_start_2 : decode cX1_start 2 = .ok (.putfield 26, 3) := by decide +kernel
theorem dX1_start_5 : decode cX1_start 5 = .ok (.return_, 1) := by decide +kernel
theorem dX1_cost_0 : decode cX1_cost 0 = .ok (.iload_n 1, 1) := by decide +kernel
theorem dX1_cost_1 : decode cX1_cost 1 = .ok (.invokestatic 34, 3) := by decide +kernel
theorem dX1_cost_4 : decode cX1_cost 4 = .ok (.ifCond .eq 23, 3) := by decide +kernel
theorem dX1_cost_7 : decode cX1_cost 7 = .ok (.aload_n 0, 1) := by decide +kernel
theorem dX1_cost_8 : decode cX1_cost 8 = .ok (.getfield 18, 3) := by decide +kernel
theorem dX1_cost_11 : decode cX1_cost 11 = .ok (.iload_n 1, 1) := by decide +kernel
theorem dX1_cost_12 : decode cX1_cost 12 = .ok (.baload, 1) := by decide +kernel
theorem dX1_cost_13 : decode cX1_cost 13 = .ok (.ifCond .ne 14, 3) := by decide +kernel
theorem dX1_cost_16 : decode cX1_cost 16 = .ok (.aload_n 0, 1) := by decide +kernel
theorem dX1_cost_17 : decode cX1_cost 17 = .ok (.getfield 15, 3) := by decide +kernel
theorem dX1_cost_20 : decode cX1_cost 20 = .ok (.iload_n 1, 1) := by decide +kernel
theorem dX1_cost_21 : decode cX1_cost 21 = .ok (.laload, 1) := by decide +kernel
theorem dX1_cost_22 : decode cX1_cost 22 = .ok (.lload_n 2, 1) := by decide +kernel
theorem dX1_cost_23 : decode cX1_cost 23 = .ok (.lcmp, 1) := by decide +kernel
theorem dX1_cost_24 : decode cX1_cost 24 = .ok (.ifCond .ne 7, 3) := by decide +kernel
theorem dX1_cost_27 : decode cX1_cost 27 = .ok (.iconst 0, 1) := by decide +kernel
theorem dX1_cost_28 : decode cX1_cost 28 = .ok (.goto 4, 3) := by decide +kernel
theorem dX1_cost_31 : decode cX1_cost 31 = .ok (.iconst 1, 1) := by decide +kernel
theorem dX1_cost_32 : decode cX1_cost 32 = .ok (.ireturn, 1) := by decide +kernel
theorem dX1_haveRoomFor_0 : decode cX1_haveRoomFor 0 = .ok (.aload_n 0, 1) := by decide +kernel
theorem dX1_haveRoomFor_1 : decode cX1_haveRoomFor 1 = .ok (.getfield 30, 3) := by decide +kernel
theorem dX1_haveRoomFor_4 : decode cX1_haveRoomFor 4 = .ok (.iload_n 1, 1) := by decide +kernel
theorem dX1_haveRoomFor_5 : decode cX1_haveRoomFor 5 = .ok (.iadd, 1) := by decide +kernel
theorem dX1_haveRoomFor_6 : decode cX1_haveRoomFor 6 = .ok (.bipush 96, 2) := by decide +kernel
theorem dX1_haveRoomFor_8 : decode cX1_haveRoomFor 8 = .ok (.if_icmp .gt 7, 3) := by decide +kernel
theorem dX1_haveRoomFor_11 : decode cX1_haveRoomFor 11 = .ok (.iconst 1, 1) := by decide +kernel
theorem dX1_haveRoomFor_12 : decode cX1_haveRoomFor 12 = .ok (.goto 4, 3) := by decide +kernel
theorem dX1_haveRoomFor_15 : decode cX1_haveRoomFor 15 = .ok (.iconst 0, 1) := by decide +kernel
theorem dX1_haveRoomFor_16 : decode cX1_haveRoomFor 16 = .ok (.ireturn, 1) := by decide +kernel
theorem dX1_change_0 : decode cX1_change 0 = .ok (.aload_n 0, 1) := by decide +kernel
theorem dX1_change_1 : decode cX1_change 1 = .ok (.iload_n 1, 1) := by decide +kernel
theorem dX1_change_2 : decode cX1_change 2 = .ok (.lload_n 2, 1) := by decide +kernel
theorem dX1_change_3 : decode cX1_change 3 = .ok (.invokevirtual 38, 3) := by decide +kernel
theorem dX1_change_6 : decode cX1_change 6 = .ok (.istore 4, 2) := by decide +kernel
theorem dX1_change_8 : decode cX1_change 8 = .ok (.iload_n 1, 1) := by decide +kernel
theorem dX1_change_9 : decode cX1_change 9 = .ok (.invokestatic 34, 3) := by decide +kernel
theorem dX1_change_12 : decode cX1_change 12 = .ok (.ifCond .eq 12, 3) := by decide +kernel
theorem dX1_change_15 : decode cX1_change 15 = .ok (.aload_n 0, 1) := by decide +kernel
theorem dX1_change_16 : decode cX1_change 16 = .ok (.iload 4, 2) := by decide +kernel
theorem dX1_change_18 : decode cX1_change 18 = .ok (.invokevirtual 42, 3) := by decide +kernel
theorem dX1_change_21 : decode cX1_change 21 = .ok (.ifCond .ne 5, 3) := by decide +kernel
theorem dX1_change_24 : decode cX1_change 24 = .ok (.iconst 0, 1) := by decide +kernel
theorem dX1_change_25 : decode cX1_change 25 = .ok (.ireturn, 1) := by decide +kernel
theorem dX1_change_26 : decode cX1_change 26 = .ok (.iload 4, 2) := by decide +kernel
theorem dX1_change_28 : decode cX1_change 28 = .ok (.ifCond .le 15, 3) := by decide +kernel
theorem dX1_change_31 : decode cX1_change 31 = .ok (.aload_n 0, 1) := by decide +kernel
theorem dX1_change_32 : decode cX1_change 32 = .ok (.getfield 18, 3) := by decide +kernel
theorem dX1_change_35 : decode cX1_change 35 = .ok (.iload_n 1, 1) := by decide +kernel
theorem dX1_change_36 : decode cX1_change 36 = .ok (.iconst 1, 1) := by decide +kernel
theorem dX1_change_37 : decode cX1_change 37 = .ok (.bastore, 1) := by decide +kernel
theorem dX1_change_38 : decode cX1_change 38 = .ok (.aload_n 0, 1) := by decide +kernel
theorem dX1_change_39 : decode cX1_change 39 = .ok (.iload_n 1, 1) := by decide +kernel
theorem dX1_change_40 : decode cX1_change 40 = .ok (.invokevirtual 45, 3) := by decide +kernel
theorem dX1_change_43 : decode cX1_change 43 = .ok (.aload_n 0, 1) := by decide +kernel
theorem dX1_change_44 : decode cX1_change 44 = .ok (.getfield 15, 3) := by decide +kernel
theorem dX1_change_47 : decode cX1_change 47 = .ok (.iload_n 1, 1) := by decide +kernel
theorem dX1_change_48 : decode cX1_change 48 = .ok (.lload_n 2, 1) := by decide +kernel
theorem dX1_change_49 : decode cX1_change 49 = .ok (.lastore, 1) := by decide +kernel
theorem dX1_change_50 : decode cX1_change 50 = .ok (.iconst 1, 1) := by decide +kernel
theorem dX1_change_51 : decode cX1_change 51 = .ok (.ireturn, 1) := by decide +kernel
theorem dX1_accept_0 : decode cX1_accept 0 = .ok (.iconst 0, 1) := by decide +kernel
theorem dX1_accept_1 : decode cX1_accept 1 = .ok (.istore_n 1, 1) := by decide +kernel
theorem dX1_accept_2 : decode cX1_accept 2 = .ok (.iload_n 1, 1) := by decide +kernel
theorem dX1_accept_3 : decode cX1_accept 3 = .ok (.aload_n 0, 1) := by decide +kernel
theorem dX1_accept_4 : decode cX1_accept 4 = .ok (.getfield 30, 3) := by decide +kernel
theorem dX1_accept_7 : decode cX1_accept 7 = .ok (.if_icmp .ge 34, 3) := by decide +kernel
theorem dX1_accept_10 : decode cX1_accept 10 = .ok (.aload_n 0, 1) := by decide +kernel
theorem dX1_accept_11 : decode cX1_accept 11 = .ok (.iload_n 1, 1) := by decide +kernel
theorem dX1_accept_12 : decode cX1_accept 12 = .ok (.invokevirtual 49, 3) := by decide +kernel
theorem dX1_accept_15 : decode cX1_accept 15 = .ok (.istore_n 2, 1) := by decide +kernel
theorem dX1_accept_16 : decode cX1_accept 16 = .ok (.iload_n 2, 1) := by decide +kernel
theorem dX1_accept_17 : decode cX1_accept 17 = .ok (.invokestatic 34, 3) := by decide +kernel
theorem dX1_accept_20 : decode cX1_accept 20 = .ok (.ifCond .eq 15, 3) := by decide +kernel
theorem dX1_accept_23 : decode cX1_accept 23 = .ok (.aload_n 0, 1) := by decide +kernel
theorem dX1_accept_24 : decode cX1_accept 24 = .ok (.getfield 9, 3) := by decide +kernel
theorem dX1_accept_27 : decode cX1_accept 27 = .ok (.iload_n 2, 1) := by decide +kernel
theorem dX1_accept_28 : decode cX1_accept 28 = .ok (.aload_n 0, 1) := by decide +kernel
theorem dX1_accept_29 : decode cX1_accept 29 = .ok (.getfield 15, 3) := by decide +kernel
theorem dX1_accept_32 : decode cX1_accept 32 = .ok (.iload_n 2, 1) := by decide +kernel
theorem dX1_accept_33 : decode cX1_accept 33 = .ok (.laload, 1) := by decide +kernel
theorem dX1_accept_34 : decode cX1_accept 34 = .ok (.lastore, 1) := by decide +kernel
theorem dX1_accept_35 : decode cX1_accept 35 = .ok (.iinc 1 1, 3) := by decide +kernel
theorem dX1_accept_38 : decode cX1_accept 38 = .ok (.goto (-36), 3) := by decide +kernel
theorem dX1_accept_41 : decode cX1_accept 41 = .ok (.aload_n 0, 1) := by decide +kernel
theorem dX1_accept_42 : decode cX1_accept 42 = .ok (.invokevirtual 53, 3) := by decide +kernel
theorem dX1_accept_45 : decode cX1_accept 45 = .ok (.return_, 1) := by decide +kernel
theorem dX1_takeBack_0 : decode cX1_takeBack 0 = .ok (.iconst 0, 1) := by decide +kernel
theorem dX1_takeBack_1 : decode cX1_takeBack 1 = .ok (.istore_n 1, 1) := by decide +kernel
theorem dX1_takeBack_2 : decode cX1_takeBack 2 = .ok (.iload_n 1, 1) := by decide +kernel
theorem dX1_takeBack_3 : decode cX1_takeBack 3 = .ok (.aload_n 0, 1) := by decide +kernel
theorem dX1_takeBack_4 : decode cX1_takeBack 4 = .ok (.getfield 30, 3) := by decide +kernel
theorem dX1_takeBack_7 : decode cX1_takeBack 7 = .ok (.if_icmp .ge 34, 3) := by decide +kernel
theorem dX1_takeBack_10 : decode cX1_takeBack 10 = .ok (.aload_n 0, 1) := by decide +kernel
theorem dX1_takeBack_11 : decode cX1_takeBack 11 = .ok (.iload_n 1, 1) := by decide +kernel
theorem dX1_takeBack_12 : decode cX1_takeBack 12 = .ok (.invokevirtual 49, 3) := by decide +kernel
theorem dX1_takeBack_15 : decode cX1_takeBack 15 = .ok (.istore_n 2, 1) := by decide +kernel
theorem dX1_takeBack_16 : decode cX1_takeBack 16 = .ok (.iload_n 2, 1) := by decide +kernel
theorem dX1_takeBack_17 : decode cX1_takeBack 17 = .ok (.invokestatic 34, 3) := by decide +kernel
theorem dX1_takeBack_20 : decode cX1_takeBack 20 = .ok (.ifCond .eq 15, 3) := by decide +kernel
theorem dX1_takeBack_23 : decode cX1_takeBack 23 = .ok (.aload_n 0, 1) := by decide +kernel
theorem dX1_takeBack_24 : decode cX1_takeBack 24 = .ok (.getfield 15, 3) := by decide +kernel
theorem dX1_takeBack_27 : decode cX1_takeBack 27 = .ok (.iload_n 2, 1) := by decide +kernel
theorem dX1_takeBack_28 : decode cX1_takeBack 28 = .ok (.aload_n 0, 1) := by decide +kernel
theorem dX1_takeBack_29 : decode cX1_takeBack 29 = .ok (.getfield 9, 3) := by decide +kernel
theorem dX1_takeBack_32 : decode cX1_takeBack 32 = .ok (.iload_n 2, 1) := by decide +kernel
theorem dX1_takeBack_33 : decode cX1_takeBack 33 = .ok (.laload, 1) := by decide +kernel
theorem dX1_takeBack_34 : decode cX1_takeBack 34 = .ok (.lastore, 1) := by decide +kernel
theorem dX1_takeBack_35 : decode cX1_takeBack 35 = .ok (.iinc 1 1, 3) := by decide +kernel
theorem dX1_takeBack_38 : decode cX1_takeBack 38 = .ok (.goto (-36), 3) := by decide +kernel
theorem dX1_takeBack_41 : decode cX1_takeBack 41 = .ok (.aload_n 0, 1) := by decide +kernel
theorem dX1_takeBack_42 : decode cX1_takeBack 42 = .ok (.invokevirtual 53, 3) := by decide +kernel
theorem dX1_takeBack_45 : decode cX1_takeBack 45 = .ok (.return_, 1) := by decide +kernel
theorem dX1_drop_0 : decode cX1_drop 0 = .ok (.iconst 0, 1) := by decide +kernel
theorem dX1_drop_1 : decode cX1_drop 1 = .ok (.istore_n 1, 1) := by decide +kernel
theorem dX1_drop_2 : decode cX1_drop 2 = .ok (.iload_n 1, 1) := by decide +kernel
theorem dX1_drop_3 : decode cX1_drop 3 = .ok (.aload_n 0, 1) := by decide +kernel
theorem dX1_drop_4 : decode cX1_drop 4 = .ok (.getfield 30, 3) := by decide +kernel
theorem dX1_drop_7 : decode cX1_drop 7 = .ok (.if_icmp .ge 29, 3) := by decide +kernel
theorem dX1_drop_10 : decode cX1_drop 10 = .ok (.aload_n 0, 1) := by decide +kernel
theorem dX1_drop_11 : decode cX1_drop 11 = .ok (.iload_n 1, 1) := by decide +kernel
theorem dX1_drop_12 : decode cX1_drop 12 = .ok (.invokevirtual 49, 3) := by decide +kernel
theorem dX1_drop_15 : decode cX1_drop 15 = .ok (.istore_n 2, 1) := by decide +kernel
theorem dX1_drop_16 : decode cX1_drop 16 = .ok (.iload_n 2, 1) := by decide +kernel
theorem dX1_drop_17 : decode cX1_drop 17 = .ok (.invokestatic 34, 3) := by decide +kernel
theorem dX1_drop_20 : decode cX1_drop 20 = .ok (.ifCond .eq 10, 3) := by decide +kernel
theorem dX1_drop_23 : decode cX1_drop 23 = .ok (.aload_n 0, 1) := by decide +kernel
theorem dX1_drop_24 : decode cX1_drop 24 = .ok (.getfield 18, 3) := by decide +kernel
theorem dX1_drop_27 : decode cX1_drop 27 = .ok (.iload_n 2, 1) := by decide +kernel
theorem dX1_drop_28 : decode cX1_drop 28 = .ok (.iconst 0, 1) := by decide +kernel
theorem dX1_drop_29 : decode cX1_drop 29 = .ok (.bastore, 1) := by decide +kernel
theorem dX1_drop_30 : decode cX1_drop 30 = .ok (.iinc 1 1, 3) := by decide +kernel
theorem dX1_drop_33 : decode cX1_drop 33 = .ok (.goto (-31), 3) := by decide +kernel
theorem dX1_drop_36 : decode cX1_drop 36 = .ok (.aload_n 0, 1) := by decide +kernel
theorem dX1_drop_37 : decode cX1_drop 37 = .ok (.iconst 0, 1) := by decide +kernel
theorem dX1_drop_38 : decode cX1_drop 38 = .ok (.putfield 30, 3) := by decide +kernel
theorem dX1_drop_41 : decode cX1_drop 41 = .ok (.aload_n 0, 1) := by decide +kernel
theorem dX1_drop_42 : decode cX1_drop 42 = .ok (.iconst 0, 1) := by decide +kernel
theorem dX1_drop_43 : decode cX1_drop 43 = .ok (.putfield 26, 3) := by decide +kernel
theorem dX1_drop_46 : decode cX1_drop 46 = .ok (.return_, 1) := by decide +kernel
theorem dX1_load_0 : decode cX1_load 0 = .ok (.iconst 0, 1) := by decide +kernel
theorem dX1_load_1 : decode cX1_load 1 = .ok (.istore_n 2, 1) := by decide +kernel
theorem dX1_load_2 : decode cX1_load 2 = .ok (.iload_n 2, 1) := by decide +kernel
theorem dX1_load_3 : decode cX1_load 3 = .ok (.sipush 1024, 3) := by decide +kernel
theorem dX1_load_6 : decode cX1_load 6 = .ok (.if_icmp .ge 20, 3) := by decide +kernel
theorem dX1_load_9 : decode cX1_load 9 = .ok (.aload_n 0, 1) := by decide +kernel
theorem dX1_load_10 : decode cX1_load 10 = .ok (.getfield 9, 3) := by decide +kernel
theorem dX1_load_13 : decode cX1_load 13 = .ok (.iload_n 2, 1) := by decide +kernel
theorem dX1_load_14 : decode cX1_load 14 = .ok (.aload_n 1, 1) := by decide +kernel
theorem dX1_load_15 : decode cX1_load 15 = .ok (.iload_n 2, 1) := by decide +kernel
theorem dX1_load_16 : decode cX1_load 16 = .ok (.invokevirtual 56, 3) := by decide +kernel
theorem dX1_load_19 : decode cX1_load 19 = .ok (.lastore, 1) := by decide +kernel
theorem dX1_load_20 : decode cX1_load 20 = .ok (.iinc 2 1, 3) := by decide +kernel
theorem dX1_load_23 : decode cX1_load 23 = .ok (.goto (-21), 3) := by decide +kernel
theorem dX1_load_26 : decode cX1_load 26 = .ok (.aload_n 0, 1) := by decide +kernel
theorem dX1_load_27 : decode cX1_load 27 = .ok (.getfield 9, 3) := by decide +kernel
theorem dX1_load_30 : decode cX1_load 30 = .ok (.iconst 0, 1) := by decide +kernel
theorem dX1_load_31 : decode cX1_load 31 = .ok (.aload_n 0, 1) := by decide +kernel
theorem dX1_load_32 : decode cX1_load 32 = .ok (.getfield 15, 3) := by decide +kernel
theorem dX1_load_35 : decode cX1_load 35 = .ok (.iconst 0, 1) := by decide +kernel
theorem dX1_load_36 : decode cX1_load 36 = .ok (.sipush 1024, 3) := by decide +kernel
theorem dX1_load_39 : decode cX1_load 39 = .ok (.invokestatic 62, 3) := by decide +kernel
theorem dX1_load_42 : decode cX1_load 42 = .ok (.return_, 1) := by decide +kernel
theorem dX1_insert_0 : decode cX1_insert 0 = .ok (.aload_n 0, 1) := by decide +kernel
theorem dX1_insert_1 : decode cX1_insert 1 = .ok (.getfield 30, 3) := by decide +kernel
theorem dX1_insert_4 : decode cX1_insert 4 = .ok (.bipush 96, 2) := by decide +kernel
theorem dX1_insert_6 : decode cX1_insert 6 = .ok (.if_icmp .lt 4, 3) := by decide +kernel
theorem dX1_insert_9 : decode cX1_insert 9 = .ok (.return_, 1) := by decide +kernel
theorem dX1_insert_10 : decode cX1_insert 10 = .ok (.aload_n 0, 1) := by decide +kernel
theorem dX1_insert_11 : decode cX1_insert 11 = .ok (.getfield 30, 3) := by decide +kernel
theorem dX1_insert_14 : decode cX1_insert 14 = .ok (.istore_n 2, 1) := by decide +kernel
theorem dX1_insert_15 : decode cX1_insert 15 = .ok (.iload_n 2, 1) := by decide +kernel
theorem dX1_insert_16 : decode cX1_insert 16 = .ok (.ifCond .le 35, 3) := by decide +kernel
theorem dX1_insert_19 : decode cX1_insert 19 = .ok (.aload_n 0, 1) := by decide +kernel
theorem dX1_insert_20 : decode cX1_insert 20 = .ok (.getfield 22, 3) := by decide +kernel
theorem dX1_insert_23 : decode cX1_insert 23 = .ok (.iload_n 2, 1) := by decide +kernel
theorem dX1_insert_24 : decode cX1_insert 24 = .ok (.iconst 1, 1) := by decide +kernel
theorem dX1_insert_25 : decode cX1_insert 25 = .ok (.isub, 1) := by decide +kernel
theorem dX1_insert_26 : decode cX1_insert 26 = .ok (.iaload, 1) := by decide +kernel
theorem dX1_insert_27 : decode cX1_insert 27 = .ok (.iload_n 1, 1) := by decide +kernel
theorem dX1_insert_28 : decode cX1_insert 28 = .ok (.if_icmp .le 23, 3) := by decide +kernel
theorem dX1_insert_31 : decode cX1_insert 31 = .ok (.aload_n 0, 1) := by decide +kernel
theorem dX1_insert_32 : decode cX1_insert 32 = .ok (.getfield 22, 3) := by decide +kernel
theorem dX1_insert_35 : decode cX1_insert 35 = .ok (.iload_n 2, 1) := by decide +kernel
theorem dX1_insert_36 : decode cX1_insert 36 = .ok (.aload_n 0, 1) := by decide +kernel
theorem dX1_insert_37 : decode cX1_insert 37 = .ok (.getfield 22, 3) := by decide +kernel
theorem dX1_insert_40 : decode cX1_insert 40 = .ok (.iload_n 2, 1) := by decide +kernel
theorem dX1_insert_41 : decode cX1_insert 41 = .ok (.iconst 1, 1) := by decide +kernel
theorem dX1_insert_42 : decode cX1_insert 42 = .ok (.isub, 1) := by decide +kernel
theorem dX1_insert_43 : decode cX1_insert 43 = .ok (.iaload, 1) := by decide +kernel
theorem dX1_insert_44 : decode cX1_insert 44 = .ok (.iastore, 1) := by decide +kernel
theorem dX1_insert_45 : decode cX1_insert 45 = .ok (.iinc 2 (-1), 3) := by decide +kernel
theorem dX1_insert_48 : decode cX1_insert 48 = .ok (.goto (-33), 3) := by decide +kernel
theorem dX1_insert_51 : decode cX1_insert 51 = .ok (.aload_n 0, 1) := by decide +kernel
theorem dX1_insert_52 : decode cX1_insert 52 = .ok (.getfield 22, 3) := by decide +kernel
theorem dX1_insert_55 : decode cX1_insert 55 = .ok (.iload_n 2, 1) := by decide +kernel
theorem dX1_insert_56 : decode cX1_insert 56 = .ok (.iload_n 1, 1) := by decide +kernel
theorem dX1_insert_57 : decode cX1_insert 57 = .ok (.iastore, 1) := by decide +kernel
theorem dX1_insert_58 : decode cX1_insert 58 = .ok (.aload_n 0, 1) := by decide +kernel
theorem dX1_insert_59 : decode cX1_insert 59 = .ok (.dup, 1) := by decide +kernel
theorem dX1_insert_60 : decode cX1_insert 60 = .ok (.getfield 30, 3) := by decide +kernel
theorem dX1_insert_63 : decode cX1_insert 63 = .ok (.iconst 1, 1) := by decide +kernel
theorem dX1_insert_64 : decode cX1_insert 64 = .ok (.iadd, 1) := by decide +kernel
theorem dX1_insert_65 : decode cX1_insert 65 = .ok (.putfield 30, 3) := by decide +kernel
theorem dX1_insert_68 : decode cX1_insert 68 = .ok (.return_, 1) := by decide +kernel
