-- rows of claim/NAMES.whole.lean.txt (starting text): what each instruction is
theorem dX0_init_0 : decode cX0_init 0 = .ok (.aload_n 0, 1) := by decide +kernel
theorem dX0_init_1 : decode cX0_init 1 = .ok (.invokespecial 3, 3) := by decide +kernel
theorem dX0_init_4 : decode cX0_init 4 = .ok (.aload_n 0, 1) := by decide +kernel
theorem dX0_init_5 : decode cX0_init 5 = .ok (.aload_n 1, 1) := by decide +kernel
theorem dX0_init_6 : decode cX0_init 6 = .ok (.putfield 9, 3) := by decide +kernel
theorem dX0_init_9 : decode cX0_init 9 = .ok (.return_, 1) := by decide +kernel
theorem dX0_sizeAt_0 : decode cX0_sizeAt 0 = .ok (.aload_n 0, 1) := by decide +kernel
theorem dX0_sizeAt_1 : decode cX0_sizeAt 1 = .ok (.getfield 9, 3) := by decide +kernel
theorem dX0_sizeAt_4 : decode cX0_sizeAt 4 = .ok (.iload_n 1, 1) := by decide +kernel
theorem dX0_sizeAt_5 : decode cX0_sizeAt 5 = .ok (.invokevirtual 15, 3) := by decide +kernel
theorem dX0_sizeAt_8 : decode cX0_sizeAt 8 = .ok (.iconst 1, 1) := by decide +kernel
theorem dX0_sizeAt_9 : decode cX0_sizeAt 9 = .ok (.lshr, 1) := by decide +kernel
theorem dX0_sizeAt_10 : decode cX0_sizeAt 10 = .ok (.lstore_n 2, 1) := by decide +kernel
theorem dX0_sizeAt_11 : decode cX0_sizeAt 11 = .ok (.iload_n 1, 1) := by decide +kernel
theorem dX0_sizeAt_12 : decode cX0_sizeAt 12 = .ok (.sipush 176, 3) := by decide +kernel
theorem dX0_sizeAt_15 : decode cX0_sizeAt 15 = .ok (.if_icmp .lt 24, 3) := by decide +kernel
theorem dX0_sizeAt_18 : decode cX0_sizeAt 18 = .ok (.lload_n 2, 1) := by decide +kernel
theorem dX0_sizeAt_19 : decode cX0_sizeAt 19 = .ok (.lconst 1, 1) := by decide +kernel
theorem dX0_sizeAt_20 : decode cX0_sizeAt 20 = .ok (.lcmp, 1) := by decide +kernel
theorem dX0_sizeAt_21 : decode cX0_sizeAt 21 = .ok (.ifCond .lt 18, 3) := by decide +kernel
theorem dX0_sizeAt_24 : decode cX0_sizeAt 24 = .ok (.lload_n 2, 1) := by decide +kernel
theorem dX0_sizeAt_25 : decode cX0_sizeAt 25 = .ok (.ldc2_w 21, 3) := by decide +kernel
theorem dX0_sizeAt_28 : decode cX0_sizeAt 28 = .ok (.iload_n 1, 1) := by decide +kernel
theorem dX0_sizeAt_29 : decode cX0_sizeAt 29 = .ok (.i2l, 1) := by decide +kernel
theorem dX0_sizeAt_30 : decode cX0_sizeAt 30 = .ok (.lsub, 1) := by decide +kernel
theorem dX0_sizeAt_31 : decode cX0_sizeAt 31 = .ok (.lcmp, 1) := by decide +kernel
theorem dX0_sizeAt_32 : decode cX0_sizeAt 32 = .ok (.ifCond .gt 7, 3) := by decide +kernel
theorem dX0_sizeAt_35 : decode cX0_sizeAt 35 = .ok (.iconst 1, 1) := by decide +kernel
theorem dX0_sizeAt_36 : decode cX0_sizeAt 36 = .ok (.goto 4, 3) := by decide +kernel
theorem dX0_sizeAt_39 : decode cX0_sizeAt 39 = .ok (.iconst 0, 1) := by decide +kernel
theorem dX0_sizeAt_40 : decode cX0_sizeAt 40 = .ok (.istore 4, 2) := by decide +kernel
theorem dX0_sizeAt_42 : decode cX0_sizeAt 42 = .ok (.iload 4, 2) := by decide +kernel
theorem dX0_sizeAt_44 : decode cX0_sizeAt 44 = .ok (.ifCond .eq 8, 3) := by decide +kernel
theorem dX0_sizeAt_47 : decode cX0_sizeAt 47 = .ok (.lload_n 2, 1) := by decide +kernel
theorem dX0_sizeAt_48 : decode cX0_sizeAt 48 = .ok (.l2i, 1) := by decide +kernel
theorem dX0_sizeAt_49 : decode cX0_sizeAt 49 = .ok (.goto 4, 3) := by decide +kernel
theorem dX0_sizeAt_52 : decode cX0_sizeAt 52 = .ok (.iconst 0, 1) := by decide +kernel
theorem dX0_sizeAt_53 : decode cX0_sizeAt 53 = .ok (.ireturn, 1) := by decide +kernel
theorem dX0_isUsed_0 : decode cX0_isUsed 0 = .ok (.aload_n 0, 1) := by decide +kernel
theorem dX0_isUsed_1 : decode cX0_isUsed 1 = .ok (.getfield 9, 3) := by decide +kernel
theorem dX0_isUsed_4 : decode cX0_isUsed 4 = .ok (.iload_n 1, 1) := by decide +kernel
theorem dX0_isUsed_5 : decode cX0_isUsed 5 = .ok (.invokevirtual 15, 3) := by decide +kernel
theorem dX0_isUsed_8 : decode cX0_isUsed 8 = .ok (.lconst 1, 1) := by decide +kernel
theorem dX0_isUsed_9 : decode cX0_isUsed 9 = .ok (.land, 1) := by decide +kernel
theorem dX0_isUsed_10 : decode cX0_isUsed 10 = .ok (.lconst 1, 1) := by decide +kernel
theorem dX0_isUsed_11 : decode cX0_isUsed 11 = .ok (.lcmp, 1) := by decide +kernel
theorem dX0_isUsed_12 : decode cX0_isUsed 12 = .ok (.ifCond .ne 7, 3) := by decide +kernel
theorem dX0_isUsed_15 : decode cX0_isUsed 15 = .ok (.iconst 1, 1) := by decide +kernel
theorem dX0_isUsed_16 : decode cX0_isUsed 16 = .ok (.goto 4, 3) := by decide +kernel
theorem dX0_isUsed_19 : decode cX0_isUsed 19 = .ok (.iconst 0, 1) := by decide +kernel
theorem dX0_isUsed_20 : decode cX0_isUsed 20 = .ok (.ireturn, 1) := by decide +kernel
theorem dX0_isUsedAddress_0 : decode cX0_isUsedAddress 0 = .ok (.sipush 176, 3) := by decide +kernel
theorem dX0_isUsedAddress_3 : decode cX0_isUsedAddress 3 = .ok (.istore_n 2, 1) := by decide +kernel
theorem dX0_isUsedAddress_4 : decode cX0_isUsedAddress 4 = .ok (.iload_n 2, 1) := by decide +kernel
theorem dX0_isUsedAddress_5 : decode cX0_isUsedAddress 5 = .ok (.sipush 1024, 3) := by decide +kernel
theorem dX0_isUsedAddress_8 : decode cX0_isUsedAddress 8 = .ok (.if_icmp .ge 34, 3) := by decide +kernel
theorem dX0_isUsedAddress_11 : decode cX0_isUsedAddress 11 = .ok (.iload_n 2, 1) := by decide +kernel
theorem dX0_isUsedAddress_12 : decode cX0_isUsedAddress 12 = .ok (.iload_n 1, 1) := by decide +kernel
theorem dX0_isUsedAddress_13 : decode cX0_isUsedAddress 13 = .ok (.if_icmp .ge 29, 3) := by decide +kernel
theorem dX0_isUsedAddress_16 : decode cX0_isUsedAddress 16 = .ok (.iload_n 2, 1) := by decide +kernel
theorem dX0_isUsedAddress_17 : decode cX0_isUsedAddress 17 = .ok (.iconst 1, 1) := by decide +kernel
theorem dX0_isUsedAddress_18 : decode cX0_isUsedAddress 18 = .ok (.iadd, 1) := by decide +kernel
theorem dX0_isUsedAddress_19 : decode cX0_isUsedAddress 19 = .ok (.iload_n 1, 1) := by decide +kernel
theorem dX0_isUsedAddress_20 : decode cX0_isUsedAddress 20 = .ok (.if_icmp .ne 9, 3) := by decide +kernel
theorem dX0_isUsedAddress_23 : decode cX0_isUsedAddress 23 = .ok (.aload_n 0, 1) := by decide +kernel
theorem dX0_isUsedAddress_24 : decode cX0_isUsedAddress 24 = .ok (.iload_n 2, 1) := by decide +kernel
theorem dX0_isUsedAddress_25 : decode cX0_isUsedAddress 25 = .ok (.invokevirtual 23, 3) := by decide +kernel
theorem dX0_isUsedAddress_28 : decode cX0_isUsedAddress 28 = .ok (.ireturn, 1) := by decide +kernel
theorem dX0_isUsedAddress_29 : decode cX0_isUsedAddress 29 = .ok (.iload_n 2, 1) := by decide +kernel
theorem dX0_isUsedAddress_30 : decode cX0_isUsedAddress 30 = .ok (.iconst 1, 1) := by decide +kernel
theorem dX0_isUsedAddress_31 : decode cX0_isUsedAddress 31 = .ok (.aload_n 0, 1) := by decide +kernel
theorem dX0_isUsedAddress_32 : decode cX0_isUsedAddress 32 = .ok (.iload_n 2, 1) := by decide +kernel
theorem dX0_isUsedAddress_33 : decode cX0_isUsedAddress 33 = .ok (.invokevirtual 27, 3) := by decide +kernel
theorem dX0_isUsedAddress_36 : decode cX0_isUsedAddress 36 = .ok (.iadd, 1) := by decide +kernel
theorem dX0_isUsedAddress_37 : decode cX0_isUsedAddress 37 = .ok (.iadd, 1) := by decide +kernel
theorem dX0_isUsedAddress_38 : decode cX0_isUsedAddress 38 = .ok (.istore_n 2, 1) := by decide +kernel
theorem dX0_isUsedAddress_39 : decode cX0_isUsedAddress 39 = .ok (.goto (-35), 3) := by decide +kernel
theorem dX0_isUsedAddress_42 : decode cX0_isUsedAddress 42 = .ok (.iconst 0, 1) := by decide +kernel
theorem dX0_isUsedAddress_43 : decode cX0_isUsedAddress 43 = .ok (.ireturn, 1) := by decide +kernel
theorem dX0_headOf_0 : decode cX0_headOf 0 = .ok (.iconst 0, 1) := by decide +kernel
theorem dX0_headOf_1 : decode cX0_headOf 1 = .ok (.istore_n 2, 1) := by decide +kernel
theorem dX0_headOf_2 : decode cX0_headOf 2 = .ok (.sipush 176, 3) := by decide +kernel
theorem dX0_headOf_5 : decode cX0_headOf 5 = .ok (.istore_n 3, 1) := by decide +kernel
theorem dX0_headOf_6 : decode cX0_headOf 6 = .ok (.iload_n 3, 1) := by decide +kernel
theorem dX0_headOf_7 : decode cX0_headOf 7 = .ok (.sipush 1024, 3) := by decide +kernel
theorem dX0_headOf_10 : decode cX0_headOf 10 = .ok (.if_icmp .ge 26, 3) := by decide +kernel
theorem dX0_headOf_13 : decode cX0_headOf 13 = .ok (.iload_n 2, 1) := by decide +kernel
theorem dX0_headOf_14 : decode cX0_headOf 14 = .ok (.iload_n 1, 1) := by decide +kernel
theorem dX0_headOf_15 : decode cX0_headOf 15 = .ok (.if_icmp .ne 5, 3) := by decide +kernel
theorem dX0_headOf_18 : decode cX0_headOf 18 = .ok (.iload_n 3, 1) := by decide +kernel
theorem dX0_headOf_19 : decode cX0_headOf 19 = .ok (.ireturn, 1) := by decide +kernel
theorem dX0_headOf_20 : decode cX0_headOf 20 = .ok (.iinc 2 1, 3) := by decide +kernel
theorem dX0_headOf_23 : decode cX0_headOf 23 = .ok (.iload_n 3, 1) := by decide +kernel
theorem dX0_headOf_24 : decode cX0_headOf 24 = .ok (.iconst 1, 1) := by decide +kernel
theorem dX0_headOf_25 : decode cX0_headOf 25 = .ok (.aload_n 0, 1) := by decide +kernel
theorem dX0_headOf_26 : decode cX0_headOf 26 = .ok (.iload_n 3, 1) := by decide +kernel
theorem dX0_headOf_27 : decode cX0_headOf 27 = .ok (.invokevirtual 27, 3) := by decide +kernel
theorem dX0_headOf_30 : decode cX0_headOf 30 = .ok (.iadd, 1) := by decide +kernel
theorem dX0_headOf_31 : decode cX0_headOf 31 = .ok (.iadd, 1) := by decide +kernel
theorem dX0_headOf_32 : decode cX0_headOf 32 = .ok (.istore_n 3, 1) := by decide +kernel
theorem dX0_headOf_33 : decode cX0_headOf 33 = .ok (.goto (-27), 3) := by decide +kernel
theorem dX0_headOf_36 : decode cX0_headOf 36 = .ok (.iconst (-1), 1) := by decide +kernel
theorem dX0_headOf_37 : decode cX0_headOf 37 = .ok (.ireturn, 1) := by decide +kernel
theorem dX0_howMany_0 : decode cX0_howMany 0 = .ok (.iconst 0, 1) := by decide +kernel
theorem dX0_howMany_1 : decode cX0_howMany 1 = .ok (.istore_n 1, 1) := by decide +kernel
theorem dX0_howMany_2 : decode cX0_howMany 2 = .ok (.sipush 176, 3) := by decide +kernel
theorem dX0_howMany_5 : decode cX0_howMany 5 = .ok (.istore_n 2, 1) := by decide +kernel
theorem dX0_howMany_6 : decode cX0_howMany 6 = .ok (.iload_n 2, 1) := by decide +kernel
theorem dX0_howMany_7 : decode cX0_howMany 7 = .ok (.sipush 1024, 3) := by decide +kernel
theorem dX0_howMany_10 : decode cX0_howMany 10 = .ok (.if_icmp .ge 19, 3) := by decide +kernel
theorem dX0_howMany_13 : decode cX0_howMany 13 = .ok (.iinc 1 1, 3) := by decide +kernel
theorem dX0_howMany_16 : decode cX0_howMany 16 = .ok (.iload_n 2, 1) := by decide +kernel
theorem dX0_howMany_17 : decode cX0_howMany 17 = .ok (.iconst 1, 1) := by decide +kernel
theorem dX0_howMany_18 : decode cX0_howMany 18 = .ok (.aload_n 0, 1) := by decide +kernel
theorem dX0_howMany_19 : decode cX0_howMany 19 = .ok (.iload_n 2, 1) := by decide +kernel
theorem dX0_howMany_20 : decode cX0_howMany 20 = .ok (.invokevirtual 27, 3) := by decide +kernel
theorem dX0_howMany_23 : decode cX0_howMany 23 = .ok (.iadd, 1) := by decide +kernel
theorem dX0_howMany_24 : decode cX0_howMany 24 = .ok (.iadd, 1) := by decide +kernel
theorem dX0_howMany_25 : decode cX0_howMany 25 = .ok (.istore_n 2, 1) := by decide +kernel
theorem dX0_howMany_26 : decode cX0_howMany 26 = .ok (.goto (-20), 3) := by decide +kernel
theorem dX0_howMany_29 : decode cX0_howMany 29 = .ok (.iload_n 1, 1) := by decide +kernel
theorem dX0_howMany_30 : decode cX0_howMany 30 = .ok (.ireturn, 1) := by decide +kernel
theorem dX0_freeWords_0 : decode cX0_freeWords 0 = .ok (.iconst 0, 1) := by decide +kernel
theorem dX0_freeWords_1 : decode cX0_freeWords 1 = .ok (.istore_n 1, 1) := by decide +kernel
theorem dX0_freeWords_2 : decode cX0_freeWords 2 = .ok (.sipush 176, 3) := by decide +kernel
theorem dX0_freeWords_5 : decode cX0_freeWords 5 = .ok (.istore_n 2, 1) := by decide +kernel
theorem dX0_freeWords_6 : decode cX0_freeWords 6 = .ok (.iload_n 2, 1) := by decide +kernel
theorem dX0_freeWords_7 : decode cX0_freeWords 7 = .ok (.sipush 1024, 3) := by decide +kernel
theorem dX0_freeWords_10 : decode cX0_freeWords 10 = .ok (.if_icmp .ge 24, 3) := by decide +kernel
theorem dX0_freeWords_13 : decode cX0_freeWords 13 = .ok (.iload_n 1, 1) := by decide +kernel
theorem dX0_freeWords_14 : decode cX0_freeWords 14 = .ok (.aload_n 0, 1) := by decide +kernel
theorem dX0_freeWords_15 : decode cX0_freeWords 15 = .ok (.iload_n 2, 1) := by decide +kernel
theorem dX0_freeWords_16 : decode cX0_freeWords 16 = .ok (.invokevirtual 31, 3) := by decide +kernel
theorem dX0_freeWords_19 : decode cX0_freeWords 19 = .ok (.iadd, 1) := by decide +kernel
theorem dX0_freeWords_20 : decode cX0_freeWords 20 = .ok (.istore_n 1, 1) := by decide +kernel
theorem dX0_freeWords_21 : decode cX0_freeWords 21 = .ok (.iload_n 2, 1) := by decide +kernel
theorem dX0_freeWords_22 : decode cX0_freeWords 22 = .ok (.iconst 1, 1) := by decide +kernel
theorem dX0_freeWords_23 : decode cX0_freeWords 23 = .ok (.aload_n 0, 1) := by decide +kernel
theorem dX0_freeWords_24 : decode cX0_freeWords 24 = .ok (.iload_n 2, 1) := by decide +kernel
theorem dX0_freeWords_25 : decode cX0_freeWords 25 = .ok (.invokevirtual 27, 3) := by decide +kernel
theorem dX0_freeWords_28 : decode cX0_freeWords 28 = .ok (.iadd, 1) := by decide +kernel
theorem dX0_freeWords_29 : decode cX0_freeWords 29 = .ok (.iadd, 1) := by decide +kernel
theorem dX0_freeWords_30 : decode cX0_freeWords 30 = .ok (.istore_n 2, 1) := by decide +kernel
theorem dX0_freeWords_31 : decode cX0_freeWords 31 = .ok (.goto (-25), 3) := by decide +kernel
theorem dX0_freeWords_34 : decode cX0_freeWords 34 = .ok (.iload_n 1, 1) := by decide +kernel
theorem dX0_freeWords_35 : decode cX0_freeWords 35 = .ok (.ireturn, 1) := by decide +kernel
theorem dX0_greatestFree_0 : decode cX0_greatestFree 0 = .ok (.iconst 0, 1) := by decide +kernel
theorem dX0_greatestFree_1 : decode cX0_greatestFree 1 = .ok (.istore_n 1, 1) := by decide +kernel
theorem dX0_greatestFree_2 : decode cX0_greatestFree 2 = .ok (.sipush 176, 3) := by decide +kernel
theorem dX0_greatestFree_5 : decode cX0_greatestFree 5 = .ok (.istore_n 2, 1) := by decide +kernel
theorem dX0_greatestFree_6 : decode cX0_greatestFree 6 = .ok (.iload_n 2, 1) := by decide +kernel
theorem dX0_greatestFree_7 : decode cX0_greatestFree 7 = .ok (.sipush 1024, 3) := by decide +kernel
theorem dX0_greatestFree_10 : decode cX0_greatestFree 10 = .ok (.if_icmp .ge 26, 3) := by decide +kernel
theorem dX0_greatestFree_13 : decode cX0_greatestFree 13 = .ok (.iload_n 1, 1) := by decide +kernel
theorem dX0_greatestFree_14 : decode cX0_greatestFree 14 = .ok (.aload_n 0, 1) := by decide +kernel
theorem dX0_greatestFree_15 : decode cX0_greatestFree 15 = .ok (.iload_n 2, 1) := by decide +kernel
theorem dX0_greatestFree_16 : decode cX0_greatestFree 16 = .ok (.invokevirtual 31, 3) := by decide +kernel
theorem dX0_greatestFree_19 : decode cX0_greatestFree 19 = .ok (.invokestatic 34, 3) := by decide +kernel
theorem dX0_greatestFree_22 : decode cX0_greatestFree 22 = .ok (.istore_n 1, 1) := by decide +kernel
theorem dX0_greatestFree_23 : decode cX0_greatestFree 23 = .ok (.iload_n 2, 1) := by decide +kernel
theorem dX0_greatestFree_24 : decode cX0_greatestFree 24 = .ok (.iconst 1, 1) := by decide +kernel
theorem dX0_greatestFree_25 : decode cX0_greatestFree 25 = .ok (.aload_n 0, 1) := by decide +kernel
theorem dX0_greatestFree_26 : decode cX0_greatestFree 26 = .ok (.iload_n 2, 1) := by decide +kernel
theorem dX0_greatestFree_27 : decode cX0_greatestFree 27 = .ok (.invokevirtual 27, 3) := by decide +kernel
theorem dX0_greatestFree_30 : decode cX0_greatestFree 30 = .ok (.iadd, 1) := by decide +kernel
theorem dX0_greatestFree_31 : decode cX0_greatestFree 31 = .ok (.iadd, 1) := by decide +kernel
theorem dX0_greatestFree_32 : decode cX0_greatestFree 32 = .ok (.istore_n 2, 1) := by decide +kernel
theorem dX0_greatestFree_33 : decode cX0_greatestFree 33 = .ok (.goto (-27), 3) := by decide +kernel
theorem dX0_greatestFree_36 : decode cX0_greatestFree 36 = .ok (.iload_n 1, 1) := by decide +kernel
theorem dX0_greatestFree_37 : decode cX0_greatestFree 37 = .ok (.ireturn, 1) := by decide +kernel
theorem dX0_takeFirst_0 : decode cX0_takeFirst 0 = .ok (.aload_n 0, 1) := by decide +kernel
theorem dX0_takeFirst_1 : decode cX0_takeFirst 1 = .ok (.iload_n 1, 1) := by decide +kernel
theorem dX0_takeFirst_2 : decode cX0_takeFirst 2 = .ok (.invokevirtual 40, 3) := by decide +kernel
theorem dX0_takeFirst_5 : decode cX0_takeFirst 5 = .ok (.istore_n 2, 1) := by decide +kernel
theorem dX0_takeFirst_6 : decode cX0_takeFirst 6 = .ok (.iload_n 2, 1) := by decide +kernel
theorem dX0_takeFirst_7 : decode cX0_takeFirst 7 = .ok (.iconst (-1), 1) := by decide +kernel
theorem dX0_takeFirst_8 : decode cX0_takeFirst 8 = .ok (.if_icmp .ne 5, 3) := by decide +kernel
theorem dX0_takeFirst_11 : decode cX0_takeFirst 11 = .ok (.iconst (-1), 1) := by decide +kernel
theorem dX0_takeFirst_12 : decode cX0_takeFirst 12 = .ok (.ireturn, 1) := by decide +kernel
theorem dX0_takeFirst_13 : decode cX0_takeFirst 13 = .ok (.aload_n 0, 1) := by decide +kernel
theorem dX0_takeFirst_14 : decode cX0_takeFirst 14 = .ok (.iload_n 2, 1) := by decide +kernel
theorem dX0_takeFirst_15 : decode cX0_takeFirst 15 = .ok (.invokevirtual 27, 3) := by decide +kernel
theorem dX0_takeFirst_18 : decode cX0_takeFirst 18 = .ok (.istore_n 3, 1) := by decide +kernel
theorem dX0_takeFirst_19 : decode cX0_takeFirst 19 = .ok (.iload_n 3, 1) := by decide +kernel
theorem dX0_takeFirst_20 : decode cX0_takeFirst 20 = .ok (.iload_n 1, 1) := by decide +kernel
theorem dX0_takeFirst_21 : decode cX0_takeFirst 21 = .ok (.iconst 2, 1) := by decide +kernel
theorem dX0_takeFirst_22 : decode cX0_takeFirst 22 = .ok (.iadd, 1) := by decide +kernel
theorem dX0_takeFirst_23 : decode cX0_takeFirst 23 = .ok (.if_icmp .lt 13, 3) := by decide +kernel
theorem dX0_takeFirst_26 : decode cX0_takeFirst 26 = .ok (.aload_n 0, 1) := by decide +kernel
theorem dX0_takeFirst_27 : decode cX0_takeFirst 27 = .ok (.iload_n 2, 1) := by decide +kernel
theorem dX0_takeFirst_28 : decode cX0_takeFirst 28 = .ok (.iload_n 1, 1) := by decide +kernel
theorem dX0_takeFirst_29 : decode cX0_takeFirst 29 = .ok (.iload_n 3, 1) := by decide +kernel
theorem dX0_takeFirst_30 : decode cX0_takeFirst 30 = .ok (.invokevirtual 43, 3) := by decide +kernel
theorem dX0_takeFirst_33 : decode cX0_takeFirst 33 = .ok (.goto 19, 3) := by decide +kernel
theorem dX0_takeFirst_36 : decode cX0_takeFirst 36 = .ok (.aload_n 0, 1) := by decide +kernel
theorem dX0_takeFirst_37 : decode cX0_takeFirst 37 = .ok (.getfield 9, 3) := by decide +kernel
theorem dX0_takeFirst_40 : decode cX0_takeFirst 40 = .ok (.iload_n 2, 1) := by decide +kernel
theorem dX0_takeFirst_41 : decode cX0_takeFirst 41 = .ok (.ldc2_w 47, 3) := by decide +kernel
theorem dX0_takeFirst_44 : decode cX0_takeFirst 44 = .ok (.iload_n 3, 1) := by decide +kernel
theorem dX0_takeFirst_45 : decode cX0_takeFirst 45 = .ok (.i2l, 1) := by decide +kernel
theorem dX0_takeFirst_46 : decode cX0_takeFirst 46 = .ok (.lmul, 1) := by decide +kernel
theorem dX0_takeFirst_47 : decode cX0_takeFirst 47 = .ok (.lconst 1, 1) := by decide +kernel
theorem dX0_takeFirst_48 : decode cX0_takeFirst 48 = .ok (.ladd, 1) := by decide +kernel
theorem dX0_takeFirst_49 : decode cX0_takeFirst 49 = .ok (.invokevirtual 49, 3) := by decide +kernel
theorem dX0_takeFirst_52 : decode cX0_takeFirst 52 = .ok (.istore 4, 2) := by decide +kernel
theorem dX0_takeFirst_54 : decode cX0_takeFirst 54 = .ok (.iload 4, 2) := by decide +kernel
theorem dX0_takeFirst_56 : decode cX0_takeFirst 56 = .ok (.ifCond .eq 9, 3) := by decide +kernel
theorem dX0_takeFirst_59 : decode cX0_takeFirst 59 = .ok (.iload_n 2, 1) := by decide +kernel
theorem dX0_takeFirst_60 : decode cX0_takeFirst 60 = .ok (.iconst 1, 1) := by decide +kernel
theorem dX0_takeFirst_61 : decode cX0_takeFirst 61 = .ok (.iadd, 1) := by decide +kernel
theorem dX0_takeFirst_62 : decode cX0_takeFirst 62 = .ok (.goto 4, 3) := by decide +kernel
theorem dX0_takeFirst_65 : decode cX0_takeFirst 65 = .ok (.iconst (-1), 1) := by decide +kernel
theorem dX0_takeFirst_66 : decode cX0_takeFirst 66 = .ok (.ireturn, 1) := by decide +kernel
theorem dX0_giveBack_0 : decode cX0_giveBack 0 = .ok (.iload_n 1, 1) := by decide +kernel
theorem dX0_giveBack_1 : decode cX0_giveBack 1 = .ok (.istore_n 2, 1) := by decide +kernel
theorem dX0_giveBack_2 : decode cX0_giveBack 2 = .ok (.aload_n 0, 1) := by decide +kernel
theorem dX0_giveBack_3 : decode cX0_giveBack 3 = .ok (.iload_n 1, 1) := by decide +kernel
theorem dX0_giveBack_4 : decode cX0_giveBack 4 = .ok (.invokevirtual 27, 3) := by decide +kernel
theorem dX0_giveBack_7 : decode cX0_giveBack 7 = .ok (.istore_n 3, 1) := by decide +kernel
theorem dX0_giveBack_8 : decode cX0_giveBack 8 = .ok (.iload_n 1, 1) := by decide +kernel
theorem dX0_giveBack_9 : decode cX0_giveBack 9 = .ok (.iconst 1, 1) := by decide +kernel
theorem dX0_giveBack_10 : decode cX0_giveBack 10 = .ok (.iadd, 1) := by decide +kernel
theorem dX0_giveBack_11 : decode cX0_giveBack 11 = .ok (.iload_n 3, 1) := by decide +kernel
theorem dX0_giveBack_12 : decode cX0_giveBack 12 = .ok (.iadd, 1) := by decide +kernel
theorem dX0_giveBack_13 : decode cX0_giveBack 13 = .ok (.istore 4, 2) := by decide +kernel
theorem dX0_giveBack_15 : decode cX0_giveBack 15 = .ok (.aload_n 0, 1) := by decide +kernel
theorem dX0_giveBack_16 : decode cX0_giveBack 16 = .ok (.iload 4, 2) := by decide +kernel
theorem dX0_giveBack_18 : decode cX0_giveBack 18 = .ok (.invokevirtual 31, 3) := by decide +kernel
theorem dX0_giveBack_21 : decode cX0_giveBack 21 = .ok (.ifCond .le 14, 3) := by decide +kernel
theorem dX0_giveBack_24 : decode cX0_giveBack 24 = .ok (.iload_n 3, 1) := by decide +kernel
theorem dX0_giveBack_25 : decode cX0_giveBack 25 = .ok (.iconst 1, 1) := by decide +kernel
theorem dX0_giveBack_26 : decode cX0_giveBack 26 = .ok (.aload_n 0, 1) := by decide +kernel
theorem dX0_giveBack_27 : decode cX0_giveBack 27 = .ok (.iload 4, 2) := by decide +kernel
theorem dX0_giveBack_29 : decode cX0_giveBack 29 = .ok (.invokevirtual 31, 3) := by decide +kernel
theorem dX0_giveBack_32 : decode cX0_giveBack 32 = .ok (.iadd, 1) := by decide +kernel
theorem dX0_giveBack_33 : decode cX0_giveBack 33 = .ok (.iadd, 1) := by decide +kernel
theorem dX0_giveBack_34 : decode cX0_giveBack 34 = .ok (.istore_n 3, 1) := by decide +kernel
theorem dX0_giveBack_35 : decode cX0_giveBack 35 = .ok (.aload_n 0, 1) := by decide +kernel
theorem dX0_giveBack_36 : decode cX0_giveBack 36 = .ok (.iload_n 1, 1) := by decide +kernel
theorem dX0_giveBack_37 : decode cX0_giveBack 37 = .ok (.invokevirtual 53, 3) := by decide +kernel
theorem dX0_giveBack_40 : decode cX0_giveBack 40 = .ok (.istore 5, 2) := by decide +kernel
theorem dX0_giveBack_42 : decode cX0_giveBack 42 = .ok (.aload_n 0, 1) := by decide +kernel
theorem dX0_giveBack_43 : decode cX0_giveBack 43 = .ok (.iload 5, 2) := by decide +kernel
theorem dX0_giveBack_45 : decode cX0_giveBack 45 = .ok (.invokevirtual 31, 3) := by decide +kernel
theorem dX0_giveBack_48 : decode cX0_giveBack 48 = .ok (.ifCond .le 17, 3) := by decide +kernel
theorem dX0_giveBack_51 : decode cX0_giveBack 51 = .ok (.iload 5, 2) := by decide +kernel
theorem dX0_giveBack_53 : decode cX0_giveBack 53 = .ok (.istore_n 2, 1) := by decide +kernel
theorem dX0_giveBack_54 : decode cX0_giveBack 54 = .ok (.iload_n 3, 1) := by decide +kernel
theorem dX0_giveBack_55 : decode cX0_giveBack 55 = .ok (.iconst 1, 1) := by decide +kernel
theorem dX0_giveBack_56 : decode cX0_giveBack 56 = .ok (.aload_n 0, 1) := by decide +kernel
theorem dX0_giveBack_57 : decode cX0_giveBack 57 = .ok (.iload 5, 2) := by decide +kernel
theorem dX0_giveBack_59 : decode cX0_giveBack 59 = .ok (.invokevirtual 31, 3) := by decide +kernel
theorem dX0_giveBack_62 : decode cX0_giveBack 62 = .ok (.iadd, 1) := by decide +kernel
theorem dX0_giveBack_63 : decode cX0_giveBack 63 = .ok (.iadd, 1) := by decide +kernel
theorem dX0_giveBack_64 : decode cX0_giveBack 64 = .ok (.istore_n 3, 1) := by decide +kernel
theorem dX0_giveBack_65 : decode cX0_giveBack 65 = .ok (.aload_n 0, 1) := by decide +kernel
theorem dX0_giveBack_66 : decode cX0_giveBack 66 = .ok (.getfield 9, 3) := by decide +kernel
theorem dX0_giveBack_69 : decode cX0_giveBack 69 = .ok (.iload_n 2, 1) := by decide +kernel
theorem dX0_giveBack_70 : decode cX0_giveBack 70 = .ok (.ldc2_w 47, 3) := by decide +kernel
theorem dX0_giveBack_73 : decode cX0_giveBack 73 = .ok (.iload_n 3, 1) := by decide +kernel
theorem dX0_giveBack_74 : decode cX0_giveBack 74 = .ok (.i2l, 1) := by decide +kernel
theorem dX0_giveBack_75 : decode cX0_giveBack 75 = .ok (.lmul, 1) := by decide +kernel
theorem dX0_giveBack_76 : decode cX0_giveBack 76 = .ok (.invokevirtual 49, 3) := by decide +kernel
theorem dX0_giveBack_79 : decode cX0_giveBack 79 = .ok (.ifCond .eq 7, 3) := by decide +kernel
theorem dX0_giveBack_82 : decode cX0_giveBack 82 = .ok (.iload_n 3, 1) := by decide +kernel
theorem dX0_giveBack_83 : decode cX0_giveBack 83 = .ok (.goto 4, 3) := by decide +kernel
theorem dX0_giveBack_86 : decode cX0_giveBack 86 = .ok (.iconst (-1), 1) := by decide +kernel
theorem dX0_giveBack_87 : decode cX0_giveBack 87 = .ok (.ireturn, 1) := by decide +kernel
theorem dX0_split_0 : decode cX0_split 0 = .ok (.iload_n 1, 1) := by decide +kernel
theorem dX0_split_1 : decode cX0_split 1 = .ok (.iconst 1, 1) := by decide +kernel
theorem dX0_split_2 : decode cX0_split 2 = .ok (.iadd, 1) := by decide +kernel
theorem dX0_split_3 : decode cX0_split 3 = .ok (.iload_n 2, 1) := by decide +kernel
theorem dX0_split_4 : decode cX0_split 4 = .ok (.iadd, 1) := by decide +kernel
theorem dX0_split_5 : decode cX0_split 5 = .ok (.istore 4, 2) := by decide +kernel
theorem dX0_split_7 : decode cX0_split 7 = .ok (.ldc2_w 47, 3) := by decide +kernel
theorem dX0_split_10 : decode cX0_split 10 = .ok (.iload_n 3, 1) := by decide +kernel
theorem dX0_split_11 : decode cX0_split 11 = .ok (.iload_n 2, 1) := by decide +kernel
theorem dX0_split_12 : decode cX0_split 12 = .ok (.isub, 1) := by decide +kernel
theorem dX0_split_13 : decode cX0_split 13 = .ok (.iconst 1, 1) := by decide +kernel
theorem dX0_split_14 : decode cX0_split 14 = .ok (.isub, 1) := by decide +kernel
theorem dX0_split_15 : decode cX0_split 15 = .ok (.i2l, 1) := by decide +kernel
theorem dX0_split_16 : decode cX0_split 16 = .ok (.lmul, 1) := by decide +kernel
theorem dX0_split_17 : decode cX0_split 17 = .ok (.lstore 5, 2) := by decide +kernel
theorem dX0_split_19 : decode cX0_split 19 = .ok (.ldc2_w 47, 3) := by decide +kernel
theorem dX0_split_22 : decode cX0_split 22 = .ok (.iload_n 2, 1) := by decide +kernel
theorem dX0_split_23 : decode cX0_split 23 = .ok (.i2l, 1) := by decide +kernel
theorem dX0_split_24 : decode cX0_split 24 = .ok (.lmul, 1) := by decide +kernel
theorem dX0_split_25 : decode cX0_split 25 = .ok (.lconst 1, 1) := by decide +kernel
theorem dX0_split_26 : decode cX0_split 26 = .ok (.ladd, 1) := by decide +kernel
theorem dX0_split_27 : decode cX0_split 27 = .ok (.lstore 7, 2) := by decide +kernel
theorem dX0_split_29 : decode cX0_split 29 = .ok (.aload_n 0, 1) := by decide +kernel
theorem dX0_split_30 : decode cX0_split 30 = .ok (.getfield 9, 3) := by decide +kernel
theorem dX0_split_33 : decode cX0_split 33 = .ok (.aload_n 0, 1) := by decide +kernel
theorem dX0_split_34 : decode cX0_split 34 = .ok (.getfield 9, 3) := by decide +kernel
theorem dX0_split_37 : decode cX0_split 37 = .ok (.iload 4, 2) := by decide +kernel
theorem dX0_split_39 : decode cX0_split 39 = .ok (.lload 5, 2) := by decide +kernel
theorem dX0_split_41 : decode cX0_split 41 = .ok (.invokevirtual 56, 3) := by decide +kernel
theorem dX0_split_44 : decode cX0_split 44 = .ok (.aload_n 0, 1) := by decide +kernel
theorem dX0_split_45 : decode cX0_split 45 = .ok (.getfield 9, 3) := by decide +kernel
theorem dX0_split_48 : decode cX0_split 48 = .ok (.iload_n 1, 1) := by decide +kernel
theorem dX0_split_49 : decode cX0_split 49 = .ok (.lload 7, 2) := by decide +kernel
theorem dX0_split_51 : decode cX0_split 51 = .ok (.invokevirtual 56, 3) := by decide +kernel
theorem dX0_split_54 : decode cX0_split 54 = .ok (.iadd, 1) := by decide +kernel
theorem dX0_split_55 : decode cX0_split 55 = .ok (.invokevirtual 60, 3) := by decide +kernel
theorem dX0_split_58 : decode cX0_split 58 = .ok (.ifCond .ne 5, 3) := by decide +kernel
theorem dX0_split_61 : decode cX0_split 61 = .ok (.iconst 0, 1) := by decide +kernel
theorem dX0_split_62 : decode cX0_split 62 = .ok (.ireturn, 1) := by decide +kernel
theorem dX0_split_63 : decode cX0_split 63 = .ok (.aload_n 0, 1) := by decide +kernel
theorem dX0_split_64 : decode cX0_split 64 = .ok (.getfield 9, 3) := by decide +kernel
theorem dX0_split_67 : decode cX0_split 67 = .ok (.iload 4, 2) := by decide +kernel
theorem dX0_split_69 : decode cX0_split 69 = .ok (.lload 5, 2) := by decide +kernel
theorem dX0_split_71 : decode cX0_split 71 = .ok (.invokevirtual 49, 3) := by decide +kernel
theorem dX0_split_74 : decode cX0_split 74 = .ok (.ifCond .eq 20, 3) := by decide +kernel
theorem dX0_split_77 : decode cX0_split 77 = .ok (.aload_n 0, 1) := by decide +kernel
theorem dX0_split_78 : decode cX0_split 78 = .ok (.getfield 9, 3) := by decide +kernel
theorem dX0_split_81 : decode cX0_split 81 = .ok (.iload_n 1, 1) := by decide +kernel
theorem dX0_split_82 : decode cX0_split 82 = .ok (.lload 7, 2) := by decide +kernel
theorem dX0_split_84 : decode cX0_split 84 = .ok (.invokevirtual 49, 3) := by decide +kernel
theorem dX0_split_87 : decode cX0_split 87 = .ok (.ifCond .eq 7, 3) := by decide +kernel
theorem dX0_split_90 : decode cX0_split 90 = .ok (.iconst 1, 1) := by decide +kernel
theorem dX0_split_91 : decode cX0_split 91 = .ok (.goto 4, 3) := by decide +kernel
theorem dX0_split_94 : decode cX0_split 94 = .ok (.iconst 0, 1) := by decide +kernel
theorem dX0_split_95 : decode cX0_split 95 = .ok (.ireturn, 1) := by decide +kernel
theorem dX0_firstFree_0 : decode cX0_firstFree 0 = .ok (.sipush 176, 3) := by decide +kernel
theorem dX0_firstFree_3 : decode cX0_firstFree 3 = .ok (.istore_n 2, 1) := by decide +kernel
theorem dX0_firstFree_4 : decode cX0_firstFree 4 = .ok (.iload_n 2, 1) := by decide +kernel
theorem dX0_firstFree_5 : decode cX0_firstFree 5 = .ok (.sipush 1024, 3) := by decide +kernel
theorem dX0_firstFree_8 : decode cX0_firstFree 8 = .ok (.if_icmp .ge 27, 3) := by decide +kernel
theorem dX0_firstFree_11 : decode cX0_firstFree 11 = .ok (.aload_n 0, 1) := by decide +kernel
theorem dX0_firstFree_12 : decode cX0_firstFree 12 = .ok (.iload_n 2, 1) := by decide +kernel
theorem dX0_firstFree_13 : decode cX0_firstFree 13 = .ok (.invokevirtual 31, 3) := by decide +kernel
theorem dX0_firstFree_16 : decode cX0_firstFree 16 = .ok (.iload_n 1, 1) := by decide +kernel
theorem dX0_firstFree_17 : decode cX0_firstFree 17 = .ok (.if_icmp .lt 5, 3) := by decide +kernel
theorem dX0_firstFree_20 : decode cX0_firstFree 20 = .ok (.iload_n 2, 1) := by decide +kernel
theorem dX0_firstFree_21 : decode cX0_firstFree 21 = .ok (.ireturn, 1) := by decide +kernel
theorem dX0_firstFree_22 : decode cX0_firstFree 22 = .ok (.iload_n 2, 1) := by decide +kernel
theorem dX0_firstFree_23 : decode cX0_firstFree 23 = .ok (.iconst 1, 1) := by decide +kernel
theorem dX0_firstFree_24 : decode cX0_firstFree 24 = .ok (.aload_n 0, 1) := by decide +kernel
theorem dX0_firstFree_25 : decode cX0_firstFree 25 = .ok (.iload_n 2, 1) := by decide +kernel
theorem dX0_firstFree_26 : decode cX0_firstFree 26 = .ok (.invokevirtual 27, 3) := by decide +kernel
theorem dX0_firstFree_29 : decode cX0_firstFree 29 = .ok (.iadd, 1) := by decide +kernel
theorem dX0_firstFree_30 : decode cX0_firstFree 30 = .ok (.iadd, 1) := by decide +kernel
theorem dX0_firstFree_31 : decode cX0_firstFree 31 = .ok (.istore_n 2, 1) := by decide +kernel
theorem dX0_firstFree_32 : decode cX0_firstFree 32 = .ok (.goto (-28), 3) := by decide +kernel
theorem dX0_firstFree_35 : decode cX0_firstFree 35 = .ok (.iconst (-1), 1) := by decide +kernel
theorem dX0_firstFree_36 : decode cX0_firstFree 36 = .ok (.ireturn, 1) := by decide +kernel
theorem dX0_headBefore_0 : decode cX0_headBefore 0 = .ok (.iconst (-1), 1) := by decide +kernel
theorem dX0_headBefore_1 : decode cX0_headBefore 1 = .ok (.istore_n 2, 1) := by decide +kernel
theorem dX0_headBefore_2 : decode cX0_headBefore 2 = .ok (.sipush 176, 3) := by decide +kernel
theorem dX0_headBefore_5 : decode cX0_headBefore 5 = .ok (.istore_n 3, 1) := by decide +kernel
theorem dX0_headBefore_6 : decode cX0_headBefore 6 = .ok (.iload_n 3, 1) := by decide +kernel
theorem dX0_headBefore_7 : decode cX0_headBefore 7 = .ok (.iload_n 1, 1) := by decide +kernel
theorem dX0_headBefore_8 : decode cX0_headBefore 8 = .ok (.if_icmp .ge 18, 3) := by decide +kernel
theorem dX0_headBefore_11 : decode cX0_headBefore 11 = .ok (.iload_n 3, 1) := by decide +kernel
theorem dX0_headBefore_12 : decode cX0_headBefore 12 = .ok (.istore_n 2, 1) := by decide +kernel
theorem dX0_headBefore_13 : decode cX0_headBefore 13 = .ok (.iload_n 3, 1) := by decide +kernel
theorem dX0_headBefore_14 : decode cX0_headBefore 14 = .ok (.iconst 1, 1) := by decide +kernel
theorem dX0_headBefore_15 : decode cX0_headBefore 15 = .ok (.aload_n 0, 1) := by decide +kernel
theorem dX0_headBefore_16 : decode cX0_headBefore 16 = .ok (.iload_n 3, 1) := by decide +kernel
theorem dX0_headBefore_17 : decode cX0_headBefore 17 = .ok (.invokevirtual 27, 3) := by decide +kernel
theorem dX0_headBefore_20 : decode cX0_headBefore 20 = .ok (.iadd, 1) := by decide +kernel
theorem dX0_headBefore_21 : decode cX0_headBefore 21 = .ok (.iadd, 1) := by decide +kernel
theorem dX0_headBefore_22 : decode cX0_headBefore 22 = .ok (.istore_n 3, 1) := by decide +kernel
theorem dX0_headBefore_23 : decode cX0_headBefore 23 = .ok (.goto (-17), 3) := by decide +kernel
theorem dX0_headBefore_26 : decode cX0_headBefore 26 = .ok (.iload_n 2, 1) := by decide +kernel
theorem dX0_headBefore_27 : decode cX0_headBefore 27 = .ok (.ireturn, 1) := by decide +kernel
theorem dX0_freeAt_0 : decode cX0_freeAt 0 = .ok (.aload_n 0, 1) := by decide +kernel
theorem dX0_freeAt_1 : decode cX0_freeAt 1 = .ok (.iload_n 1, 1) := by decide +kernel
theorem dX0_freeAt_2 : decode cX0_freeAt 2 = .ok (.invokevirtual 23, 3) := by decide +kernel
theorem dX0_freeAt_5 : decode cX0_freeAt 5 = .ok (.ifCond .eq 7, 3) := by decide +kernel
theorem dX0_freeAt_8 : decode cX0_freeAt 8 = .ok (.iconst 0, 1) := by decide +kernel
theorem dX0_freeAt_9 : decode cX0_freeAt 9 = .ok (.goto 8, 3) := by decide +kernel
theorem dX0_freeAt_12 : decode cX0_freeAt 12 = .ok (.aload_n 0, 1) := by decide +kernel
theorem dX0_freeAt_13 : decode cX0_freeAt 13 = .ok (.iload_n 1, 1) := by decide +kernel
theorem dX0_freeAt_14 : decode cX0_freeAt 14 = .ok (.invokevirtual 27, 3) := by decide +kernel
theorem dX0_freeAt_17 : decode cX0_freeAt 17 = .ok (.ireturn, 1) := by decide +kernel
