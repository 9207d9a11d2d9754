theorem dX0_init_0 : decode cX0_init 0 = .ok (.aload_n 0, 1) := by decide +kernel
theorem dX0_init_1 : decode cX0_init 1 = .ok (.invokespecial 3, 3) := by decide +kernel
theorem dX0_init_4 : decode cX0_init 4 = .ok (.aload_n 0, 1) := by decide +kernel
theorem dX0_init_5 : decode cX0_init 5 = .ok (.ldc 9, 2) := by decide +kernel
theorem dX0_init_7 : decode cX0_init 7 = .ok (.newarray .byte, 2) := by decide +kernel
theorem dX0_init_9 : decode cX0_init 9 = .ok (.putfield 10, 3) := by decide +kernel
theorem dX0_init_12 : decode cX0_init 12 = .ok (.return_, 1) := by decide +kernel
theorem dX0_at_0 : decode cX0_at 0 = .ok (.aload_n 0, 1) := by decide +kernel
theorem dX0_at_1 : decode cX0_at 1 = .ok (.getfield 10, 3) := by decide +kernel
theorem dX0_at_4 : decode cX0_at 4 = .ok (.iload_n 1, 1) := by decide +kernel
theorem dX0_at_5 : decode cX0_at 5 = .ok (.ldc 16, 2) := by decide +kernel
theorem dX0_at_7 : decode cX0_at 7 = .ok (.iand, 1) := by decide +kernel
theorem dX0_at_8 : decode cX0_at 8 = .ok (.baload, 1) := by decide +kernel
theorem dX0_at_9 : decode cX0_at 9 = .ok (.sipush 255, 3) := by decide +kernel
theorem dX0_at_12 : decode cX0_at 12 = .ok (.iand, 1) := by decide +kernel
theorem dX0_at_13 : decode cX0_at 13 = .ok (.ireturn, 1) := by decide +kernel
theorem dX0_store_0 : decode cX0_store 0 = .ok (.aload_n 0, 1) := by decide +kernel
theorem dX0_store_1 : decode cX0_store 1 = .ok (.getfield 10, 3) := by decide +kernel
theorem dX0_store_4 : decode cX0_store 4 = .ok (.iload_n 1, 1) := by decide +kernel
theorem dX0_store_5 : decode cX0_store 5 = .ok (.ldc 16, 2) := by decide +kernel
theorem dX0_store_7 : decode cX0_store 7 = .ok (.iand, 1) := by decide +kernel
theorem dX0_store_8 : decode cX0_store 8 = .ok (.iload_n 2, 1) := by decide +kernel
theorem dX0_store_9 : decode cX0_store 9 = .ok (.i2b, 1) := by decide +kernel
theorem dX0_store_10 : decode cX0_store 10 = .ok (.bastore, 1) := by decide +kernel
theorem dX0_store_11 : decode cX0_store 11 = .ok (.return_, 1) := by decide +kernel
theorem dX0_storeNumber_0 : decode cX0_storeNumber 0 = .ok (.iconst 0, 1) := by decide +kernel
theorem dX0_storeNumber_1 : decode cX0_storeNumber 1 = .ok (.istore_n 3, 1) := by decide +kernel
theorem dX0_storeNumber_2 : decode cX0_storeNumber 2 = .ok (.iload_n 3, 1) := by decide +kernel
theorem dX0_storeNumber_3 : decode cX0_storeNumber 3 = .ok (.iconst 4, 1) := by decide +kernel
theorem dX0_storeNumber_4 : decode cX0_storeNumber 4 = .ok (.if_icmp .ge 25, 3) := by decide +kernel
theorem dX0_storeNumber_7 : decode cX0_storeNumber 7 = .ok (.aload_n 0, 1) := by decide +kernel
theorem dX0_storeNumber_8 : decode cX0_storeNumber 8 = .ok (.iload_n 1, 1) := by decide +kernel
theorem dX0_storeNumber_9 : decode cX0_storeNumber 9 = .ok (.iload_n 3, 1) := by decide +kernel
theorem dX0_storeNumber_10 : decode cX0_storeNumber 10 = .ok (.iadd, 1) := by decide +kernel
theorem dX0_storeNumber_11 : decode cX0_storeNumber 11 = .ok (.iload_n 2, 1) := by decide +kernel
theorem dX0_storeNumber_12 : decode cX0_storeNumber 12 = .ok (.bipush 24, 2) := by decide +kernel
theorem dX0_storeNumber_14 : decode cX0_storeNumber 14 = .ok (.bipush 8, 2) := by decide +kernel
theorem dX0_storeNumber_16 : decode cX0_storeNumber 16 = .ok (.iload_n 3, 1) := by decide +kernel
theorem dX0_storeNumber_17 : decode cX0_storeNumber 17 = .ok (.imul, 1) := by decide +kernel
theorem dX0_storeNumber_18 : decode cX0_storeNumber 18 = .ok (.isub, 1) := by decide +kernel
theorem dX0_storeNumber_19 : decode cX0_storeNumber 19 = .ok (.ishr, 1) := by decide +kernel
theorem dX0_storeNumber_20 : decode cX0_storeNumber 20 = .ok (.invokevirtual 17, 3) := by decide +kernel
theorem dX0_storeNumber_23 : decode cX0_storeNumber 23 = .ok (.iinc 3 1, 3) := by decide +kernel
theorem dX0_storeNumber_26 : decode cX0_storeNumber 26 = .ok (.goto (-24), 3) := by decide +kernel
theorem dX0_storeNumber_29 : decode cX0_storeNumber 29 = .ok (.return_, 1) := by decide +kernel
theorem dX0_write_0 : decode cX0_write 0 = .ok (.iload_n 1, 1) := by decide +kernel
theorem dX0_write_1 : decode cX0_write 1 = .ok (.ldc 16, 2) := by decide +kernel
theorem dX0_write_3 : decode cX0_write 3 = .ok (.iand, 1) := by decide +kernel
theorem dX0_write_4 : decode cX0_write 4 = .ok (.ldc 21, 2) := by decide +kernel
theorem dX0_write_6 : decode cX0_write 6 = .ok (.if_icmp .ne 19, 3) := by decide +kernel
theorem dX0_write_9 : decode cX0_write 9 = .ok (.aload_n 0, 1) := by decide +kernel
theorem dX0_write_10 : decode cX0_write 10 = .ok (.iconst 0, 1) := by decide +kernel
theorem dX0_write_11 : decode cX0_write 11 = .ok (.putfield 22, 3) := by decide +kernel
theorem dX0_write_14 : decode cX0_write 14 = .ok (.aload_n 0, 1) := by decide +kernel
theorem dX0_write_15 : decode cX0_write 15 = .ok (.getfield 10, 3) := by decide +kernel
theorem dX0_write_18 : decode cX0_write 18 = .ok (.ldc 21, 2) := by decide +kernel
theorem dX0_write_20 : decode cX0_write 20 = .ok (.iconst 0, 1) := by decide +kernel
theorem dX0_write_21 : decode cX0_write 21 = .ok (.bastore, 1) := by decide +kernel
theorem dX0_write_22 : decode cX0_write 22 = .ok (.goto 14, 3) := by decide +kernel
theorem dX0_write_25 : decode cX0_write 25 = .ok (.aload_n 0, 1) := by decide +kernel
theorem dX0_write_26 : decode cX0_write 26 = .ok (.getfield 10, 3) := by decide +kernel
theorem dX0_write_29 : decode cX0_write 29 = .ok (.iload_n 1, 1) := by decide +kernel
theorem dX0_write_30 : decode cX0_write 30 = .ok (.ldc 16, 2) := by decide +kernel
theorem dX0_write_32 : decode cX0_write 32 = .ok (.iand, 1) := by decide +kernel
theorem dX0_write_33 : decode cX0_write 33 = .ok (.iload_n 2, 1) := by decide +kernel
theorem dX0_write_34 : decode cX0_write 34 = .ok (.i2b, 1) := by decide +kernel
theorem dX0_write_35 : decode cX0_write 35 = .ok (.bastore, 1) := by decide +kernel
theorem dX0_write_36 : decode cX0_write 36 = .ok (.return_, 1) := by decide +kernel
theorem dX0_pending_0 : decode cX0_pending 0 = .ok (.aload_n 0, 1) := by decide +kernel
theorem dX0_pending_1 : decode cX0_pending 1 = .ok (.ldc 16, 2) := by decide +kernel
theorem dX0_pending_3 : decode cX0_pending 3 = .ok (.invokevirtual 26, 3) := by decide +kernel
theorem dX0_pending_6 : decode cX0_pending 6 = .ok (.aload_n 0, 1) := by decide +kernel
theorem dX0_pending_7 : decode cX0_pending 7 = .ok (.ldc 30, 2) := by decide +kernel
theorem dX0_pending_9 : decode cX0_pending 9 = .ok (.invokevirtual 26, 3) := by decide +kernel
theorem dX0_pending_12 : decode cX0_pending 12 = .ok (.iand, 1) := by decide +kernel
theorem dX0_pending_13 : decode cX0_pending 13 = .ok (.bipush 31, 2) := by decide +kernel
theorem dX0_pending_15 : decode cX0_pending 15 = .ok (.iand, 1) := by decide +kernel
theorem dX0_pending_16 : decode cX0_pending 16 = .ok (.ireturn, 1) := by decide +kernel
theorem dX0_raiseInterrupts_0 : decode cX0_raiseInterrupts 0 = .ok (.aload_n 0, 1) := by decide +kernel
theorem dX0_raiseInterrupts_1 : decode cX0_raiseInterrupts 1 = .ok (.ldc 30, 2) := by decide +kernel
theorem dX0_raiseInterrupts_3 : decode cX0_raiseInterrupts 3 = .ok (.aload_n 0, 1) := by decide +kernel
theorem dX0_raiseInterrupts_4 : decode cX0_raiseInterrupts 4 = .ok (.ldc 30, 2) := by decide +kernel
theorem dX0_raiseInterrupts_6 : decode cX0_raiseInterrupts 6 = .ok (.invokevirtual 26, 3) := by decide +kernel
theorem dX0_raiseInterrupts_9 : decode cX0_raiseInterrupts 9 = .ok (.iload_n 1, 1) := by decide +kernel
theorem dX0_raiseInterrupts_10 : decode cX0_raiseInterrupts 10 = .ok (.ior, 1) := by decide +kernel
theorem dX0_raiseInterrupts_11 : decode cX0_raiseInterrupts 11 = .ok (.invokevirtual 17, 3) := by decide +kernel
theorem dX0_raiseInterrupts_14 : decode cX0_raiseInterrupts 14 = .ok (.return_, 1) := by decide +kernel
theorem dX0_clearInterrupt_0 : decode cX0_clearInterrupt 0 = .ok (.aload_n 0, 1) := by decide +kernel
theorem dX0_clearInterrupt_1 : decode cX0_clearInterrupt 1 = .ok (.ldc 30, 2) := by decide +kernel
theorem dX0_clearInterrupt_3 : decode cX0_clearInterrupt 3 = .ok (.aload_n 0, 1) := by decide +kernel
theorem dX0_clearInterrupt_4 : decode cX0_clearInterrupt 4 = .ok (.ldc 30, 2) := by decide +kernel
theorem dX0_clearInterrupt_6 : decode cX0_clearInterrupt 6 = .ok (.invokevirtual 26, 3) := by decide +kernel
theorem dX0_clearInterrupt_9 : decode cX0_clearInterrupt 9 = .ok (.iconst 1, 1) := by decide +kernel
theorem dX0_clearInterrupt_10 : decode cX0_clearInterrupt 10 = .ok (.iload_n 1, 1) := by decide +kernel
theorem dX0_clearInterrupt_11 : decode cX0_clearInterrupt 11 = .ok (.ishl, 1) := by decide +kernel
theorem dX0_clearInterrupt_12 : decode cX0_clearInterrupt 12 = .ok (.iconst (-1), 1) := by decide +kernel
theorem dX0_clearInterrupt_13 : decode cX0_clearInterrupt 13 = .ok (.ixor, 1) := by decide +kernel
theorem dX0_clearInterrupt_14 : decode cX0_clearInterrupt 14 = .ok (.iand, 1) := by decide +kernel
theorem dX0_clearInterrupt_15 : decode cX0_clearInterrupt 15 = .ok (.invokevirtual 17, 3) := by decide +kernel
theorem dX0_clearInterrupt_18 : decode cX0_clearInterrupt 18 = .ok (.return_, 1) := by decide +kernel
theorem dX0_tick_0 : decode cX0_tick 0 = .ok (.aload_n 0, 1) := by decide +kernel
theorem dX0_tick_1 : decode cX0_tick 1 = .ok (.aload_n 0, 1) := by decide +kernel
theorem dX0_tick_2 : decode cX0_tick 2 = .ok (.getfield 22, 3) := by decide +kernel
theorem dX0_tick_5 : decode cX0_tick 5 = .ok (.iconst 1, 1) := by decide +kernel
theorem dX0_tick_6 : decode cX0_tick 6 = .ok (.iadd, 1) := by decide +kernel
theorem dX0_tick_7 : decode cX0_tick 7 = .ok (.sipush 255, 3) := by decide +kernel
theorem dX0_tick_10 : decode cX0_tick 10 = .ok (.iand, 1) := by decide +kernel
theorem dX0_tick_11 : decode cX0_tick 11 = .ok (.putfield 22, 3) := by decide +kernel
theorem dX0_tick_14 : decode cX0_tick 14 = .ok (.aload_n 0, 1) := by decide +kernel
theorem dX0_tick_15 : decode cX0_tick 15 = .ok (.getfield 22, 3) := by decide +kernel
theorem dX0_tick_18 : decode cX0_tick 18 = .ok (.bipush 63, 2) := by decide +kernel
theorem dX0_tick_20 : decode cX0_tick 20 = .ok (.iand, 1) := by decide +kernel
theorem dX0_tick_21 : decode cX0_tick 21 = .ok (.ifCond .ne 17, 3) := by decide +kernel
theorem dX0_tick_24 : decode cX0_tick 24 = .ok (.aload_n 0, 1) := by decide +kernel
theorem dX0_tick_25 : decode cX0_tick 25 = .ok (.ldc 21, 2) := by decide +kernel
theorem dX0_tick_27 : decode cX0_tick 27 = .ok (.aload_n 0, 1) := by decide +kernel
theorem dX0_tick_28 : decode cX0_tick 28 = .ok (.ldc 21, 2) := by decide +kernel
theorem dX0_tick_30 : decode cX0_tick 30 = .ok (.invokevirtual 26, 3) := by decide +kernel
theorem dX0_tick_33 : decode cX0_tick 33 = .ok (.iconst 1, 1) := by decide +kernel
theorem dX0_tick_34 : decode cX0_tick 34 = .ok (.iadd, 1) := by decide +kernel
theorem dX0_tick_35 : decode cX0_tick 35 = .ok (.invokevirtual 17, 3) := by decide +kernel
theorem dX0_tick_38 : decode cX0_tick 38 = .ok (.aload_n 0, 1) := by decide +kernel
theorem dX0_tick_39 : decode cX0_tick 39 = .ok (.ldc 31, 2) := by decide +kernel
theorem dX0_tick_41 : decode cX0_tick 41 = .ok (.invokevirtual 26, 3) := by decide +kernel
theorem dX0_tick_44 : decode cX0_tick 44 = .ok (.istore_n 1, 1) := by decide +kernel
theorem dX0_tick_45 : decode cX0_tick 45 = .ok (.iload_n 1, 1) := by decide +kernel
theorem dX0_tick_46 : decode cX0_tick 46 = .ok (.iconst 4, 1) := by decide +kernel
theorem dX0_tick_47 : decode cX0_tick 47 = .ok (.iand, 1) := by decide +kernel
theorem dX0_tick_48 : decode cX0_tick 48 = .ok (.ifCond .eq 22, 3) := by decide +kernel
theorem dX0_tick_51 : decode cX0_tick 51 = .ok (.aload_n 0, 1) := by decide +kernel
theorem dX0_tick_52 : decode cX0_tick 52 = .ok (.getfield 22, 3) := by decide +kernel
theorem dX0_tick_55 : decode cX0_tick 55 = .ok (.getstatic 32, 3) := by decide +kernel
theorem dX0_tick_58 : decode cX0_tick 58 = .ok (.iload_n 1, 1) := by decide +kernel
theorem dX0_tick_59 : decode cX0_tick 59 = .ok (.iconst 3, 1) := by decide +kernel
theorem dX0_tick_60 : decode cX0_tick 60 = .ok (.iand, 1) := by decide +kernel
theorem dX0_tick_61 : decode cX0_tick 61 = .ok (.iaload, 1) := by decide +kernel
theorem dX0_tick_62 : decode cX0_tick 62 = .ok (.iand, 1) := by decide +kernel
theorem dX0_tick_63 : decode cX0_tick 63 = .ok (.ifCond .ne 7, 3) := by decide +kernel
theorem dX0_tick_66 : decode cX0_tick 66 = .ok (.aload_n 0, 1) := by decide +kernel
theorem dX0_tick_67 : decode cX0_tick 67 = .ok (.invokevirtual 36, 3) := by decide +kernel
theorem dX0_tick_70 : decode cX0_tick 70 = .ok (.return_, 1) := by decide +kernel
theorem dX0_countTimer_0 : decode cX0_countTimer 0 = .ok (.aload_n 0, 1) := by decide +kernel
theorem dX0_countTimer_1 : decode cX0_countTimer 1 = .ok (.ldc 39, 2) := by decide +kernel
theorem dX0_countTimer_3 : decode cX0_countTimer 3 = .ok (.aload_n 0, 1) := by decide +kernel
theorem dX0_countTimer_4 : decode cX0_countTimer 4 = .ok (.ldc 39, 2) := by decide +kernel
theorem dX0_countTimer_6 : decode cX0_countTimer 6 = .ok (.invokevirtual 26, 3) := by decide +kernel
theorem dX0_countTimer_9 : decode cX0_countTimer 9 = .ok (.iconst 1, 1) := by decide +kernel
theorem dX0_countTimer_10 : decode cX0_countTimer 10 = .ok (.iadd, 1) := by decide +kernel
theorem dX0_countTimer_11 : decode cX0_countTimer 11 = .ok (.invokevirtual 17, 3) := by decide +kernel
theorem dX0_countTimer_14 : decode cX0_countTimer 14 = .ok (.aload_n 0, 1) := by decide +kernel
theorem dX0_countTimer_15 : decode cX0_countTimer 15 = .ok (.ldc 39, 2) := by decide +kernel
theorem dX0_countTimer_17 : decode cX0_countTimer 17 = .ok (.invokevirtual 26, 3) := by decide +kernel
theorem dX0_countTimer_20 : decode cX0_countTimer 20 = .ok (.ifCond .ne 20, 3) := by decide +kernel
theorem dX0_countTimer_23 : decode cX0_countTimer 23 = .ok (.aload_n 0, 1) := by decide +kernel
theorem dX0_countTimer_24 : decode cX0_countTimer 24 = .ok (.ldc 39, 2) := by decide +kernel
theorem dX0_countTimer_26 : decode cX0_countTimer 26 = .ok (.aload_n 0, 1) := by decide +kernel
theorem dX0_countTimer_27 : decode cX0_countTimer 27 = .ok (.ldc 40, 2) := by decide +kernel
theorem dX0_countTimer_29 : decode cX0_countTimer 29 = .ok (.invokevirtual 26, 3) := by decide +kernel
theorem dX0_countTimer_32 : decode cX0_countTimer 32 = .ok (.invokevirtual 17, 3) := by decide +kernel
theorem dX0_countTimer_35 : decode cX0_countTimer 35 = .ok (.aload_n 0, 1) := by decide +kernel
theorem dX0_countTimer_36 : decode cX0_countTimer 36 = .ok (.iconst 4, 1) := by decide +kernel
theorem dX0_countTimer_37 : decode cX0_countTimer 37 = .ok (.invokevirtual 41, 3) := by decide +kernel
theorem dX0_countTimer_40 : decode cX0_countTimer 40 = .ok (.return_, 1) := by decide +kernel
theorem dX1_init_0 : decode cX1_init 0 = .ok (.aload_n 0, 1) := by decide +kernel
theorem dX1_init_1 : decode cX1_init 1 = .ok (.invokespecial 3, 3) := by decide +kernel
theorem dX1_init_4 : decode cX1_init 4 = .ok (.aload_n 0, 1) := by decide +kernel
theorem dX1_init_5 : decode cX1_init 5 = .ok (.bipush 6, 2) := by decide +kernel
theorem dX1_init_7 : decode cX1_init 7 = .ok (.newarray .int, 2) := by decide +kernel
theorem dX1_init_9 : decode cX1_init 9 = .ok (.putfield 9, 3) := by decide +kernel
theorem dX1_init_12 : decode cX1_init 12 = .ok (.return_, 1) := by decide +kernel
theorem dX1_word_0 : decode cX1_word 0 = .ok (.iload_n 1, 1) := by decide +kernel
theorem dX1_word_1 : decode cX1_word 1 = .ok (.ifCond .lt 12, 3) := by decide +kernel
theorem dX1_word_4 : decode cX1_word 4 = .ok (.iload_n 1, 1) := by decide +kernel
theorem dX1_word_5 : decode cX1_word 5 = .ok (.aload_n 0, 1) := by decide +kernel
theorem dX1_word_6 : decode cX1_word 6 = .ok (.getfield 9, 3) := by decide +kernel
theorem dX1_word_9 : decode cX1_word 9 = .ok (.arraylength, 1) := by decide +kernel
theorem dX1_word_10 : decode cX1_word 10 = .ok (.if_icmp .lt 5, 3) := by decide +kernel
theorem dX1_word_13 : decode cX1_word 13 = .ok (.iconst (-1), 1) := by decide +kernel
theorem dX1_word_14 : decode cX1_word 14 = .ok (.ireturn, 1) := by decide +kernel
theorem dX1_word_15 : decode cX1_word 15 = .ok (.aload_n 0, 1) := by decide +kernel
theorem dX1_word_16 : decode cX1_word 16 = .ok (.getfield 9, 3) := by decide +kernel
theorem dX1_word_19 : decode cX1_word 19 = .ok (.iload_n 1, 1) := by decide +kernel
theorem dX1_word_20 : decode cX1_word 20 = .ok (.iaload, 1) := by decide +kernel
theorem dX1_word_21 : decode cX1_word 21 = .ok (.ireturn, 1) := by decide +kernel
theorem dX1_setWord_0 : decode cX1_setWord 0 = .ok (.iload_n 1, 1) := by decide +kernel
theorem dX1_setWord_1 : decode cX1_setWord 1 = .ok (.ifCond .lt 12, 3) := by decide +kernel
theorem dX1_setWord_4 : decode cX1_setWord 4 = .ok (.iload_n 1, 1) := by decide +kernel
theorem dX1_setWord_5 : decode cX1_setWord 5 = .ok (.aload_n 0, 1) := by decide +kernel
theorem dX1_setWord_6 : decode cX1_setWord 6 = .ok (.getfield 9, 3) := by decide +kernel
theorem dX1_setWord_9 : decode cX1_setWord 9 = .ok (.arraylength, 1) := by decide +kernel
theorem dX1_setWord_10 : decode cX1_setWord 10 = .ok (.if_icmp .lt 5, 3) := by decide +kernel
theorem dX1_setWord_13 : decode cX1_setWord 13 = .ok (.iconst 0, 1) := by decide +kernel
theorem dX1_setWord_14 : decode cX1_setWord 14 = .ok (.ireturn, 1) := by decide +kernel
theorem dX1_setWord_15 : decode cX1_setWord 15 = .ok (.aload_n 0, 1) := by decide +kernel
theorem dX1_setWord_16 : decode cX1_setWord 16 = .ok (.getfield 9, 3) := by decide +kernel
theorem dX1_setWord_19 : decode cX1_setWord 19 = .ok (.iload_n 1, 1) := by decide +kernel
theorem dX1_setWord_20 : decode cX1_setWord 20 = .ok (.iload_n 2, 1) := by decide +kernel
theorem dX1_setWord_21 : decode cX1_setWord 21 = .ok (.iload_n 1, 1) := by decide +kernel
theorem dX1_setWord_22 : decode cX1_setWord 22 = .ok (.ifCond .ne 8, 3) := by decide +kernel
theorem dX1_setWord_25 : decode cX1_setWord 25 = .ok (.ldc 15, 2) := by decide +kernel
theorem dX1_setWord_27 : decode cX1_setWord 27 = .ok (.goto 5, 3) := by decide +kernel
theorem dX1_setWord_30 : decode cX1_setWord 30 = .ok (.ldc 16, 2) := by decide +kernel
theorem dX1_setWord_32 : decode cX1_setWord 32 = .ok (.iand, 1) := by decide +kernel
theorem dX1_setWord_33 : decode cX1_setWord 33 = .ok (.iastore, 1) := by decide +kernel
theorem dX1_setWord_34 : decode cX1_setWord 34 = .ok (.iconst 1, 1) := by decide +kernel
theorem dX1_setWord_35 : decode cX1_setWord 35 = .ok (.ireturn, 1) := by decide +kernel
theorem dX1_half_0 : decode cX1_half 0 = .ok (.aload_n 0, 1) := by decide +kernel
theorem dX1_half_1 : decode cX1_half 1 = .ok (.getfield 9, 3) := by decide +kernel
theorem dX1_half_4 : decode cX1_half 4 = .ok (.iload_n 1, 1) := by decide +kernel
theorem dX1_half_5 : decode cX1_half 5 = .ok (.invokestatic 17, 3) := by decide +kernel
theorem dX1_half_8 : decode cX1_half 8 = .ok (.iaload, 1) := by decide +kernel
theorem dX1_half_9 : decode cX1_half 9 = .ok (.istore_n 2, 1) := by decide +kernel
theorem dX1_half_10 : decode cX1_half 10 = .ok (.iload_n 1, 1) := by decide +kernel
theorem dX1_half_11 : decode cX1_half 11 = .ok (.invokestatic 21, 3) := by decide +kernel
theorem dX1_half_14 : decode cX1_half 14 = .ok (.ifCond .eq 10, 3) := by decide +kernel
theorem dX1_half_17 : decode cX1_half 17 = .ok (.iload_n 2, 1) := by decide +kernel
theorem dX1_half_18 : decode cX1_half 18 = .ok (.bipush 8, 2) := by decide +kernel
theorem dX1_half_20 : decode cX1_half 20 = .ok (.ishr, 1) := by decide +kernel
theorem dX1_half_21 : decode cX1_half 21 = .ok (.goto 8, 3) := by decide +kernel
theorem dX1_half_24 : decode cX1_half 24 = .ok (.iload_n 2, 1) := by decide +kernel
theorem dX1_half_25 : decode cX1_half 25 = .ok (.sipush 255, 3) := by decide +kernel
theorem dX1_half_28 : decode cX1_half 28 = .ok (.iand, 1) := by decide +kernel
theorem dX1_half_29 : decode cX1_half 29 = .ok (.ireturn, 1) := by decide +kernel
theorem dX1_setHalf_0 : decode cX1_setHalf 0 = .ok (.iload_n 1, 1) := by decide +kernel
theorem dX1_setHalf_1 : decode cX1_setHalf 1 = .ok (.invokestatic 17, 3) := by decide +kernel
theorem dX1_setHalf_4 : decode cX1_setHalf 4 = .ok (.istore_n 3, 1) := by decide +kernel
theorem dX1_setHalf_5 : decode cX1_setHalf 5 = .ok (.iload_n 2, 1) := by decide +kernel
theorem dX1_setHalf_6 : decode cX1_setHalf 6 = .ok (.sipush 255, 3) := by decide +kernel
theorem dX1_setHalf_9 : decode cX1_setHalf 9 = .ok (.iand, 1) := by decide +kernel
theorem dX1_setHalf_10 : decode cX1_setHalf 10 = .ok (.istore 4, 2) := by decide +kernel
theorem dX1_setHalf_12 : decode cX1_setHalf 12 = .ok (.aload_n 0, 1) := by decide +kernel
theorem dX1_setHalf_13 : decode cX1_setHalf 13 = .ok (.getfield 9, 3) := by decide +kernel
theorem dX1_setHalf_16 : decode cX1_setHalf 16 = .ok (.iload_n 3, 1) := by decide +kernel
theorem dX1_setHalf_17 : decode cX1_setHalf 17 = .ok (.iload_n 1, 1) := by decide +kernel
theorem dX1_setHalf_18 : decode cX1_setHalf 18 = .ok (.invokestatic 21, 3) := by decide +kernel
theorem dX1_setHalf_21 : decode cX1_setHalf 21 = .ok (.ifCond .eq 22, 3) := by decide +kernel
theorem dX1_setHalf_24 : decode cX1_setHalf 24 = .ok (.iload 4, 2) := by decide +kernel
theorem dX1_setHalf_26 : decode cX1_setHalf 26 = .ok (.bipush 8, 2) := by decide +kernel
theorem dX1_setHalf_28 : decode cX1_setHalf 28 = .ok (.ishl, 1) := by decide +kernel
theorem dX1_setHalf_29 : decode cX1_setHalf 29 = .ok (.aload_n 0, 1) := by decide +kernel
theorem dX1_setHalf_30 : decode cX1_setHalf 30 = .ok (.getfield 9, 3) := by decide +kernel
theorem dX1_setHalf_33 : decode cX1_setHalf 33 = .ok (.iload_n 3, 1) := by decide +kernel
theorem dX1_setHalf_34 : decode cX1_setHalf 34 = .ok (.iaload, 1) := by decide +kernel
theorem dX1_setHalf_35 : decode cX1_setHalf 35 = .ok (.sipush 255, 3) := by decide +kernel
theorem dX1_setHalf_38 : decode cX1_setHalf 38 = .ok (.iand, 1) := by decide +kernel
theorem dX1_setHalf_39 : decode cX1_setHalf 39 = .ok (.ior, 1) := by decide +kernel
theorem dX1_setHalf_40 : decode cX1_setHalf 40 = .ok (.goto 15, 3) := by decide +kernel
theorem dX1_setHalf_43 : decode cX1_setHalf 43 = .ok (.aload_n 0, 1) := by decide +kernel
theorem dX1_setHalf_44 : decode cX1_setHalf 44 = .ok (.getfield 9, 3) := by decide +kernel
theorem dX1_setHalf_47 : decode cX1_setHalf 47 = .ok (.iload_n 3, 1) := by decide +kernel
theorem dX1_setHalf_48 : decode cX1_setHalf 48 = .ok (.iaload, 1) := by decide +kernel
theorem dX1_setHalf_49 : decode cX1_setHalf 49 = .ok (.ldc 25, 2) := by decide +kernel
theorem dX1_setHalf_51 : decode cX1_setHalf 51 = .ok (.iand, 1) := by decide +kernel
theorem dX1_setHalf_52 : decode cX1_setHalf 52 = .ok (.iload 4, 2) := by decide +kernel
theorem dX1_setHalf_54 : decode cX1_setHalf 54 = .ok (.ior, 1) := by decide +kernel
theorem dX1_setHalf_55 : decode cX1_setHalf 55 = .ok (.iastore, 1) := by decide +kernel
theorem dX1_setHalf_56 : decode cX1_setHalf 56 = .ok (.return_, 1) := by decide +kernel
theorem dX1_a_0 : decode cX1_a 0 = .ok (.aload_n 0, 1) := by decide +kernel
theorem dX1_a_1 : decode cX1_a 1 = .ok (.getfield 9, 3) := by decide +kernel
theorem dX1_a_4 : decode cX1_a 4 = .ok (.iconst 0, 1) := by decide +kernel
theorem dX1_a_5 : decode cX1_a 5 = .ok (.iaload, 1) := by decide +kernel
theorem dX1_a_6 : decode cX1_a 6 = .ok (.bipush 8, 2) := by decide +kernel
theorem dX1_a_8 : decode cX1_a 8 = .ok (.ishr, 1) := by decide +kernel
theorem dX1_a_9 : decode cX1_a 9 = .ok (.ireturn, 1) := by decide +kernel
theorem dX1_setA_0 : decode cX1_setA 0 = .ok (.aload_n 0, 1) := by decide +kernel
theorem dX1_setA_1 : decode cX1_setA 1 = .ok (.getfield 9, 3) := by decide +kernel
theorem dX1_setA_4 : decode cX1_setA 4 = .ok (.iconst 0, 1) := by decide +kernel
theorem dX1_setA_5 : decode cX1_setA 5 = .ok (.iload_n 1, 1) := by decide +kernel
theorem dX1_setA_6 : decode cX1_setA 6 = .ok (.sipush 255, 3) := by decide +kernel
theorem dX1_setA_9 : decode cX1_setA 9 = .ok (.iand, 1) := by decide +kernel
theorem dX1_setA_10 : decode cX1_setA 10 = .ok (.bipush 8, 2) := by decide +kernel
theorem dX1_setA_12 : decode cX1_setA 12 = .ok (.ishl, 1) := by decide +kernel
theorem dX1_setA_13 : decode cX1_setA 13 = .ok (.aload_n 0, 1) := by decide +kernel
theorem dX1_setA_14 : decode cX1_setA 14 = .ok (.getfield 9, 3) := by decide +kernel
theorem dX1_setA_17 : decode cX1_setA 17 = .ok (.iconst 0, 1) := by decide +kernel
theorem dX1_setA_18 : decode cX1_setA 18 = .ok (.iaload, 1) := by decide +kernel
theorem dX1_setA_19 : decode cX1_setA 19 = .ok (.sipush 255, 3) := by decide +kernel
theorem dX1_setA_22 : decode cX1_setA 22 = .ok (.iand, 1) := by decide +kernel
theorem dX1_setA_23 : decode cX1_setA 23 = .ok (.ior, 1) := by decide +kernel
theorem dX1_setA_24 : decode cX1_setA 24 = .ok (.iastore, 1) := by decide +kernel
theorem dX1_setA_25 : decode cX1_setA 25 = .ok (.return_, 1) := by decide +kernel
theorem dX1_flag_0 : decode cX1_flag 0 = .ok (.aload_n 0, 1) := by decide +kernel
theorem dX1_flag_1 : decode cX1_flag 1 = .ok (.getfield 9, 3) := by decide +kernel
theorem dX1_flag_4 : decode cX1_flag 4 = .ok (.iconst 0, 1) := by decide +kernel
theorem dX1_flag_5 : decode cX1_flag 5 = .ok (.iaload, 1) := by decide +kernel
theorem dX1_flag_6 : decode cX1_flag 6 = .ok (.iload_n 1, 1) := by decide +kernel
theorem dX1_flag_7 : decode cX1_flag 7 = .ok (.iand, 1) := by decide +kernel
theorem dX1_flag_8 : decode cX1_flag 8 = .ok (.ifCond .eq 7, 3) := by decide +kernel
theorem dX1_flag_11 : decode cX1_flag 11 = .ok (.iconst 1, 1) := by decide +kernel
theorem dX1_flag_12 : decode cX1_flag 12 = .ok (.goto 4, 3) := by decide +kernel
theorem dX1_flag_15 : decode cX1_flag 15 = .ok (.iconst 0, 1) := by decide +kernel
theorem dX1_flag_16 : decode cX1_flag 16 = .ok (.ireturn, 1) := by decide +kernel
theorem dX1_setFlags_0 : decode cX1_setFlags 0 = .ok (.iload_n 1, 1) := by decide +kernel
theorem dX1_setFlags_1 : decode cX1_setFlags 1 = .ok (.ifCond .eq 9, 3) := by decide +kernel
theorem dX1_setFlags_4 : decode cX1_setFlags 4 = .ok (.sipush 128, 3) := by decide +kernel
theorem dX1_setFlags_7 : decode cX1_setFlags 7 = .ok (.goto 4, 3) := by decide +kernel
theorem dX1_setFlags_10 : decode cX1_setFlags 10 = .ok (.iconst 0, 1) := by decide +kernel
theorem dX1_setFlags_11 : decode cX1_setFlags 11 = .ok (.iload_n 2, 1) := by decide +kernel
theorem dX1_setFlags_12 : decode cX1_setFlags 12 = .ok (.ifCond .eq 8, 3) := by decide +kernel
theorem dX1_setFlags_15 : decode cX1_setFlags 15 = .ok (.bipush 64, 2) := by decide +kernel
theorem dX1_setFlags_17 : decode cX1_setFlags 17 = .ok (.goto 4, 3) := by decide +kernel
theorem dX1_setFlags_20 : decode cX1_setFlags 20 = .ok (.iconst 0, 1) := by decide +kernel
theorem dX1_setFlags_21 : decode cX1_setFlags 21 = .ok (.ior, 1) := by decide +kernel
theorem dX1_setFlags_22 : decode cX1_setFlags 22 = .ok (.iload_n 3, 1) := by decide +kernel
theorem dX1_setFlags_23 : decode cX1_setFlags 23 = .ok (.ifCond .eq 8, 3) := by decide +kernel
theorem dX1_setFlags_26 : decode cX1_setFlags 26 = .ok (.bipush 32, 2) := by decide +kernel
theorem dX1_setFlags_28 : decode cX1_setFlags 28 = .ok (.goto 4, 3) := by decide +kernel
theorem dX1_setFlags_31 : decode cX1_setFlags 31 = .ok (.iconst 0, 1) := by decide +kernel
theorem dX1_setFlags_32 : decode cX1_setFlags 32 = .ok (.ior, 1) := by decide +kernel
theorem dX1_setFlags_33 : decode cX1_setFlags 33 = .ok (.iload 4, 2) := by decide +kernel
theorem dX1_setFlags_35 : decode cX1_setFlags 35 = .ok (.ifCond .eq 8, 3) := by decide +kernel
theorem dX1_setFlags_38 : decode cX1_setFlags 38 = .ok (.bipush 16, 2) := by decide +kernel
theorem dX1_setFlags_40 : decode cX1_setFlags 40 = .ok (.goto 4, 3) := by decide +kernel
theorem dX1_setFlags_43 : decode cX1_setFlags 43 = .ok (.iconst 0, 1) := by decide +kernel
theorem dX1_setFlags_44 : decode cX1_setFlags 44 = .ok (.ior, 1) := by decide +kernel
theorem dX1_setFlags_45 : decode cX1_setFlags 45 = .ok (.istore 5, 2) := by decide +kernel
theorem dX1_setFlags_47 : decode cX1_setFlags 47 = .ok (.aload_n 0, 1) := by decide +kernel
theorem dX1_setFlags_48 : decode cX1_setFlags 48 = .ok (.getfield 9, 3) := by decide +kernel
theorem dX1_setFlags_51 : decode cX1_setFlags 51 = .ok (.iconst 0, 1) := by decide +kernel
theorem dX1_setFlags_52 : decode cX1_setFlags 52 = .ok (.aload_n 0, 1) := by decide +kernel
theorem dX1_setFlags_53 : decode cX1_setFlags 53 = .ok (.getfield 9, 3) := by decide +kernel
theorem dX1_setFlags_56 : decode cX1_setFlags 56 = .ok (.iconst 0, 1) := by decide +kernel
theorem dX1_setFlags_57 : decode cX1_setFlags 57 = .ok (.iaload, 1) := by decide +kernel
theorem dX1_setFlags_58 : decode cX1_setFlags 58 = .ok (.ldc 25, 2) := by decide +kernel
theorem dX1_setFlags_60 : decode cX1_setFlags 60 = .ok (.iand, 1) := by decide +kernel
theorem dX1_setFlags_61 : decode cX1_setFlags 61 = .ok (.iload 5, 2) := by decide +kernel
theorem dX1_setFlags_63 : decode cX1_setFlags 63 = .ok (.ior, 1) := by decide +kernel
theorem dX1_setFlags_64 : decode cX1_setFlags 64 = .ok (.iastore, 1) := by decide +kernel
theorem dX1_setFlags_65 : decode cX1_setFlags 65 = .ok (.return_, 1) := by decide +kernel
theorem dX1_pairOf_0 : decode cX1_pairOf 0 = .ok (.iconst 1, 1) := by decide +kernel
theorem dX1_pairOf_1 : decode cX1_pairOf 1 = .ok (.iload_n 0, 1) := by decide +kernel
theorem dX1_pairOf_2 : decode cX1_pairOf 2 = .ok (.iconst 1, 1) := by decide +kernel
theorem dX1_pairOf_3 : decode cX1_pairOf 3 = .ok (.ishr, 1) := by decide +kernel
theorem dX1_pairOf_4 : decode cX1_pairOf 4 = .ok (.iadd, 1) := by decide +kernel
theorem dX1_pairOf_5 : decode cX1_pairOf 5 = .ok (.iconst 3, 1) := by decide +kernel
theorem dX1_pairOf_6 : decode cX1_pairOf 6 = .ok (.iand, 1) := by decide +kernel
theorem dX1_pairOf_7 : decode cX1_pairOf 7 = .ok (.ireturn, 1) := by decide +kernel
theorem dX1_isHigh_0 : decode cX1_isHigh 0 = .ok (.iload_n 0, 1) := by decide +kernel
theorem dX1_isHigh_1 : decode cX1_isHigh 1 = .ok (.bipush 7, 2) := by decide +kernel
theorem dX1_isHigh_3 : decode cX1_isHigh 3 = .ok (.if_icmp .eq 9, 3) := by decide +kernel
theorem dX1_isHigh_6 : decode cX1_isHigh 6 = .ok (.iload_n 0, 1) := by decide +kernel
theorem dX1_isHigh_7 : decode cX1_isHigh 7 = .ok (.iconst 1, 1) := by decide +kernel
theorem dX1_isHigh_8 : decode cX1_isHigh 8 = .ok (.iand, 1) := by decide +kernel
theorem dX1_isHigh_9 : decode cX1_isHigh 9 = .ok (.ifCond .ne 7, 3) := by decide +kernel
theorem dX1_isHigh_12 : decode cX1_isHigh 12 = .ok (.iconst 1, 1) := by decide +kernel
theorem dX1_isHigh_13 : decode cX1_isHigh 13 = .ok (.goto 4, 3) := by decide +kernel
theorem dX1_isHigh_16 : decode cX1_isHigh 16 = .ok (.iconst 0, 1) := by decide +kernel
theorem dX1_isHigh_17 : decode cX1_isHigh 17 = .ok (.ireturn, 1) := by decide +kernel
theorem dX2_init_0 : decode cX2_init 0 = .ok (.aload_n 0, 1) := by decide +kernel
theorem dX2_init_1 : decode cX2_init 1 = .ok (.invokespecial 3, 3) := by decide +kernel
theorem dX2_init_4 : decode cX2_init 4 = .ok (.aload_n 0, 1) := by decide +kernel
theorem dX2_init_5 : decode cX2_init 5 = .ok (.new 9, 3) := by decide +kernel
theorem dX2_init_8 : decode cX2_init 8 = .ok (.dup, 1) := by decide +kernel
theorem dX2_init_9 : decode cX2_init 9 = .ok (.invokespecial 11, 3) := by decide +kernel
theorem dX2_init_12 : decode cX2_init 12 = .ok (.putfield 12, 3) := by decide +kernel
theorem dX2_init_15 : decode cX2_init 15 = .ok (.return_, 1) := by decide +kernel
theorem dX2_apply_0 : decode cX2_apply 0 = .ok (.aload_n 0, 1) := by decide +kernel
theorem dX2_apply_1 : decode cX2_apply 1 = .ok (.getfield 12, 3) := by decide +kernel
theorem dX2_apply_4 : decode cX2_apply 4 = .ok (.bipush 16, 2) := by decide +kernel
theorem dX2_apply_6 : decode cX2_apply 6 = .ok (.invokevirtual 18, 3) := by decide +kernel
theorem dX2_apply_9 : decode cX2_apply 9 = .ok (.ifCond .eq 7, 3) := by decide +kernel
theorem dX2_apply_12 : decode cX2_apply 12 = .ok (.iconst 1, 1) := by decide +kernel
theorem dX2_apply_13 : decode cX2_apply 13 = .ok (.goto 4, 3) := by decide +kernel
theorem dX2_apply_16 : decode cX2_apply 16 = .ok (.iconst 0, 1) := by decide +kernel
theorem dX2_apply_17 : decode cX2_apply 17 = .ok (.istore_n 3, 1) := by decide +kernel
theorem dX2_apply_18 : decode cX2_apply 18 = .ok (.iload_n 1, 1) := by decide +kernel
theorem dX2_apply_19 : decode cX2_apply 19 = .ok (.tableswitch 127 0 7 #[45, 54, 63, 83, 93, 110, 127, 63], 45) := by decide +kernel
theorem dX2_apply_64 : decode cX2_apply 64 = .ok (.aload_n 0, 1) := by decide +kernel
theorem dX2_apply_65 : decode cX2_apply 65 = .ok (.iload_n 2, 1) := by decide +kernel
theorem dX2_apply_66 : decode cX2_apply 66 = .ok (.iconst 0, 1) := by decide +kernel
theorem dX2_apply_67 : decode cX2_apply 67 = .ok (.invokevirtual 22, 3) := by decide +kernel
theorem dX2_apply_70 : decode cX2_apply 70 = .ok (.goto 90, 3) := by decide +kernel
theorem dX2_apply_73 : decode cX2_apply 73 = .ok (.aload_n 0, 1) := by decide +kernel
theorem dX2_apply_74 : decode cX2_apply 74 = .ok (.iload_n 2, 1) := by decide +kernel
theorem dX2_apply_75 : decode cX2_apply 75 = .ok (.iload_n 3, 1) := by decide +kernel
theorem dX2_apply_76 : decode cX2_apply 76 = .ok (.invokevirtual 22, 3) := by decide +kernel
theorem dX2_apply_79 : decode cX2_apply 79 = .ok (.goto 81, 3) := by decide +kernel
theorem dX2_apply_82 : decode cX2_apply 82 = .ok (.aload_n 0, 1) := by decide +kernel
theorem dX2_apply_83 : decode cX2_apply 83 = .ok (.iload_n 2, 1) := by decide +kernel
theorem dX2_apply_84 : decode cX2_apply 84 = .ok (.iconst 0, 1) := by decide +kernel
theorem dX2_apply_85 : decode cX2_apply 85 = .ok (.iload_n 1, 1) := by decide +kernel
theorem dX2_apply_86 : decode cX2_apply 86 = .ok (.bipush 7, 2) := by decide +kernel
theorem dX2_apply_88 : decode cX2_apply 88 = .ok (.if_icmp .eq 7, 3) := by decide +kernel
theorem dX2_apply_91 : decode cX2_apply 91 = .ok (.iconst 1, 1) := by decide +kernel
theorem dX2_apply_92 : decode cX2_apply 92 = .ok (.goto 4, 3) := by decide +kernel
theorem dX2_apply_95 : decode cX2_apply 95 = .ok (.iconst 0, 1) := by decide +kernel
theorem dX2_apply_96 : decode cX2_apply 96 = .ok (.invokevirtual 26, 3) := by decide +kernel
theorem dX2_apply_99 : decode cX2_apply 99 = .ok (.goto 61, 3) := by decide +kernel
theorem dX2_apply_102 : decode cX2_apply 102 = .ok (.aload_n 0, 1) := by decide +kernel
theorem dX2_apply_103 : decode cX2_apply 103 = .ok (.iload_n 2, 1) := by decide +kernel
theorem dX2_apply_104 : decode cX2_apply 104 = .ok (.iload_n 3, 1) := by decide +kernel
theorem dX2_apply_105 : decode cX2_apply 105 = .ok (.iconst 1, 1) := by decide +kernel
theorem dX2_apply_106 : decode cX2_apply 106 = .ok (.invokevirtual 26, 3) := by decide +kernel
theorem dX2_apply_109 : decode cX2_apply 109 = .ok (.goto 51, 3) := by decide +kernel
theorem dX2_apply_112 : decode cX2_apply 112 = .ok (.aload_n 0, 1) := by decide +kernel
theorem dX2_apply_113 : decode cX2_apply 113 = .ok (.aload_n 0, 1) := by decide +kernel
theorem dX2_apply_114 : decode cX2_apply 114 = .ok (.getfield 12, 3) := by decide +kernel
theorem dX2_apply_117 : decode cX2_apply 117 = .ok (.invokevirtual 30, 3) := by decide +kernel
theorem dX2_apply_120 : decode cX2_apply 120 = .ok (.iload_n 2, 1) := by decide +kernel
theorem dX2_apply_121 : decode cX2_apply 121 = .ok (.iand, 1) := by decide +kernel
theorem dX2_apply_122 : decode cX2_apply 122 = .ok (.iconst 1, 1) := by decide +kernel
theorem dX2_apply_123 : decode cX2_apply 123 = .ok (.invokevirtual 34, 3) := by decide +kernel
theorem dX2_apply_126 : decode cX2_apply 126 = .ok (.goto 34, 3) := by decide +kernel
theorem dX2_apply_129 : decode cX2_apply 129 = .ok (.aload_n 0, 1) := by decide +kernel
theorem dX2_apply_130 : decode cX2_apply 130 = .ok (.aload_n 0, 1) := by decide +kernel
theorem dX2_apply_131 : decode cX2_apply 131 = .ok (.getfield 12, 3) := by decide +kernel
theorem dX2_apply_134 : decode cX2_apply 134 = .ok (.invokevirtual 30, 3) := by decide +kernel
theorem dX2_apply_137 : decode cX2_apply 137 = .ok (.iload_n 2, 1) := by decide +kernel
theorem dX2_apply_138 : decode cX2_apply 138 = .ok (.ixor, 1) := by decide +kernel
theorem dX2_apply_139 : decode cX2_apply 139 = .ok (.iconst 0, 1) := by decide +kernel
theorem dX2_apply_140 : decode cX2_apply 140 = .ok (.invokevirtual 34, 3) := by decide +kernel
theorem dX2_apply_143 : decode cX2_apply 143 = .ok (.goto 17, 3) := by decide +kernel
theorem dX2_apply_146 : decode cX2_apply 146 = .ok (.aload_n 0, 1) := by decide +kernel
theorem dX2_apply_147 : decode cX2_apply 147 = .ok (.aload_n 0, 1) := by decide +kernel
theorem dX2_apply_148 : decode cX2_apply 148 = .ok (.getfield 12, 3) := by decide +kernel
theorem dX2_apply_151 : decode cX2_apply 151 = .ok (.invokevirtual 30, 3) := by decide +kernel
theorem dX2_apply_154 : decode cX2_apply 154 = .ok (.iload_n 2, 1) := by decide +kernel
theorem dX2_apply_155 : decode cX2_apply 155 = .ok (.ior, 1) := by decide +kernel
theorem dX2_apply_156 : decode cX2_apply 156 = .ok (.iconst 0, 1) := by decide +kernel
theorem dX2_apply_157 : decode cX2_apply 157 = .ok (.invokevirtual 34, 3) := by decide +kernel
theorem dX2_apply_160 : decode cX2_apply 160 = .ok (.return_, 1) := by decide +kernel
theorem dX2_add_0 : decode cX2_add 0 = .ok (.aload_n 0, 1) := by decide +kernel
theorem dX2_add_1 : decode cX2_add 1 = .ok (.getfield 12, 3) := by decide +kernel
theorem dX2_add_4 : decode cX2_add 4 = .ok (.invokevirtual 30, 3) := by decide +kernel
theorem dX2_add_7 : decode cX2_add 7 = .ok (.istore_n 3, 1) := by decide +kernel
theorem dX2_add_8 : decode cX2_add 8 = .ok (.iload_n 3, 1) := by decide +kernel
theorem dX2_add_9 : decode cX2_add 9 = .ok (.iload_n 1, 1) := by decide +kernel
theorem dX2_add_10 : decode cX2_add 10 = .ok (.iadd, 1) := by decide +kernel
theorem dX2_add_11 : decode cX2_add 11 = .ok (.iload_n 2, 1) := by decide +kernel
theorem dX2_add_12 : decode cX2_add 12 = .ok (.iadd, 1) := by decide +kernel
theorem dX2_add_13 : decode cX2_add 13 = .ok (.istore 4, 2) := by decide +kernel
theorem dX2_add_15 : decode cX2_add 15 = .ok (.aload_n 0, 1) := by decide +kernel
theorem dX2_add_16 : decode cX2_add 16 = .ok (.getfield 12, 3) := by decide +kernel
theorem dX2_add_19 : decode cX2_add 19 = .ok (.iload 4, 2) := by decide +kernel
theorem dX2_add_21 : decode cX2_add 21 = .ok (.invokevirtual 38, 3) := by decide +kernel
theorem dX2_add_24 : decode cX2_add 24 = .ok (.aload_n 0, 1) := by decide +kernel
theorem dX2_add_25 : decode cX2_add 25 = .ok (.getfield 12, 3) := by decide +kernel
theorem dX2_add_28 : decode cX2_add 28 = .ok (.iload 4, 2) := by decide +kernel
theorem dX2_add_30 : decode cX2_add 30 = .ok (.sipush 255, 3) := by decide +kernel
theorem dX2_add_33 : decode cX2_add 33 = .ok (.iand, 1) := by decide +kernel
theorem dX2_add_34 : decode cX2_add 34 = .ok (.ifCond .ne 7, 3) := by decide +kernel
theorem dX2_add_37 : decode cX2_add 37 = .ok (.iconst 1, 1) := by decide +kernel
theorem dX2_add_38 : decode cX2_add 38 = .ok (.goto 4, 3) := by decide +kernel
theorem dX2_add_41 : decode cX2_add 41 = .ok (.iconst 0, 1) := by decide +kernel
theorem dX2_add_42 : decode cX2_add 42 = .ok (.iconst 0, 1) := by decide +kernel
theorem dX2_add_43 : decode cX2_add 43 = .ok (.iload_n 3, 1) := by decide +kernel
theorem dX2_add_44 : decode cX2_add 44 = .ok (.bipush 15, 2) := by decide +kernel
theorem dX2_add_46 : decode cX2_add 46 = .ok (.iand, 1) := by decide +kernel
theorem dX2_add_47 : decode cX2_add 47 = .ok (.iload_n 1, 1) := by decide +kernel
theorem dX2_add_48 : decode cX2_add 48 = .ok (.bipush 15, 2) := by decide +kernel
theorem dX2_add_50 : decode cX2_add 50 = .ok (.iand, 1) := by decide +kernel
theorem dX2_add_51 : decode cX2_add 51 = .ok (.iadd, 1) := by decide +kernel
theorem dX2_add_52 : decode cX2_add 52 = .ok (.iload_n 2, 1) := by decide +kernel
theorem dX2_add_53 : decode cX2_add 53 = .ok (.iadd, 1) := by decide +kernel
theorem dX2_add_54 : decode cX2_add 54 = .ok (.bipush 15, 2) := by decide +kernel
theorem dX2_add_56 : decode cX2_add 56 = .ok (.if_icmp .le 7, 3) := by decide +kernel
theorem dX2_add_59 : decode cX2_add 59 = .ok (.iconst 1, 1) := by decide +kernel
theorem dX2_add_60 : decode cX2_add 60 = .ok (.goto 4, 3) := by decide +kernel
theorem dX2_add_63 : decode cX2_add 63 = .ok (.iconst 0, 1) := by decide +kernel
theorem dX2_add_64 : decode cX2_add 64 = .ok (.iload 4, 2) := by decide +kernel
theorem dX2_add_66 : decode cX2_add 66 = .ok (.sipush 255, 3) := by decide +kernel
theorem dX2_add_69 : decode cX2_add 69 = .ok (.if_icmp .le 7, 3) := by decide +kernel
theorem dX2_add_72 : decode cX2_add 72 = .ok (.iconst 1, 1) := by decide +kernel
theorem dX2_add_73 : decode cX2_add 73 = .ok (.goto 4, 3) := by decide +kernel
theorem dX2_add_76 : decode cX2_add 76 = .ok (.iconst 0, 1) := by decide +kernel
theorem dX2_add_77 : decode cX2_add 77 = .ok (.invokevirtual 42, 3) := by decide +kernel
theorem dX2_add_80 : decode cX2_add 80 = .ok (.return_, 1) := by decide +kernel
theorem dX2_subtract_0 : decode cX2_subtract 0 = .ok (.aload_n 0, 1) := by decide +kernel
theorem dX2_subtract_1 : decode cX2_subtract 1 = .ok (.getfield 12, 3) := by decide +kernel
theorem dX2_subtract_4 : decode cX2_subtract 4 = .ok (.invokevirtual 30, 3) := by decide +kernel
theorem dX2_subtract_7 : decode cX2_subtract 7 = .ok (.istore 4, 2) := by decide +kernel
theorem dX2_subtract_9 : decode cX2_subtract 9 = .ok (.iload 4, 2) := by decide +kernel
theorem dX2_subtract_11 : decode cX2_subtract 11 = .ok (.iload_n 1, 1) := by decide +kernel
theorem dX2_subtract_12 : decode cX2_subtract 12 = .ok (.isub, 1) := by decide +kernel
theorem dX2_subtract_13 : decode cX2_subtract 13 = .ok (.iload_n 2, 1) := by decide +kernel
theorem dX2_subtract_14 : decode cX2_subtract 14 = .ok (.isub, 1) := by decide +kernel
theorem dX2_subtract_15 : decode cX2_subtract 15 = .ok (.istore 5, 2) := by decide +kernel
theorem dX2_subtract_17 : decode cX2_subtract 17 = .ok (.iload_n 3, 1) := by decide +kernel
theorem dX2_subtract_18 : decode cX2_subtract 18 = .ok (.ifCond .eq 12, 3) := by decide +kernel
theorem dX2_subtract_21 : decode cX2_subtract 21 = .ok (.aload_n 0, 1) := by decide +kernel
theorem dX2_subtract_22 : decode cX2_subtract 22 = .ok (.getfield 12, 3) := by decide +kernel
theorem dX2_subtract_25 : decode cX2_subtract 25 = .ok (.iload 5, 2) := by decide +kernel
theorem dX2_subtract_27 : decode cX2_subtract 27 = .ok (.invokevirtual 38, 3) := by decide +kernel
theorem dX2_subtract_30 : decode cX2_subtract 30 = .ok (.aload_n 0, 1) := by decide +kernel
theorem dX2_subtract_31 : decode cX2_subtract 31 = .ok (.getfield 12, 3) := by decide +kernel
theorem dX2_subtract_34 : decode cX2_subtract 34 = .ok (.iload 5, 2) := by decide +kernel
theorem dX2_subtract_36 : decode cX2_subtract 36 = .ok (.sipush 255, 3) := by decide +kernel
theorem dX2_subtract_39 : decode cX2_subtract 39 = .ok (.iand, 1) := by decide +kernel
theorem dX2_subtract_40 : decode cX2_subtract 40 = .ok (.ifCond .ne 7, 3) := by decide +kernel
theorem dX2_subtract_43 : decode cX2_subtract 43 = .ok (.iconst 1, 1) := by decide +kernel
theorem dX2_subtract_44 : decode cX2_subtract 44 = .ok (.goto 4, 3) := by decide +kernel
theorem dX2_subtract_47 : decode cX2_subtract 47 = .ok (.iconst 0, 1) := by decide +kernel
theorem dX2_subtract_48 : decode cX2_subtract 48 = .ok (.iconst 1, 1) := by decide +kernel
theorem dX2_subtract_49 : decode cX2_subtract 49 = .ok (.iload 4, 2) := by decide +kernel
theorem dX2_subtract_51 : decode cX2_subtract 51 = .ok (.bipush 15, 2) := by decide +kernel
theorem dX2_subtract_53 : decode cX2_subtract 53 = .ok (.iand, 1) := by decide +kernel
theorem dX2_subtract_54 : decode cX2_subtract 54 = .ok (.iload_n 1, 1) := by decide +kernel
theorem dX2_subtract_55 : decode cX2_subtract 55 = .ok (.bipush 15, 2) := by decide +kernel
theorem dX2_subtract_57 : decode cX2_subtract 57 = .ok (.iand, 1) := by decide +kernel
theorem dX2_subtract_58 : decode cX2_subtract 58 = .ok (.isub, 1) := by decide +kernel
theorem dX2_subtract_59 : decode cX2_subtract 59 = .ok (.iload_n 2, 1) := by decide +kernel
theorem dX2_subtract_60 : decode cX2_subtract 60 = .ok (.isub, 1) := by decide +kernel
theorem dX2_subtract_61 : decode cX2_subtract 61 = .ok (.ifCond .ge 7, 3) := by decide +kernel
theorem dX2_subtract_64 : decode cX2_subtract 64 = .ok (.iconst 1, 1) := by decide +kernel
theorem dX2_subtract_65 : decode cX2_subtract 65 = .ok (.goto 4, 3) := by decide +kernel
theorem dX2_subtract_68 : decode cX2_subtract 68 = .ok (.iconst 0, 1) := by decide +kernel
theorem dX2_subtract_69 : decode cX2_subtract 69 = .ok (.iload 5, 2) := by decide +kernel
theorem dX2_subtract_71 : decode cX2_subtract 71 = .ok (.ifCond .ge 7, 3) := by decide +kernel
theorem dX2_subtract_74 : decode cX2_subtract 74 = .ok (.iconst 1, 1) := by decide +kernel
theorem dX2_subtract_75 : decode cX2_subtract 75 = .ok (.goto 4, 3) := by decide +kernel
theorem dX2_subtract_78 : decode cX2_subtract 78 = .ok (.iconst 0, 1) := by decide +kernel
theorem dX2_subtract_79 : decode cX2_subtract 79 = .ok (.invokevirtual 42, 3) := by decide +kernel
theorem dX2_subtract_82 : decode cX2_subtract 82 = .ok (.return_, 1) := by decide +kernel
theorem dX2_putLogic_0 : decode cX2_putLogic 0 = .ok (.aload_n 0, 1) := by decide +kernel
theorem dX2_putLogic_1 : decode cX2_putLogic 1 = .ok (.getfield 12, 3) := by decide +kernel
theorem dX2_putLogic_4 : decode cX2_putLogic 4 = .ok (.iload_n 1, 1) := by decide +kernel
theorem dX2_putLogic_5 : decode cX2_putLogic 5 = .ok (.invokevirtual 38, 3) := by decide +kernel
theorem dX2_putLogic_8 : decode cX2_putLogic 8 = .ok (.aload_n 0, 1) := by decide +kernel
theorem dX2_putLogic_9 : decode cX2_putLogic 9 = .ok (.getfield 12, 3) := by decide +kernel
theorem dX2_putLogic_12 : decode cX2_putLogic 12 = .ok (.iload_n 1, 1) := by decide +kernel
theorem dX2_putLogic_13 : decode cX2_putLogic 13 = .ok (.ifCond .ne 7, 3) := by decide +kernel
theorem dX2_putLogic_16 : decode cX2_putLogic 16 = .ok (.iconst 1, 1) := by decide +kernel
theorem dX2_putLogic_17 : decode cX2_putLogic 17 = .ok (.goto 4, 3) := by decide +kernel
theorem dX2_putLogic_20 : decode cX2_putLogic 20 = .ok (.iconst 0, 1) := by decide +kernel
theorem dX2_putLogic_21 : decode cX2_putLogic 21 = .ok (.iconst 0, 1) := by decide +kernel
theorem dX2_putLogic_22 : decode cX2_putLogic 22 = .ok (.iload_n 2, 1) := by decide +kernel
theorem dX2_putLogic_23 : decode cX2_putLogic 23 = .ok (.iconst 0, 1) := by decide +kernel
theorem dX2_putLogic_24 : decode cX2_putLogic 24 = .ok (.invokevirtual 42, 3) := by decide +kernel
theorem dX2_putLogic_27 : decode cX2_putLogic 27 = .ok (.return_, 1) := by decide +kernel
theorem dX2_increment_0 : decode cX2_increment 0 = .ok (.iload_n 1, 1) := by decide +kernel
theorem dX2_increment_1 : decode cX2_increment 1 = .ok (.iconst 1, 1) := by decide +kernel
theorem dX2_increment_2 : decode cX2_increment 2 = .ok (.iadd, 1) := by decide +kernel
theorem dX2_increment_3 : decode cX2_increment 3 = .ok (.sipush 255, 3) := by decide +kernel
theorem dX2_increment_6 : decode cX2_increment 6 = .ok (.iand, 1) := by decide +kernel
theorem dX2_increment_7 : decode cX2_increment 7 = .ok (.istore_n 2, 1) := by decide +kernel
theorem dX2_increment_8 : decode cX2_increment 8 = .ok (.aload_n 0, 1) := by decide +kernel
theorem dX2_increment_9 : decode cX2_increment 9 = .ok (.getfield 12, 3) := by decide +kernel
theorem dX2_increment_12 : decode cX2_increment 12 = .ok (.iload_n 2, 1) := by decide +kernel
theorem dX2_increment_13 : decode cX2_increment 13 = .ok (.ifCond .ne 7, 3) := by decide +kernel
theorem dX2_increment_16 : decode cX2_increment 16 = .ok (.iconst 1, 1) := by decide +kernel
theorem dX2_increment_17 : decode cX2_increment 17 = .ok (.goto 4, 3) := by decide +kernel
theorem dX2_increment_20 : decode cX2_increment 20 = .ok (.iconst 0, 1) := by decide +kernel
theorem dX2_increment_21 : decode cX2_increment 21 = .ok (.iconst 0, 1) := by decide +kernel
theorem dX2_increment_22 : decode cX2_increment 22 = .ok (.iload_n 2, 1) := by decide +kernel
theorem dX2_increment_23 : decode cX2_increment 23 = .ok (.bipush 15, 2) := by decide +kernel
theorem dX2_increment_25 : decode cX2_increment 25 = .ok (.iand, 1) := by decide +kernel
theorem dX2_increment_26 : decode cX2_increment 26 = .ok (.ifCond .ne 7, 3) := by decide +kernel
theorem dX2_increment_29 : decode cX2_increment 29 = .ok (.iconst 1, 1) := by decide +kernel
theorem dX2_increment_30 : decode cX2_increment 30 = .ok (.goto 4, 3) := by decide +kernel
theorem dX2_increment_33 : decode cX2_increment 33 = .ok (.iconst 0, 1) := by decide +kernel
theorem dX2_increment_34 : decode cX2_increment 34 = .ok (.aload_n 0, 1) := by decide +kernel
theorem dX2_increment_35 : decode cX2_increment 35 = .ok (.getfield 12, 3) := by decide +kernel
theorem dX2_increment_38 : decode cX2_increment 38 = .ok (.bipush 16, 2) := by decide +kernel
theorem dX2_increment_40 : decode cX2_increment 40 = .ok (.invokevirtual 18, 3) := by decide +kernel
theorem dX2_increment_43 : decode cX2_increment 43 = .ok (.invokevirtual 42, 3) := by decide +kernel
theorem dX2_increment_46 : decode cX2_increment 46 = .ok (.iload_n 2, 1) := by decide +kernel
theorem dX2_increment_47 : decode cX2_increment 47 = .ok (.ireturn, 1) := by decide +kernel
theorem dX2_decrement_0 : decode cX2_decrement 0 = .ok (.iload_n 1, 1) := by decide +kernel
theorem dX2_decrement_1 : decode cX2_decrement 1 = .ok (.iconst 1, 1) := by decide +kernel
theorem dX2_decrement_2 : decode cX2_decrement 2 = .ok (.isub, 1) := by decide +kernel
theorem dX2_decrement_3 : decode cX2_decrement 3 = .ok (.sipush 255, 3) := by decide +kernel
theorem dX2_decrement_6 : decode cX2_decrement 6 = .ok (.iand, 1) := by decide +kernel
theorem dX2_decrement_7 : decode cX2_decrement 7 = .ok (.istore_n 2, 1) := by decide +kernel
theorem dX2_decrement_8 : decode cX2_decrement 8 = .ok (.aload_n 0, 1) := by decide +kernel
theorem dX2_decrement_9 : decode cX2_decrement 9 = .ok (.getfield 12, 3) := by decide +kernel
theorem dX2_decrement_12 : decode cX2_decrement 12 = .ok (.iload_n 2, 1) := by decide +kernel
theorem dX2_decrement_13 : decode cX2_decrement 13 = .ok (.ifCond .ne 7, 3) := by decide +kernel
theorem dX2_decrement_16 : decode cX2_decrement 16 = .ok (.iconst 1, 1) := by decide +kernel
theorem dX2_decrement_17 : decode cX2_decrement 17 = .ok (.goto 4, 3) := by decide +kernel
theorem dX2_decrement_20 : decode cX2_decrement 20 = .ok (.iconst 0, 1) := by decide +kernel
theorem dX2_decrement_21 : decode cX2_decrement 21 = .ok (.iconst 1, 1) := by decide +kernel
theorem dX2_decrement_22 : decode cX2_decrement 22 = .ok (.iload_n 2, 1) := by decide +kernel
theorem dX2_decrement_23 : decode cX2_decrement 23 = .ok (.bipush 15, 2) := by decide +kernel
theorem dX2_decrement_25 : decode cX2_decrement 25 = .ok (.iand, 1) := by decide +kernel
theorem dX2_decrement_26 : decode cX2_decrement 26 = .ok (.bipush 15, 2) := by decide +kernel
theorem dX2_decrement_28 : decode cX2_decrement 28 = .ok (.if_icmp .ne 7, 3) := by decide +kernel
theorem dX2_decrement_31 : decode cX2_decrement 31 = .ok (.iconst 1, 1) := by decide +kernel
theorem dX2_decrement_32 : decode cX2_decrement 32 = .ok (.goto 4, 3) := by decide +kernel
theorem dX2_decrement_35 : decode cX2_decrement 35 = .ok (.iconst 0, 1) := by decide +kernel
theorem dX2_decrement_36 : decode cX2_decrement 36 = .ok (.aload_n 0, 1) := by decide +kernel
theorem dX2_decrement_37 : decode cX2_decrement 37 = .ok (.getfield 12, 3) := by decide +kernel
theorem dX2_decrement_40 : decode cX2_decrement 40 = .ok (.bipush 16, 2) := by decide +kernel
theorem dX2_decrement_42 : decode cX2_decrement 42 = .ok (.invokevirtual 18, 3) := by decide +kernel
theorem dX2_decrement_45 : decode cX2_decrement 45 = .ok (.invokevirtual 42, 3) := by decide +kernel
theorem dX2_decrement_48 : decode cX2_decrement 48 = .ok (.iload_n 2, 1) := by decide +kernel
theorem dX2_decrement_49 : decode cX2_decrement 49 = .ok (.ireturn, 1) := by decide +kernel
theorem dX2_addToHl_0 : decode cX2_addToHl 0 = .ok (.aload_n 0, 1) := by decide +kernel
theorem dX2_addToHl_1 : decode cX2_addToHl 1 = .ok (.getfield 12, 3) := by decide +kernel
theorem dX2_addToHl_4 : decode cX2_addToHl 4 = .ok (.iconst 3, 1) := by decide +kernel
theorem dX2_addToHl_5 : decode cX2_addToHl 5 = .ok (.invokevirtual 46, 3) := by decide +kernel
theorem dX2_addToHl_8 : decode cX2_addToHl 8 = .ok (.istore_n 2, 1) := by decide +kernel
theorem dX2_addToHl_9 : decode cX2_addToHl 9 = .ok (.aload_n 0, 1) := by decide +kernel
theorem dX2_addToHl_10 : decode cX2_addToHl 10 = .ok (.getfield 12, 3) := by decide +kernel
theorem dX2_addToHl_13 : decode cX2_addToHl 13 = .ok (.iconst 3, 1) := by decide +kernel
theorem dX2_addToHl_14 : decode cX2_addToHl 14 = .ok (.iload_n 2, 1) := by decide +kernel
theorem dX2_addToHl_15 : decode cX2_addToHl 15 = .ok (.iload_n 1, 1) := by decide +kernel
theorem dX2_addToHl_16 : decode cX2_addToHl 16 = .ok (.iadd, 1) := by decide +kernel
theorem dX2_addToHl_17 : decode cX2_addToHl 17 = .ok (.invokevirtual 50, 3) := by decide +kernel
theorem dX2_addToHl_20 : decode cX2_addToHl 20 = .ok (.pop, 1) := by decide +kernel
theorem dX2_addToHl_21 : decode cX2_addToHl 21 = .ok (.iload_n 2, 1) := by decide +kernel
theorem dX2_addToHl_22 : decode cX2_addToHl 22 = .ok (.sipush 4095, 3) := by decide +kernel
theorem dX2_addToHl_25 : decode cX2_addToHl 25 = .ok (.iand, 1) := by decide +kernel
theorem dX2_addToHl_26 : decode cX2_addToHl 26 = .ok (.iload_n 1, 1) := by decide +kernel
theorem dX2_addToHl_27 : decode cX2_addToHl 27 = .ok (.sipush 4095, 3) := by decide +kernel
theorem dX2_addToHl_30 : decode cX2_addToHl 30 = .ok (.iand, 1) := by decide +kernel
theorem dX2_addToHl_31 : decode cX2_addToHl 31 = .ok (.iadd, 1) := by decide +kernel
theorem dX2_addToHl_32 : decode cX2_addToHl 32 = .ok (.sipush 4095, 3) := by decide +kernel
theorem dX2_addToHl_35 : decode cX2_addToHl 35 = .ok (.if_icmp .le 7, 3) := by decide +kernel
theorem dX2_addToHl_38 : decode cX2_addToHl 38 = .ok (.iconst 1, 1) := by decide +kernel
theorem dX2_addToHl_39 : decode cX2_addToHl 39 = .ok (.goto 4, 3) := by decide +kernel
theorem dX2_addToHl_42 : decode cX2_addToHl 42 = .ok (.iconst 0, 1) := by decide +kernel
theorem dX2_addToHl_43 : decode cX2_addToHl 43 = .ok (.istore_n 3, 1) := by decide +kernel
theorem dX2_addToHl_44 : decode cX2_addToHl 44 = .ok (.aload_n 0, 1) := by decide +kernel
theorem dX2_addToHl_45 : decode cX2_addToHl 45 = .ok (.getfield 12, 3) := by decide +kernel
theorem dX2_addToHl_48 : decode cX2_addToHl 48 = .ok (.aload_n 0, 1) := by decide +kernel
theorem dX2_addToHl_49 : decode cX2_addToHl 49 = .ok (.getfield 12, 3) := by decide +kernel
theorem dX2_addToHl_52 : decode cX2_addToHl 52 = .ok (.sipush 128, 3) := by decide +kernel
theorem dX2_addToHl_55 : decode cX2_addToHl 55 = .ok (.invokevirtual 18, 3) := by decide +kernel
theorem dX2_addToHl_58 : decode cX2_addToHl 58 = .ok (.iconst 0, 1) := by decide +kernel
theorem dX2_addToHl_59 : decode cX2_addToHl 59 = .ok (.iload_n 3, 1) := by decide +kernel
theorem dX2_addToHl_60 : decode cX2_addToHl 60 = .ok (.iload_n 2, 1) := by decide +kernel
theorem dX2_addToHl_61 : decode cX2_addToHl 61 = .ok (.iload_n 1, 1) := by decide +kernel
theorem dX2_addToHl_62 : decode cX2_addToHl 62 = .ok (.iadd, 1) := by decide +kernel
theorem dX2_addToHl_63 : decode cX2_addToHl 63 = .ok (.ldc 54, 2) := by decide +kernel
theorem dX2_addToHl_65 : decode cX2_addToHl 65 = .ok (.if_icmp .le 7, 3) := by decide +kernel
theorem dX2_addToHl_68 : decode cX2_addToHl 68 = .ok (.iconst 1, 1) := by decide +kernel
theorem dX2_addToHl_69 : decode cX2_addToHl 69 = .ok (.goto 4, 3) := by decide +kernel
theorem dX2_addToHl_72 : decode cX2_addToHl 72 = .ok (.iconst 0, 1) := by decide +kernel
theorem dX2_addToHl_73 : decode cX2_addToHl 73 = .ok (.invokevirtual 42, 3) := by decide +kernel
theorem dX2_addToHl_76 : decode cX2_addToHl 76 = .ok (.return_, 1) := by decide +kernel
theorem dX2_spPlus_0 : decode cX2_spPlus 0 = .ok (.aload_n 0, 1) := by decide +kernel
theorem dX2_spPlus_1 : decode cX2_spPlus 1 = .ok (.getfield 12, 3) := by decide +kernel
theorem dX2_spPlus_4 : decode cX2_spPlus 4 = .ok (.iconst 4, 1) := by decide +kernel
theorem dX2_spPlus_5 : decode cX2_spPlus 5 = .ok (.invokevirtual 46, 3) := by decide +kernel
theorem dX2_spPlus_8 : decode cX2_spPlus 8 = .ok (.istore_n 2, 1) := by decide +kernel
theorem dX2_spPlus_9 : decode cX2_spPlus 9 = .ok (.aload_n 0, 1) := by decide +kernel
theorem dX2_spPlus_10 : decode cX2_spPlus 10 = .ok (.getfield 12, 3) := by decide +kernel
theorem dX2_spPlus_13 : decode cX2_spPlus 13 = .ok (.iconst 0, 1) := by decide +kernel
theorem dX2_spPlus_14 : decode cX2_spPlus 14 = .ok (.iconst 0, 1) := by decide +kernel
theorem dX2_spPlus_15 : decode cX2_spPlus 15 = .ok (.iload_n 2, 1) := by decide +kernel
theorem dX2_spPlus_16 : decode cX2_spPlus 16 = .ok (.bipush 15, 2) := by decide +kernel
theorem dX2_spPlus_18 : decode cX2_spPlus 18 = .ok (.iand, 1) := by decide +kernel
theorem dX2_spPlus_19 : decode cX2_spPlus 19 = .ok (.iload_n 1, 1) := by decide +kernel
theorem dX2_spPlus_20 : decode cX2_spPlus 20 = .ok (.bipush 15, 2) := by decide +kernel
theorem dX2_spPlus_22 : decode cX2_spPlus 22 = .ok (.iand, 1) := by decide +kernel
theorem dX2_spPlus_23 : decode cX2_spPlus 23 = .ok (.iadd, 1) := by decide +kernel
theorem dX2_spPlus_24 : decode cX2_spPlus 24 = .ok (.bipush 15, 2) := by decide +kernel
theorem dX2_spPlus_26 : decode cX2_spPlus 26 = .ok (.if_icmp .le 7, 3) := by decide +kernel
theorem dX2_spPlus_29 : decode cX2_spPlus 29 = .ok (.iconst 1, 1) := by decide +kernel
theorem dX2_spPlus_30 : decode cX2_spPlus 30 = .ok (.goto 4, 3) := by decide +kernel
theorem dX2_spPlus_33 : decode cX2_spPlus 33 = .ok (.iconst 0, 1) := by decide +kernel
theorem dX2_spPlus_34 : decode cX2_spPlus 34 = .ok (.iload_n 2, 1) := by decide +kernel
theorem dX2_spPlus_35 : decode cX2_spPlus 35 = .ok (.sipush 255, 3) := by decide +kernel
theorem dX2_spPlus_38 : decode cX2_spPlus 38 = .ok (.iand, 1) := by decide +kernel
theorem dX2_spPlus_39 : decode cX2_spPlus 39 = .ok (.iload_n 1, 1) := by decide +kernel
theorem dX2_spPlus_40 : decode cX2_spPlus 40 = .ok (.iadd, 1) := by decide +kernel
theorem dX2_spPlus_41 : decode cX2_spPlus 41 = .ok (.sipush 255, 3) := by decide +kernel
theorem dX2_spPlus_44 : decode cX2_spPlus 44 = .ok (.if_icmp .le 7, 3) := by decide +kernel
theorem dX2_spPlus_47 : decode cX2_spPlus 47 = .ok (.iconst 1, 1) := by decide +kernel
theorem dX2_spPlus_48 : decode cX2_spPlus 48 = .ok (.goto 4, 3) := by decide +kernel
theorem dX2_spPlus_51 : decode cX2_spPlus 51 = .ok (.iconst 0, 1) := by decide +kernel
theorem dX2_spPlus_52 : decode cX2_spPlus 52 = .ok (.invokevirtual 42, 3) := by decide +kernel
theorem dX2_spPlus_55 : decode cX2_spPlus 55 = .ok (.iload_n 2, 1) := by decide +kernel
theorem dX2_spPlus_56 : decode cX2_spPlus 56 = .ok (.iload_n 1, 1) := by decide +kernel
theorem dX2_spPlus_57 : decode cX2_spPlus 57 = .ok (.i2b, 1) := by decide +kernel
theorem dX2_spPlus_58 : decode cX2_spPlus 58 = .ok (.iadd, 1) := by decide +kernel
theorem dX2_spPlus_59 : decode cX2_spPlus 59 = .ok (.ireturn, 1) := by decide +kernel
theorem dX2_changeA_0 : decode cX2_changeA 0 = .ok (.aload_n 0, 1) := by decide +kernel
theorem dX2_changeA_1 : decode cX2_changeA 1 = .ok (.getfield 12, 3) := by decide +kernel
theorem dX2_changeA_4 : decode cX2_changeA 4 = .ok (.sipush 128, 3) := by decide +kernel
theorem dX2_changeA_7 : decode cX2_changeA 7 = .ok (.invokevirtual 18, 3) := by decide +kernel
theorem dX2_changeA_10 : decode cX2_changeA 10 = .ok (.istore_n 2, 1) := by decide +kernel
theorem dX2_changeA_11 : decode cX2_changeA 11 = .ok (.iload_n 1, 1) := by decide +kernel
theorem dX2_changeA_12 : decode cX2_changeA 12 = .ok (.tableswitch 121 4 7 #[32, 39, 77, 91], 32) := by decide +kernel
theorem dX2_changeA_44 : decode cX2_changeA 44 = .ok (.aload_n 0, 1) := by decide +kernel
theorem dX2_changeA_45 : decode cX2_changeA 45 = .ok (.invokevirtual 55, 3) := by decide +kernel
theorem dX2_changeA_48 : decode cX2_changeA 48 = .ok (.goto 123, 3) := by decide +kernel
theorem dX2_changeA_51 : decode cX2_changeA 51 = .ok (.aload_n 0, 1) := by decide +kernel
theorem dX2_changeA_52 : decode cX2_changeA 52 = .ok (.getfield 12, 3) := by decide +kernel
theorem dX2_changeA_55 : decode cX2_changeA 55 = .ok (.aload_n 0, 1) := by decide +kernel
theorem dX2_changeA_56 : decode cX2_changeA 56 = .ok (.getfield 12, 3) := by decide +kernel
theorem dX2_changeA_59 : decode cX2_changeA 59 = .ok (.invokevirtual 30, 3) := by decide +kernel
theorem dX2_changeA_62 : decode cX2_changeA 62 = .ok (.iconst (-1), 1) := by decide +kernel
theorem dX2_changeA_63 : decode cX2_changeA 63 = .ok (.ixor, 1) := by decide +kernel
theorem dX2_changeA_64 : decode cX2_changeA 64 = .ok (.invokevirtual 38, 3) := by decide +kernel
theorem dX2_changeA_67 : decode cX2_changeA 67 = .ok (.aload_n 0, 1) := by decide +kernel
theorem dX2_changeA_68 : decode cX2_changeA 68 = .ok (.getfield 12, 3) := by decide +kernel
theorem dX2_changeA_71 : decode cX2_changeA 71 = .ok (.iload_n 2, 1) := by decide +kernel
theorem dX2_changeA_72 : decode cX2_changeA 72 = .ok (.iconst 1, 1) := by decide +kernel
theorem dX2_changeA_73 : decode cX2_changeA 73 = .ok (.iconst 1, 1) := by decide +kernel
theorem dX2_changeA_74 : decode cX2_changeA 74 = .ok (.aload_n 0, 1) := by decide +kernel
theorem dX2_changeA_75 : decode cX2_changeA 75 = .ok (.getfield 12, 3) := by decide +kernel
theorem dX2_changeA_78 : decode cX2_changeA 78 = .ok (.bipush 16, 2) := by decide +kernel
theorem dX2_changeA_80 : decode cX2_changeA 80 = .ok (.invokevirtual 18, 3) := by decide +kernel
theorem dX2_changeA_83 : decode cX2_changeA 83 = .ok (.invokevirtual 42, 3) := by decide +kernel
theorem dX2_changeA_86 : decode cX2_changeA 86 = .ok (.goto 85, 3) := by decide +kernel
theorem dX2_changeA_89 : decode cX2_changeA 89 = .ok (.aload_n 0, 1) := by decide +kernel
theorem dX2_changeA_90 : decode cX2_changeA 90 = .ok (.getfield 12, 3) := by decide +kernel
theorem dX2_changeA_93 : decode cX2_changeA 93 = .ok (.iload_n 2, 1) := by decide +kernel
theorem dX2_changeA_94 : decode cX2_changeA 94 = .ok (.iconst 0, 1) := by decide +kernel
theorem dX2_changeA_95 : decode cX2_changeA 95 = .ok (.iconst 0, 1) := by decide +kernel
theorem dX2_changeA_96 : decode cX2_changeA 96 = .ok (.iconst 1, 1) := by decide +kernel
theorem dX2_changeA_97 : decode cX2_changeA 97 = .ok (.invokevirtual 42, 3) := by decide +kernel
theorem dX2_changeA_100 : decode cX2_changeA 100 = .ok (.goto 71, 3) := by decide +kernel
theorem dX2_changeA_103 : decode cX2_changeA 103 = .ok (.aload_n 0, 1) := by decide +kernel
theorem dX2_changeA_104 : decode cX2_changeA 104 = .ok (.getfield 12, 3) := by decide +kernel
theorem dX2_changeA_107 : decode cX2_changeA 107 = .ok (.iload_n 2, 1) := by decide +kernel
theorem dX2_changeA_108 : decode cX2_changeA 108 = .ok (.iconst 0, 1) := by decide +kernel
theorem dX2_changeA_109 : decode cX2_changeA 109 = .ok (.iconst 0, 1) := by decide +kernel
theorem dX2_changeA_110 : decode cX2_changeA 110 = .ok (.aload_n 0, 1) := by decide +kernel
theorem dX2_changeA_111 : decode cX2_changeA 111 = .ok (.getfield 12, 3) := by decide +kernel
theorem dX2_changeA_114 : decode cX2_changeA 114 = .ok (.bipush 16, 2) := by decide +kernel
theorem dX2_changeA_116 : decode cX2_changeA 116 = .ok (.invokevirtual 18, 3) := by decide +kernel
theorem dX2_changeA_119 : decode cX2_changeA 119 = .ok (.ifCond .ne 7, 3) := by decide +kernel
theorem dX2_changeA_122 : decode cX2_changeA 122 = .ok (.iconst 1, 1) := by decide +kernel
theorem dX2_changeA_123 : decode cX2_changeA 123 = .ok (.goto 4, 3) := by decide +kernel
theorem dX2_changeA_126 : decode cX2_changeA 126 = .ok (.iconst 0, 1) := by decide +kernel
theorem dX2_changeA_127 : decode cX2_changeA 127 = .ok (.invokevirtual 42, 3) := by decide +kernel
theorem dX2_changeA_130 : decode cX2_changeA 130 = .ok (.goto 41, 3) := by decide +kernel
theorem dX2_changeA_133 : decode cX2_changeA 133 = .ok (.aload_n 0, 1) := by decide +kernel
theorem dX2_changeA_134 : decode cX2_changeA 134 = .ok (.getfield 12, 3) := by decide +kernel
theorem dX2_changeA_137 : decode cX2_changeA 137 = .ok (.aload_n 0, 1) := by decide +kernel
theorem dX2_changeA_138 : decode cX2_changeA 138 = .ok (.iload_n 1, 1) := by decide +kernel
theorem dX2_changeA_139 : decode cX2_changeA 139 = .ok (.aload_n 0, 1) := by decide +kernel
theorem dX2_changeA_140 : decode cX2_changeA 140 = .ok (.getfield 12, 3) := by decide +kernel
theorem dX2_changeA_143 : decode cX2_changeA 143 = .ok (.invokevirtual 30, 3) := by decide +kernel
theorem dX2_changeA_146 : decode cX2_changeA 146 = .ok (.invokevirtual 58, 3) := by decide +kernel
theorem dX2_changeA_149 : decode cX2_changeA 149 = .ok (.invokevirtual 38, 3) := by decide +kernel
theorem dX2_changeA_152 : decode cX2_changeA 152 = .ok (.aload_n 0, 1) := by decide +kernel
theorem dX2_changeA_153 : decode cX2_changeA 153 = .ok (.getfield 12, 3) := by decide +kernel
theorem dX2_changeA_156 : decode cX2_changeA 156 = .ok (.iconst 0, 1) := by decide +kernel
theorem dX2_changeA_157 : decode cX2_changeA 157 = .ok (.iconst 0, 1) := by decide +kernel
theorem dX2_changeA_158 : decode cX2_changeA 158 = .ok (.iconst 0, 1) := by decide +kernel
theorem dX2_changeA_159 : decode cX2_changeA 159 = .ok (.aload_n 0, 1) := by decide +kernel
theorem dX2_changeA_160 : decode cX2_changeA 160 = .ok (.getfield 12, 3) := by decide +kernel
theorem dX2_changeA_163 : decode cX2_changeA 163 = .ok (.bipush 16, 2) := by decide +kernel
theorem dX2_changeA_165 : decode cX2_changeA 165 = .ok (.invokevirtual 18, 3) := by decide +kernel
theorem dX2_changeA_168 : decode cX2_changeA 168 = .ok (.invokevirtual 42, 3) := by decide +kernel
theorem dX2_changeA_171 : decode cX2_changeA 171 = .ok (.return_, 1) := by decide +kernel
theorem dX2_adjustDecimal_0 : decode cX2_adjustDecimal 0 = .ok (.aload_n 0, 1) := by decide +kernel
theorem dX2_adjustDecimal_1 : decode cX2_adjustDecimal 1 = .ok (.getfield 12, 3) := by decide +kernel
theorem dX2_adjustDecimal_4 : decode cX2_adjustDecimal 4 = .ok (.invokevirtual 30, 3) := by decide +kernel
theorem dX2_adjustDecimal_7 : decode cX2_adjustDecimal 7 = .ok (.istore_n 1, 1) := by decide +kernel
theorem dX2_adjustDecimal_8 : decode cX2_adjustDecimal 8 = .ok (.aload_n 0, 1) := by decide +kernel
theorem dX2_adjustDecimal_9 : decode cX2_adjustDecimal 9 = .ok (.getfield 12, 3) := by decide +kernel
theorem dX2_adjustDecimal_12 : decode cX2_adjustDecimal 12 = .ok (.bipush 64, 2) := by decide +kernel
theorem dX2_adjustDecimal_14 : decode cX2_adjustDecimal 14 = .ok (.invokevirtual 18, 3) := by decide +kernel
theorem dX2_adjustDecimal_17 : decode cX2_adjustDecimal 17 = .ok (.istore_n 2, 1) := by decide +kernel
theorem dX2_adjustDecimal_18 : decode cX2_adjustDecimal 18 = .ok (.aload_n 0, 1) := by decide +kernel
theorem dX2_adjustDecimal_19 : decode cX2_adjustDecimal 19 = .ok (.getfield 12, 3) := by decide +kernel
theorem dX2_adjustDecimal_22 : decode cX2_adjustDecimal 22 = .ok (.bipush 32, 2) := by decide +kernel
theorem dX2_adjustDecimal_24 : decode cX2_adjustDecimal 24 = .ok (.invokevirtual 18, 3) := by decide +kernel
theorem dX2_adjustDecimal_27 : decode cX2_adjustDecimal 27 = .ok (.ifCond .ne 16, 3) := by decide +kernel
theorem dX2_adjustDecimal_30 : decode cX2_adjustDecimal 30 = .ok (.iload_n 2, 1) := by decide +kernel
theorem dX2_adjustDecimal_31 : decode cX2_adjustDecimal 31 = .ok (.ifCond .ne 16, 3) := by decide +kernel
theorem dX2_adjustDecimal_34 : decode cX2_adjustDecimal 34 = .ok (.iload_n 1, 1) := by decide +kernel
theorem dX2_adjustDecimal_35 : decode cX2_adjustDecimal 35 = .ok (.bipush 15, 2) := by decide +kernel
theorem dX2_adjustDecimal_37 : decode cX2_adjustDecimal 37 = .ok (.iand, 1) := by decide +kernel
theorem dX2_adjustDecimal_38 : decode cX2_adjustDecimal 38 = .ok (.bipush 9, 2) := by decide +kernel
theorem dX2_adjustDecimal_40 : decode cX2_adjustDecimal 40 = .ok (.if_icmp .le 7, 3) := by decide +kernel
theorem dX2_adjustDecimal_43 : decode cX2_adjustDecimal 43 = .ok (.iconst 1, 1) := by decide +kernel
theorem dX2_adjustDecimal_44 : decode cX2_adjustDecimal 44 = .ok (.goto 4, 3) := by decide +kernel
theorem dX2_adjustDecimal_47 : decode cX2_adjustDecimal 47 = .ok (.iconst 0, 1) := by decide +kernel
theorem dX2_adjustDecimal_48 : decode cX2_adjustDecimal 48 = .ok (.istore_n 3, 1) := by decide +kernel
theorem dX2_adjustDecimal_49 : decode cX2_adjustDecimal 49 = .ok (.aload_n 0, 1) := by decide +kernel
theorem dX2_adjustDecimal_50 : decode cX2_adjustDecimal 50 = .ok (.getfield 12, 3) := by decide +kernel
theorem dX2_adjustDecimal_53 : decode cX2_adjustDecimal 53 = .ok (.bipush 16, 2) := by decide +kernel
theorem dX2_adjustDecimal_55 : decode cX2_adjustDecimal 55 = .ok (.invokevirtual 18, 3) := by decide +kernel
theorem dX2_adjustDecimal_58 : decode cX2_adjustDecimal 58 = .ok (.ifCond .ne 14, 3) := by decide +kernel
theorem dX2_adjustDecimal_61 : decode cX2_adjustDecimal 61 = .ok (.iload_n 2, 1) := by decide +kernel
theorem dX2_adjustDecimal_62 : decode cX2_adjustDecimal 62 = .ok (.ifCond .ne 14, 3) := by decide +kernel
theorem dX2_adjustDecimal_65 : decode cX2_adjustDecimal 65 = .ok (.iload_n 1, 1) := by decide +kernel
theorem dX2_adjustDecimal_66 : decode cX2_adjustDecimal 66 = .ok (.sipush 153, 3) := by decide +kernel
theorem dX2_adjustDecimal_69 : decode cX2_adjustDecimal 69 = .ok (.if_icmp .le 7, 3) := by decide +kernel
theorem dX2_adjustDecimal_72 : decode cX2_adjustDecimal 72 = .ok (.iconst 1, 1) := by decide +kernel
theorem dX2_adjustDecimal_73 : decode cX2_adjustDecimal 73 = .ok (.goto 4, 3) := by decide +kernel
theorem dX2_adjustDecimal_76 : decode cX2_adjustDecimal 76 = .ok (.iconst 0, 1) := by decide +kernel
theorem dX2_adjustDecimal_77 : decode cX2_adjustDecimal 77 = .ok (.istore 4, 2) := by decide +kernel
theorem dX2_adjustDecimal_79 : decode cX2_adjustDecimal 79 = .ok (.iload_n 3, 1) := by decide +kernel
theorem dX2_adjustDecimal_80 : decode cX2_adjustDecimal 80 = .ok (.ifCond .eq 8, 3) := by decide +kernel
theorem dX2_adjustDecimal_83 : decode cX2_adjustDecimal 83 = .ok (.bipush 6, 2) := by decide +kernel
theorem dX2_adjustDecimal_85 : decode cX2_adjustDecimal 85 = .ok (.goto 4, 3) := by decide +kernel
theorem dX2_adjustDecimal_88 : decode cX2_adjustDecimal 88 = .ok (.iconst 0, 1) := by decide +kernel
theorem dX2_adjustDecimal_89 : decode cX2_adjustDecimal 89 = .ok (.iload 4, 2) := by decide +kernel
theorem dX2_adjustDecimal_91 : decode cX2_adjustDecimal 91 = .ok (.ifCond .eq 8, 3) := by decide +kernel
theorem dX2_adjustDecimal_94 : decode cX2_adjustDecimal 94 = .ok (.bipush 96, 2) := by decide +kernel
theorem dX2_adjustDecimal_96 : decode cX2_adjustDecimal 96 = .ok (.goto 4, 3) := by decide +kernel
theorem dX2_adjustDecimal_99 : decode cX2_adjustDecimal 99 = .ok (.iconst 0, 1) := by decide +kernel
theorem dX2_adjustDecimal_100 : decode cX2_adjustDecimal 100 = .ok (.iadd, 1) := by decide +kernel
theorem dX2_adjustDecimal_101 : decode cX2_adjustDecimal 101 = .ok (.istore 5, 2) := by decide +kernel
theorem dX2_adjustDecimal_103 : decode cX2_adjustDecimal 103 = .ok (.aload_n 0, 1) := by decide +kernel
theorem dX2_adjustDecimal_104 : decode cX2_adjustDecimal 104 = .ok (.getfield 12, 3) := by decide +kernel
theorem dX2_adjustDecimal_107 : decode cX2_adjustDecimal 107 = .ok (.iload_n 2, 1) := by decide +kernel
theorem dX2_adjustDecimal_108 : decode cX2_adjustDecimal 108 = .ok (.ifCond .eq 10, 3) := by decide +kernel
theorem dX2_adjustDecimal_111 : decode cX2_adjustDecimal 111 = .ok (.iload_n 1, 1) := by decide +kernel
theorem dX2_adjustDecimal_112 : decode cX2_adjustDecimal 112 = .ok (.iload 5, 2) := by decide +kernel
theorem dX2_adjustDecimal_114 : decode cX2_adjustDecimal 114 = .ok (.isub, 1) := by decide +kernel
theorem dX2_adjustDecimal_115 : decode cX2_adjustDecimal 115 = .ok (.goto 7, 3) := by decide +kernel
theorem dX2_adjustDecimal_118 : decode cX2_adjustDecimal 118 = .ok (.iload_n 1, 1) := by decide +kernel
theorem dX2_adjustDecimal_119 : decode cX2_adjustDecimal 119 = .ok (.iload 5, 2) := by decide +kernel
theorem dX2_adjustDecimal_121 : decode cX2_adjustDecimal 121 = .ok (.iadd, 1) := by decide +kernel
theorem dX2_adjustDecimal_122 : decode cX2_adjustDecimal 122 = .ok (.invokevirtual 38, 3) := by decide +kernel
theorem dX2_adjustDecimal_125 : decode cX2_adjustDecimal 125 = .ok (.aload_n 0, 1) := by decide +kernel
theorem dX2_adjustDecimal_126 : decode cX2_adjustDecimal 126 = .ok (.getfield 12, 3) := by decide +kernel
theorem dX2_adjustDecimal_129 : decode cX2_adjustDecimal 129 = .ok (.aload_n 0, 1) := by decide +kernel
theorem dX2_adjustDecimal_130 : decode cX2_adjustDecimal 130 = .ok (.getfield 12, 3) := by decide +kernel
theorem dX2_adjustDecimal_133 : decode cX2_adjustDecimal 133 = .ok (.invokevirtual 30, 3) := by decide +kernel
theorem dX2_adjustDecimal_136 : decode cX2_adjustDecimal 136 = .ok (.ifCond .ne 7, 3) := by decide +kernel
theorem dX2_adjustDecimal_139 : decode cX2_adjustDecimal 139 = .ok (.iconst 1, 1) := by decide +kernel
theorem dX2_adjustDecimal_140 : decode cX2_adjustDecimal 140 = .ok (.goto 4, 3) := by decide +kernel
theorem dX2_adjustDecimal_143 : decode cX2_adjustDecimal 143 = .ok (.iconst 0, 1) := by decide +kernel
theorem dX2_adjustDecimal_144 : decode cX2_adjustDecimal 144 = .ok (.iload_n 2, 1) := by decide +kernel
theorem dX2_adjustDecimal_145 : decode cX2_adjustDecimal 145 = .ok (.iconst 0, 1) := by decide +kernel
theorem dX2_adjustDecimal_146 : decode cX2_adjustDecimal 146 = .ok (.iload 4, 2) := by decide +kernel
theorem dX2_adjustDecimal_148 : decode cX2_adjustDecimal 148 = .ok (.invokevirtual 42, 3) := by decide +kernel
theorem dX2_adjustDecimal_151 : decode cX2_adjustDecimal 151 = .ok (.return_, 1) := by decide +kernel
theorem dX2_shift_0 : decode cX2_shift 0 = .ok (.aload_n 0, 1) := by decide +kernel
theorem dX2_shift_1 : decode cX2_shift 1 = .ok (.getfield 12, 3) := by decide +kernel
theorem dX2_shift_4 : decode cX2_shift 4 = .ok (.bipush 16, 2) := by decide +kernel
theorem dX2_shift_6 : decode cX2_shift 6 = .ok (.invokevirtual 18, 3) := by decide +kernel
theorem dX2_shift_9 : decode cX2_shift 9 = .ok (.ifCond .eq 7, 3) := by decide +kernel
theorem dX2_shift_12 : decode cX2_shift 12 = .ok (.iconst 1, 1) := by decide +kernel
theorem dX2_shift_13 : decode cX2_shift 13 = .ok (.goto 4, 3) := by decide +kernel
theorem dX2_shift_16 : decode cX2_shift 16 = .ok (.iconst 0, 1) := by decide +kernel
theorem dX2_shift_17 : decode cX2_shift 17 = .ok (.istore_n 3, 1) := by decide +kernel
theorem dX2_shift_18 : decode cX2_shift 18 = .ok (.iload_n 1, 1) := by decide +kernel
theorem dX2_shift_19 : decode cX2_shift 19 = .ok (.tableswitch 124 0 6 #[41, 54, 67, 77, 90, 98, 112], 41) := by decide +kernel
theorem dX2_shift_60 : decode cX2_shift 60 = .ok (.iload_n 2, 1) := by decide +kernel
theorem dX2_shift_61 : decode cX2_shift 61 = .ok (.iconst 1, 1) := by decide +kernel
theorem dX2_shift_62 : decode cX2_shift 62 = .ok (.ishl, 1) := by decide +kernel
theorem dX2_shift_63 : decode cX2_shift 63 = .ok (.iload_n 2, 1) := by decide +kernel
theorem dX2_shift_64 : decode cX2_shift 64 = .ok (.bipush 7, 2) := by decide +kernel
theorem dX2_shift_66 : decode cX2_shift 66 = .ok (.ishr, 1) := by decide +kernel
theorem dX2_shift_67 : decode cX2_shift 67 = .ok (.ior, 1) := by decide +kernel
theorem dX2_shift_68 : decode cX2_shift 68 = .ok (.istore 4, 2) := by decide +kernel
theorem dX2_shift_70 : decode cX2_shift 70 = .ok (.goto 78, 3) := by decide +kernel
theorem dX2_shift_73 : decode cX2_shift 73 = .ok (.iload_n 2, 1) := by decide +kernel
theorem dX2_shift_74 : decode cX2_shift 74 = .ok (.iconst 1, 1) := by decide +kernel
theorem dX2_shift_75 : decode cX2_shift 75 = .ok (.ishr, 1) := by decide +kernel
theorem dX2_shift_76 : decode cX2_shift 76 = .ok (.iload_n 2, 1) := by decide +kernel
theorem dX2_shift_77 : decode cX2_shift 77 = .ok (.bipush 7, 2) := by decide +kernel
theorem dX2_shift_79 : decode cX2_shift 79 = .ok (.ishl, 1) := by decide +kernel
theorem dX2_shift_80 : decode cX2_shift 80 = .ok (.ior, 1) := by decide +kernel
theorem dX2_shift_81 : decode cX2_shift 81 = .ok (.istore 4, 2) := by decide +kernel
theorem dX2_shift_83 : decode cX2_shift 83 = .ok (.goto 65, 3) := by decide +kernel
theorem dX2_shift_86 : decode cX2_shift 86 = .ok (.iload_n 2, 1) := by decide +kernel
theorem dX2_shift_87 : decode cX2_shift 87 = .ok (.iconst 1, 1) := by decide +kernel
theorem dX2_shift_88 : decode cX2_shift 88 = .ok (.ishl, 1) := by decide +kernel
theorem dX2_shift_89 : decode cX2_shift 89 = .ok (.iload_n 3, 1) := by decide +kernel
theorem dX2_shift_90 : decode cX2_shift 90 = .ok (.ior, 1) := by decide +kernel
theorem dX2_shift_91 : decode cX2_shift 91 = .ok (.istore 4, 2) := by decide +kernel
theorem dX2_shift_93 : decode cX2_shift 93 = .ok (.goto 55, 3) := by decide +kernel
theorem dX2_shift_96 : decode cX2_shift 96 = .ok (.iload_n 2, 1) := by decide +kernel
theorem dX2_shift_97 : decode cX2_shift 97 = .ok (.iconst 1, 1) := by decide +kernel
theorem dX2_shift_98 : decode cX2_shift 98 = .ok (.ishr, 1) := by decide +kernel
theorem dX2_shift_99 : decode cX2_shift 99 = .ok (.iload_n 3, 1) := by decide +kernel
theorem dX2_shift_100 : decode cX2_shift 100 = .ok (.bipush 7, 2) := by decide +kernel
theorem dX2_shift_102 : decode cX2_shift 102 = .ok (.ishl, 1) := by decide +kernel
theorem dX2_shift_103 : decode cX2_shift 103 = .ok (.ior, 1) := by decide +kernel
theorem dX2_shift_104 : decode cX2_shift 104 = .ok (.istore 4, 2) := by decide +kernel
theorem dX2_shift_106 : decode cX2_shift 106 = .ok (.goto 42, 3) := by decide +kernel
theorem dX2_shift_109 : decode cX2_shift 109 = .ok (.iload_n 2, 1) := by decide +kernel
theorem dX2_shift_110 : decode cX2_shift 110 = .ok (.iconst 1, 1) := by decide +kernel
theorem dX2_shift_111 : decode cX2_shift 111 = .ok (.ishl, 1) := by decide +kernel
theorem dX2_shift_112 : decode cX2_shift 112 = .ok (.istore 4, 2) := by decide +kernel
theorem dX2_shift_114 : decode cX2_shift 114 = .ok (.goto 34, 3) := by decide +kernel
theorem dX2_shift_117 : decode cX2_shift 117 = .ok (.iload_n 2, 1) := by decide +kernel
theorem dX2_shift_118 : decode cX2_shift 118 = .ok (.iconst 1, 1) := by decide +kernel
theorem dX2_shift_119 : decode cX2_shift 119 = .ok (.ishr, 1) := by decide +kernel
theorem dX2_shift_120 : decode cX2_shift 120 = .ok (.iload_n 2, 1) := by decide +kernel
theorem dX2_shift_121 : decode cX2_shift 121 = .ok (.sipush 128, 3) := by decide +kernel
theorem dX2_shift_124 : decode cX2_shift 124 = .ok (.iand, 1) := by decide +kernel
theorem dX2_shift_125 : decode cX2_shift 125 = .ok (.ior, 1) := by decide +kernel
theorem dX2_shift_126 : decode cX2_shift 126 = .ok (.istore 4, 2) := by decide +kernel
theorem dX2_shift_128 : decode cX2_shift 128 = .ok (.goto 20, 3) := by decide +kernel
theorem dX2_shift_131 : decode cX2_shift 131 = .ok (.iload_n 2, 1) := by decide +kernel
theorem dX2_shift_132 : decode cX2_shift 132 = .ok (.iconst 4, 1) := by decide +kernel
theorem dX2_shift_133 : decode cX2_shift 133 = .ok (.ishl, 1) := by decide +kernel
theorem dX2_shift_134 : decode cX2_shift 134 = .ok (.iload_n 2, 1) := by decide +kernel
theorem dX2_shift_135 : decode cX2_shift 135 = .ok (.iconst 4, 1) := by decide +kernel
theorem dX2_shift_136 : decode cX2_shift 136 = .ok (.ishr, 1) := by decide +kernel
theorem dX2_shift_137 : decode cX2_shift 137 = .ok (.ior, 1) := by decide +kernel
theorem dX2_shift_138 : decode cX2_shift 138 = .ok (.istore 4, 2) := by decide +kernel
theorem dX2_shift_140 : decode cX2_shift 140 = .ok (.goto 8, 3) := by decide +kernel
theorem dX2_shift_143 : decode cX2_shift 143 = .ok (.iload_n 2, 1) := by decide +kernel
theorem dX2_shift_144 : decode cX2_shift 144 = .ok (.iconst 1, 1) := by decide +kernel
theorem dX2_shift_145 : decode cX2_shift 145 = .ok (.ishr, 1) := by decide +kernel
theorem dX2_shift_146 : decode cX2_shift 146 = .ok (.istore 4, 2) := by decide +kernel
theorem dX2_shift_148 : decode cX2_shift 148 = .ok (.iload 4, 2) := by decide +kernel
theorem dX2_shift_150 : decode cX2_shift 150 = .ok (.sipush 255, 3) := by decide +kernel
theorem dX2_shift_153 : decode cX2_shift 153 = .ok (.iand, 1) := by decide +kernel
theorem dX2_shift_154 : decode cX2_shift 154 = .ok (.istore 4, 2) := by decide +kernel
theorem dX2_shift_156 : decode cX2_shift 156 = .ok (.aload_n 0, 1) := by decide +kernel
theorem dX2_shift_157 : decode cX2_shift 157 = .ok (.getfield 12, 3) := by decide +kernel
theorem dX2_shift_160 : decode cX2_shift 160 = .ok (.iload 4, 2) := by decide +kernel
theorem dX2_shift_162 : decode cX2_shift 162 = .ok (.ifCond .ne 7, 3) := by decide +kernel
theorem dX2_shift_165 : decode cX2_shift 165 = .ok (.iconst 1, 1) := by decide +kernel
theorem dX2_shift_166 : decode cX2_shift 166 = .ok (.goto 4, 3) := by decide +kernel
theorem dX2_shift_169 : decode cX2_shift 169 = .ok (.iconst 0, 1) := by decide +kernel
theorem dX2_shift_170 : decode cX2_shift 170 = .ok (.iconst 0, 1) := by decide +kernel
theorem dX2_shift_171 : decode cX2_shift 171 = .ok (.iconst 0, 1) := by decide +kernel
theorem dX2_shift_172 : decode cX2_shift 172 = .ok (.iload_n 1, 1) := by decide +kernel
theorem dX2_shift_173 : decode cX2_shift 173 = .ok (.iload_n 2, 1) := by decide +kernel
theorem dX2_shift_174 : decode cX2_shift 174 = .ok (.invokestatic 62, 3) := by decide +kernel
theorem dX2_shift_177 : decode cX2_shift 177 = .ok (.invokevirtual 42, 3) := by decide +kernel
theorem dX2_shift_180 : decode cX2_shift 180 = .ok (.iload 4, 2) := by decide +kernel
theorem dX2_shift_182 : decode cX2_shift 182 = .ok (.ireturn, 1) := by decide +kernel
theorem dX2_carryOfShift_0 : decode cX2_carryOfShift 0 = .ok (.iload_n 0, 1) := by decide +kernel
theorem dX2_carryOfShift_1 : decode cX2_carryOfShift 1 = .ok (.bipush 6, 2) := by decide +kernel
theorem dX2_carryOfShift_3 : decode cX2_carryOfShift 3 = .ok (.if_icmp .ne 5, 3) := by decide +kernel
theorem dX2_carryOfShift_6 : decode cX2_carryOfShift 6 = .ok (.iconst 0, 1) := by decide +kernel
theorem dX2_carryOfShift_7 : decode cX2_carryOfShift 7 = .ok (.ireturn, 1) := by decide +kernel
theorem dX2_carryOfShift_8 : decode cX2_carryOfShift 8 = .ok (.iload_n 1, 1) := by decide +kernel
theorem dX2_carryOfShift_9 : decode cX2_carryOfShift 9 = .ok (.iload_n 0, 1) := by decide +kernel
theorem dX2_carryOfShift_10 : decode cX2_carryOfShift 10 = .ok (.iconst 1, 1) := by decide +kernel
theorem dX2_carryOfShift_11 : decode cX2_carryOfShift 11 = .ok (.iand, 1) := by decide +kernel
theorem dX2_carryOfShift_12 : decode cX2_carryOfShift 12 = .ok (.ifCond .ne 9, 3) := by decide +kernel
theorem dX2_carryOfShift_15 : decode cX2_carryOfShift 15 = .ok (.sipush 128, 3) := by decide +kernel
theorem dX2_carryOfShift_18 : decode cX2_carryOfShift 18 = .ok (.goto 4, 3) := by decide +kernel
theorem dX2_carryOfShift_21 : decode cX2_carryOfShift 21 = .ok (.iconst 1, 1) := by decide +kernel
theorem dX2_carryOfShift_22 : decode cX2_carryOfShift 22 = .ok (.iand, 1) := by decide +kernel
theorem dX2_carryOfShift_23 : decode cX2_carryOfShift 23 = .ok (.ifCond .eq 7, 3) := by decide +kernel
theorem dX2_carryOfShift_26 : decode cX2_carryOfShift 26 = .ok (.iconst 1, 1) := by decide +kernel
theorem dX2_carryOfShift_27 : decode cX2_carryOfShift 27 = .ok (.goto 4, 3) := by decide +kernel
theorem dX2_carryOfShift_30 : decode cX2_carryOfShift 30 = .ok (.iconst 0, 1) := by decide +kernel
theorem dX2_carryOfShift_31 : decode cX2_carryOfShift 31 = .ok (.ireturn, 1) := by decide +kernel
theorem dX2_testBit_0 : decode cX2_testBit 0 = .ok (.aload_n 0, 1) := by decide +kernel
theorem dX2_testBit_1 : decode cX2_testBit 1 = .ok (.getfield 12, 3) := by decide +kernel
theorem dX2_testBit_4 : decode cX2_testBit 4 = .ok (.iload_n 2, 1) := by decide +kernel
theorem dX2_testBit_5 : decode cX2_testBit 5 = .ok (.iload_n 1, 1) := by decide +kernel
theorem dX2_testBit_6 : decode cX2_testBit 6 = .ok (.ishr, 1) := by decide +kernel
theorem dX2_testBit_7 : decode cX2_testBit 7 = .ok (.iconst 1, 1) := by decide +kernel
theorem dX2_testBit_8 : decode cX2_testBit 8 = .ok (.iand, 1) := by decide +kernel
theorem dX2_testBit_9 : decode cX2_testBit 9 = .ok (.ifCond .ne 7, 3) := by decide +kernel
theorem dX2_testBit_12 : decode cX2_testBit 12 = .ok (.iconst 1, 1) := by decide +kernel
theorem dX2_testBit_13 : decode cX2_testBit 13 = .ok (.goto 4, 3) := by decide +kernel
theorem dX2_testBit_16 : decode cX2_testBit 16 = .ok (.iconst 0, 1) := by decide +kernel
theorem dX2_testBit_17 : decode cX2_testBit 17 = .ok (.iconst 0, 1) := by decide +kernel
theorem dX2_testBit_18 : decode cX2_testBit 18 = .ok (.iconst 1, 1) := by decide +kernel
theorem dX2_testBit_19 : decode cX2_testBit 19 = .ok (.aload_n 0, 1) := by decide +kernel
theorem dX2_testBit_20 : decode cX2_testBit 20 = .ok (.getfield 12, 3) := by decide +kernel
theorem dX2_testBit_23 : decode cX2_testBit 23 = .ok (.bipush 16, 2) := by decide +kernel
theorem dX2_testBit_25 : decode cX2_testBit 25 = .ok (.invokevirtual 18, 3) := by decide +kernel
theorem dX2_testBit_28 : decode cX2_testBit 28 = .ok (.invokevirtual 42, 3) := by decide +kernel
theorem dX2_testBit_31 : decode cX2_testBit 31 = .ok (.return_, 1) := by decide +kernel
theorem dX3_init_0 : decode cX3_init 0 = .ok (.aload_n 0, 1) := by decide +kernel
theorem dX3_init_1 : decode cX3_init 1 = .ok (.invokespecial 1, 3) := by decide +kernel
theorem dX3_init_4 : decode cX3_init 4 = .ok (.aload_n 0, 1) := by decide +kernel
theorem dX3_init_5 : decode cX3_init 5 = .ok (.new 7, 3) := by decide +kernel
theorem dX3_init_8 : decode cX3_init 8 = .ok (.dup, 1) := by decide +kernel
theorem dX3_init_9 : decode cX3_init 9 = .ok (.invokespecial 9, 3) := by decide +kernel
theorem dX3_init_12 : decode cX3_init 12 = .ok (.putfield 10, 3) := by decide +kernel
theorem dX3_init_15 : decode cX3_init 15 = .ok (.aload_n 0, 1) := by decide +kernel
theorem dX3_init_16 : decode cX3_init 16 = .ok (.new 16, 3) := by decide +kernel
theorem dX3_init_19 : decode cX3_init 19 = .ok (.dup, 1) := by decide +kernel
theorem dX3_init_20 : decode cX3_init 20 = .ok (.invokespecial 18, 3) := by decide +kernel
theorem dX3_init_23 : decode cX3_init 23 = .ok (.putfield 19, 3) := by decide +kernel
theorem dX3_init_26 : decode cX3_init 26 = .ok (.aload_n 0, 1) := by decide +kernel
theorem dX3_init_27 : decode cX3_init 27 = .ok (.aload_n 0, 1) := by decide +kernel
theorem dX3_init_28 : decode cX3_init 28 = .ok (.getfield 19, 3) := by decide +kernel
theorem dX3_init_31 : decode cX3_init 31 = .ok (.getfield 23, 3) := by decide +kernel
theorem dX3_init_34 : decode cX3_init 34 = .ok (.putfield 27, 3) := by decide +kernel
theorem dX3_init_37 : decode cX3_init 37 = .ok (.return_, 1) := by decide +kernel
theorem dX3_poke_0 : decode cX3_poke 0 = .ok (.iload_n 1, 1) := by decide +kernel
theorem dX3_poke_1 : decode cX3_poke 1 = .ok (.ifCond .lt 9, 3) := by decide +kernel
theorem dX3_poke_4 : decode cX3_poke 4 = .ok (.iload_n 1, 1) := by decide +kernel
theorem dX3_poke_5 : decode cX3_poke 5 = .ok (.ldc 28, 2) := by decide +kernel
theorem dX3_poke_7 : decode cX3_poke 7 = .ok (.if_icmp .le 5, 3) := by decide +kernel
theorem dX3_poke_10 : decode cX3_poke 10 = .ok (.iconst 0, 1) := by decide +kernel
theorem dX3_poke_11 : decode cX3_poke 11 = .ok (.ireturn, 1) := by decide +kernel
theorem dX3_poke_12 : decode cX3_poke 12 = .ok (.aload_n 0, 1) := by decide +kernel
theorem dX3_poke_13 : decode cX3_poke 13 = .ok (.getfield 10, 3) := by decide +kernel
theorem dX3_poke_16 : decode cX3_poke 16 = .ok (.iload_n 1, 1) := by decide +kernel
theorem dX3_poke_17 : decode cX3_poke 17 = .ok (.iload_n 2, 1) := by decide +kernel
theorem dX3_poke_18 : decode cX3_poke 18 = .ok (.invokevirtual 29, 3) := by decide +kernel
theorem dX3_poke_21 : decode cX3_poke 21 = .ok (.iconst 1, 1) := by decide +kernel
theorem dX3_poke_22 : decode cX3_poke 22 = .ok (.ireturn, 1) := by decide +kernel
theorem dX3_feed_0 : decode cX3_feed 0 = .ok (.iload_n 1, 1) := by decide +kernel
theorem dX3_feed_1 : decode cX3_feed 1 = .ok (.ifCond .lt 9, 3) := by decide +kernel
theorem dX3_feed_4 : decode cX3_feed 4 = .ok (.iload_n 1, 1) := by decide +kernel
theorem dX3_feed_5 : decode cX3_feed 5 = .ok (.ldc 33, 2) := by decide +kernel
theorem dX3_feed_7 : decode cX3_feed 7 = .ok (.if_icmp .le 5, 3) := by decide +kernel
theorem dX3_feed_10 : decode cX3_feed 10 = .ok (.iconst 0, 1) := by decide +kernel
theorem dX3_feed_11 : decode cX3_feed 11 = .ok (.ireturn, 1) := by decide +kernel
theorem dX3_feed_12 : decode cX3_feed 12 = .ok (.aload_n 0, 1) := by decide +kernel
theorem dX3_feed_13 : decode cX3_feed 13 = .ok (.getfield 10, 3) := by decide +kernel
theorem dX3_feed_16 : decode cX3_feed 16 = .ok (.iload_n 1, 1) := by decide +kernel
theorem dX3_feed_17 : decode cX3_feed 17 = .ok (.iload_n 2, 1) := by decide +kernel
theorem dX3_feed_18 : decode cX3_feed 18 = .ok (.invokevirtual 34, 3) := by decide +kernel
theorem dX3_feed_21 : decode cX3_feed 21 = .ok (.aload_n 0, 1) := by decide +kernel
theorem dX3_feed_22 : decode cX3_feed 22 = .ok (.getfield 10, 3) := by decide +kernel
theorem dX3_feed_25 : decode cX3_feed 25 = .ok (.iload_n 1, 1) := by decide +kernel
theorem dX3_feed_26 : decode cX3_feed 26 = .ok (.iconst 4, 1) := by decide +kernel
theorem dX3_feed_27 : decode cX3_feed 27 = .ok (.iadd, 1) := by decide +kernel
theorem dX3_feed_28 : decode cX3_feed 28 = .ok (.iload_n 3, 1) := by decide +kernel
theorem dX3_feed_29 : decode cX3_feed 29 = .ok (.invokevirtual 34, 3) := by decide +kernel
theorem dX3_feed_32 : decode cX3_feed 32 = .ok (.aload_n 0, 1) := by decide +kernel
theorem dX3_feed_33 : decode cX3_feed 33 = .ok (.getfield 10, 3) := by decide +kernel
theorem dX3_feed_36 : decode cX3_feed 36 = .ok (.iload_n 1, 1) := by decide +kernel
theorem dX3_feed_37 : decode cX3_feed 37 = .ok (.bipush 8, 2) := by decide +kernel
theorem dX3_feed_39 : decode cX3_feed 39 = .ok (.iadd, 1) := by decide +kernel
theorem dX3_feed_40 : decode cX3_feed 40 = .ok (.iload 4, 2) := by decide +kernel
theorem dX3_feed_42 : decode cX3_feed 42 = .ok (.invokevirtual 34, 3) := by decide +kernel
theorem dX3_feed_45 : decode cX3_feed 45 = .ok (.aload_n 0, 1) := by decide +kernel
theorem dX3_feed_46 : decode cX3_feed 46 = .ok (.getfield 10, 3) := by decide +kernel
theorem dX3_feed_49 : decode cX3_feed 49 = .ok (.iload_n 1, 1) := by decide +kernel
theorem dX3_feed_50 : decode cX3_feed 50 = .ok (.bipush 12, 2) := by decide +kernel
theorem dX3_feed_52 : decode cX3_feed 52 = .ok (.iadd, 1) := by decide +kernel
theorem dX3_feed_53 : decode cX3_feed 53 = .ok (.iload 5, 2) := by decide +kernel
theorem dX3_feed_55 : decode cX3_feed 55 = .ok (.invokevirtual 34, 3) := by decide +kernel
theorem dX3_feed_58 : decode cX3_feed 58 = .ok (.iconst 1, 1) := by decide +kernel
theorem dX3_feed_59 : decode cX3_feed 59 = .ok (.ireturn, 1) := by decide +kernel
theorem dX3_peek_0 : decode cX3_peek 0 = .ok (.iload_n 1, 1) := by decide +kernel
theorem dX3_peek_1 : decode cX3_peek 1 = .ok (.ifCond .lt 9, 3) := by decide +kernel
theorem dX3_peek_4 : decode cX3_peek 4 = .ok (.iload_n 1, 1) := by decide +kernel
theorem dX3_peek_5 : decode cX3_peek 5 = .ok (.ldc 28, 2) := by decide +kernel
theorem dX3_peek_7 : decode cX3_peek 7 = .ok (.if_icmp .le 5, 3) := by decide +kernel
theorem dX3_peek_10 : decode cX3_peek 10 = .ok (.iconst (-1), 1) := by decide +kernel
theorem dX3_peek_11 : decode cX3_peek 11 = .ok (.ireturn, 1) := by decide +kernel
theorem dX3_peek_12 : decode cX3_peek 12 = .ok (.aload_n 0, 1) := by decide +kernel
theorem dX3_peek_13 : decode cX3_peek 13 = .ok (.getfield 10, 3) := by decide +kernel
theorem dX3_peek_16 : decode cX3_peek 16 = .ok (.iload_n 1, 1) := by decide +kernel
theorem dX3_peek_17 : decode cX3_peek 17 = .ok (.invokevirtual 37, 3) := by decide +kernel
theorem dX3_peek_20 : decode cX3_peek 20 = .ok (.ireturn, 1) := by decide +kernel
theorem dX3_step_0 : decode cX3_step 0 = .ok (.aload_n 0, 1) := by decide +kernel
theorem dX3_step_1 : decode cX3_step 1 = .ok (.invokevirtual 41, 3) := by decide +kernel
theorem dX3_step_4 : decode cX3_step 4 = .ok (.ireturn, 1) := by decide +kernel
theorem dX3_run_0 : decode cX3_run 0 = .ok (.iload_n 1, 1) := by decide +kernel
theorem dX3_run_1 : decode cX3_run 1 = .ok (.iconst 1, 1) := by decide +kernel
theorem dX3_run_2 : decode cX3_run 2 = .ok (.if_icmp .lt 10, 3) := by decide +kernel
theorem dX3_run_5 : decode cX3_run 5 = .ok (.iload_n 1, 1) := by decide +kernel
theorem dX3_run_6 : decode cX3_run 6 = .ok (.sipush 2000, 3) := by decide +kernel
theorem dX3_run_9 : decode cX3_run 9 = .ok (.if_icmp .le 5, 3) := by decide +kernel
theorem dX3_run_12 : decode cX3_run 12 = .ok (.iconst (-1), 1) := by decide +kernel
theorem dX3_run_13 : decode cX3_run 13 = .ok (.ireturn, 1) := by decide +kernel
theorem dX3_run_14 : decode cX3_run 14 = .ok (.iconst 0, 1) := by decide +kernel
theorem dX3_run_15 : decode cX3_run 15 = .ok (.istore_n 2, 1) := by decide +kernel
theorem dX3_run_16 : decode cX3_run 16 = .ok (.iload_n 2, 1) := by decide +kernel
theorem dX3_run_17 : decode cX3_run 17 = .ok (.iload_n 1, 1) := by decide +kernel
theorem dX3_run_18 : decode cX3_run 18 = .ok (.if_icmp .ge 19, 3) := by decide +kernel
theorem dX3_run_21 : decode cX3_run 21 = .ok (.aload_n 0, 1) := by decide +kernel
theorem dX3_run_22 : decode cX3_run 22 = .ok (.invokevirtual 41, 3) := by decide +kernel
theorem dX3_run_25 : decode cX3_run 25 = .ok (.iconst 2, 1) := by decide +kernel
theorem dX3_run_26 : decode cX3_run 26 = .ok (.if_icmp .ne 5, 3) := by decide +kernel
theorem dX3_run_29 : decode cX3_run 29 = .ok (.iload_n 2, 1) := by decide +kernel
theorem dX3_run_30 : decode cX3_run 30 = .ok (.ireturn, 1) := by decide +kernel
theorem dX3_run_31 : decode cX3_run 31 = .ok (.iinc 2 1, 3) := by decide +kernel
theorem dX3_run_34 : decode cX3_run 34 = .ok (.goto (-18), 3) := by decide +kernel
theorem dX3_run_37 : decode cX3_run 37 = .ok (.iload_n 1, 1) := by decide +kernel
theorem dX3_run_38 : decode cX3_run 38 = .ok (.ireturn, 1) := by decide +kernel
theorem dX3_request_0 : decode cX3_request 0 = .ok (.iload_n 1, 1) := by decide +kernel
theorem dX3_request_1 : decode cX3_request 1 = .ok (.ifCond .lt 8, 3) := by decide +kernel
theorem dX3_request_4 : decode cX3_request 4 = .ok (.iload_n 1, 1) := by decide +kernel
theorem dX3_request_5 : decode cX3_request 5 = .ok (.iconst 5, 1) := by decide +kernel
theorem dX3_request_6 : decode cX3_request 6 = .ok (.if_icmp .lt 5, 3) := by decide +kernel
theorem dX3_request_9 : decode cX3_request 9 = .ok (.iconst 0, 1) := by decide +kernel
theorem dX3_request_10 : decode cX3_request 10 = .ok (.ireturn, 1) := by decide +kernel
theorem dX3_request_11 : decode cX3_request 11 = .ok (.aload_n 0, 1) := by decide +kernel
theorem dX3_request_12 : decode cX3_request 12 = .ok (.getfield 10, 3) := by decide +kernel
theorem dX3_request_15 : decode cX3_request 15 = .ok (.iconst 1, 1) := by decide +kernel
theorem dX3_request_16 : decode cX3_request 16 = .ok (.iload_n 1, 1) := by decide +kernel
theorem dX3_request_17 : decode cX3_request 17 = .ok (.ishl, 1) := by decide +kernel
theorem dX3_request_18 : decode cX3_request 18 = .ok (.invokevirtual 45, 3) := by decide +kernel
theorem dX3_request_21 : decode cX3_request 21 = .ok (.iconst 1, 1) := by decide +kernel
theorem dX3_request_22 : decode cX3_request 22 = .ok (.ireturn, 1) := by decide +kernel
theorem dX3_reg_0 : decode cX3_reg 0 = .ok (.aload_n 0, 1) := by decide +kernel
theorem dX3_reg_1 : decode cX3_reg 1 = .ok (.getfield 27, 3) := by decide +kernel
theorem dX3_reg_4 : decode cX3_reg 4 = .ok (.iload_n 1, 1) := by decide +kernel
theorem dX3_reg_5 : decode cX3_reg 5 = .ok (.invokevirtual 49, 3) := by decide +kernel
theorem dX3_reg_8 : decode cX3_reg 8 = .ok (.ireturn, 1) := by decide +kernel
theorem dX3_set_0 : decode cX3_set 0 = .ok (.aload_n 0, 1) := by decide +kernel
theorem dX3_set_1 : decode cX3_set 1 = .ok (.getfield 27, 3) := by decide +kernel
theorem dX3_set_4 : decode cX3_set 4 = .ok (.iload_n 1, 1) := by decide +kernel
theorem dX3_set_5 : decode cX3_set 5 = .ok (.iload_n 2, 1) := by decide +kernel
theorem dX3_set_6 : decode cX3_set 6 = .ok (.invokevirtual 54, 3) := by decide +kernel
theorem dX3_set_9 : decode cX3_set 9 = .ok (.ireturn, 1) := by decide +kernel
theorem dX3_look_0 : decode cX3_look 0 = .ok (.iload_n 1, 1) := by decide +kernel
theorem dX3_look_1 : decode cX3_look 1 = .ok (.tableswitch 95 0 4 #[35, 48, 61, 74, 87], 35) := by decide +kernel
theorem dX3_look_36 : decode cX3_look 36 = .ok (.aload_n 0, 1) := by decide +kernel
theorem dX3_look_37 : decode cX3_look 37 = .ok (.getfield 58, 3) := by decide +kernel
theorem dX3_look_40 : decode cX3_look 40 = .ok (.ifCond .eq 7, 3) := by decide +kernel
theorem dX3_look_43 : decode cX3_look 43 = .ok (.iconst 1, 1) := by decide +kernel
theorem dX3_look_44 : decode cX3_look 44 = .ok (.goto 4, 3) := by decide +kernel
theorem dX3_look_47 : decode cX3_look 47 = .ok (.iconst 0, 1) := by decide +kernel
theorem dX3_look_48 : decode cX3_look 48 = .ok (.ireturn, 1) := by decide +kernel
theorem dX3_look_49 : decode cX3_look 49 = .ok (.aload_n 0, 1) := by decide +kernel
theorem dX3_look_50 : decode cX3_look 50 = .ok (.getfield 62, 3) := by decide +kernel
theorem dX3_look_53 : decode cX3_look 53 = .ok (.ifCond .eq 7, 3) := by decide +kernel
theorem dX3_look_56 : decode cX3_look 56 = .ok (.iconst 1, 1) := by decide +kernel
theorem dX3_look_57 : decode cX3_look 57 = .ok (.goto 4, 3) := by decide +kernel
theorem dX3_look_60 : decode cX3_look 60 = .ok (.iconst 0, 1) := by decide +kernel
theorem dX3_look_61 : decode cX3_look 61 = .ok (.ireturn, 1) := by decide +kernel
theorem dX3_look_62 : decode cX3_look 62 = .ok (.aload_n 0, 1) := by decide +kernel
theorem dX3_look_63 : decode cX3_look 63 = .ok (.getfield 65, 3) := by decide +kernel
theorem dX3_look_66 : decode cX3_look 66 = .ok (.ifCond .eq 7, 3) := by decide +kernel
theorem dX3_look_69 : decode cX3_look 69 = .ok (.iconst 1, 1) := by decide +kernel
theorem dX3_look_70 : decode cX3_look 70 = .ok (.goto 4, 3) := by decide +kernel
theorem dX3_look_73 : decode cX3_look 73 = .ok (.iconst 0, 1) := by decide +kernel
theorem dX3_look_74 : decode cX3_look 74 = .ok (.ireturn, 1) := by decide +kernel
theorem dX3_look_75 : decode cX3_look 75 = .ok (.aload_n 0, 1) := by decide +kernel
theorem dX3_look_76 : decode cX3_look 76 = .ok (.getfield 68, 3) := by decide +kernel
theorem dX3_look_79 : decode cX3_look 79 = .ok (.ifCond .eq 7, 3) := by decide +kernel
theorem dX3_look_82 : decode cX3_look 82 = .ok (.iconst 1, 1) := by decide +kernel
theorem dX3_look_83 : decode cX3_look 83 = .ok (.goto 4, 3) := by decide +kernel
theorem dX3_look_86 : decode cX3_look 86 = .ok (.iconst 0, 1) := by decide +kernel
theorem dX3_look_87 : decode cX3_look 87 = .ok (.ireturn, 1) := by decide +kernel
theorem dX3_look_88 : decode cX3_look 88 = .ok (.aload_n 0, 1) := by decide +kernel
theorem dX3_look_89 : decode cX3_look 89 = .ok (.getfield 10, 3) := by decide +kernel
theorem dX3_look_92 : decode cX3_look 92 = .ok (.getfield 71, 3) := by decide +kernel
theorem dX3_look_95 : decode cX3_look 95 = .ok (.ireturn, 1) := by decide +kernel
theorem dX3_look_96 : decode cX3_look 96 = .ok (.iconst (-1), 1) := by decide +kernel
theorem dX3_look_97 : decode cX3_look 97 = .ok (.ireturn, 1) := by decide +kernel
theorem dX3_mcycles_0 : decode cX3_mcycles 0 = .ok (.aload_n 0, 1) := by decide +kernel
theorem dX3_mcycles_1 : decode cX3_mcycles 1 = .ok (.getfield 75, 3) := by decide +kernel
theorem dX3_mcycles_4 : decode cX3_mcycles 4 = .ok (.ireturn, 1) := by decide +kernel
theorem dX3_takeStep_0 : decode cX3_takeStep 0 = .ok (.aload_n 0, 1) := by decide +kernel
theorem dX3_takeStep_1 : decode cX3_takeStep 1 = .ok (.getfield 10, 3) := by decide +kernel
theorem dX3_takeStep_4 : decode cX3_takeStep 4 = .ok (.invokevirtual 78, 3) := by decide +kernel
theorem dX3_takeStep_7 : decode cX3_takeStep 7 = .ok (.istore_n 1, 1) := by decide +kernel
theorem dX3_takeStep_8 : decode cX3_takeStep 8 = .ok (.aload_n 0, 1) := by decide +kernel
theorem dX3_takeStep_9 : decode cX3_takeStep 9 = .ok (.getfield 58, 3) := by decide +kernel
theorem dX3_takeStep_12 : decode cX3_takeStep 12 = .ok (.ifCond .eq 19, 3) := by decide +kernel
theorem dX3_takeStep_15 : decode cX3_takeStep 15 = .ok (.iload_n 1, 1) := by decide +kernel
theorem dX3_takeStep_16 : decode cX3_takeStep 16 = .ok (.ifCond .eq 15, 3) := by decide +kernel
theorem dX3_takeStep_19 : decode cX3_takeStep 19 = .ok (.aload_n 0, 1) := by decide +kernel
theorem dX3_takeStep_20 : decode cX3_takeStep 20 = .ok (.iload_n 1, 1) := by decide +kernel
theorem dX3_takeStep_21 : decode cX3_takeStep 21 = .ok (.invokevirtual 81, 3) := by decide +kernel
theorem dX3_takeStep_24 : decode cX3_takeStep 24 = .ok (.aload_n 0, 1) := by decide +kernel
theorem dX3_takeStep_25 : decode cX3_takeStep 25 = .ok (.iconst 5, 1) := by decide +kernel
theorem dX3_takeStep_26 : decode cX3_takeStep 26 = .ok (.invokevirtual 84, 3) := by decide +kernel
theorem dX3_takeStep_29 : decode cX3_takeStep 29 = .ok (.iconst 0, 1) := by decide +kernel
theorem dX3_takeStep_30 : decode cX3_takeStep 30 = .ok (.ireturn, 1) := by decide +kernel
theorem dX3_takeStep_31 : decode cX3_takeStep 31 = .ok (.aload_n 0, 1) := by decide +kernel
theorem dX3_takeStep_32 : decode cX3_takeStep 32 = .ok (.getfield 65, 3) := by decide +kernel
theorem dX3_takeStep_35 : decode cX3_takeStep 35 = .ok (.ifCond .eq 14, 3) := by decide +kernel
theorem dX3_takeStep_38 : decode cX3_takeStep 38 = .ok (.iload_n 1, 1) := by decide +kernel
theorem dX3_takeStep_39 : decode cX3_takeStep 39 = .ok (.ifCond .ne 10, 3) := by decide +kernel
theorem dX3_takeStep_42 : decode cX3_takeStep 42 = .ok (.aload_n 0, 1) := by decide +kernel
theorem dX3_takeStep_43 : decode cX3_takeStep 43 = .ok (.iconst 1, 1) := by decide +kernel
theorem dX3_takeStep_44 : decode cX3_takeStep 44 = .ok (.invokevirtual 84, 3) := by decide +kernel
theorem dX3_takeStep_47 : decode cX3_takeStep 47 = .ok (.iconst 1, 1) := by decide +kernel
theorem dX3_takeStep_48 : decode cX3_takeStep 48 = .ok (.ireturn, 1) := by decide +kernel
theorem dX3_takeStep_49 : decode cX3_takeStep 49 = .ok (.aload_n 0, 1) := by decide +kernel
theorem dX3_takeStep_50 : decode cX3_takeStep 50 = .ok (.getfield 10, 3) := by decide +kernel
theorem dX3_takeStep_53 : decode cX3_takeStep 53 = .ok (.aload_n 0, 1) := by decide +kernel
theorem dX3_takeStep_54 : decode cX3_takeStep 54 = .ok (.getfield 27, 3) := by decide +kernel
theorem dX3_takeStep_57 : decode cX3_takeStep 57 = .ok (.iconst 5, 1) := by decide +kernel
theorem dX3_takeStep_58 : decode cX3_takeStep 58 = .ok (.invokevirtual 49, 3) := by decide +kernel
theorem dX3_takeStep_61 : decode cX3_takeStep 61 = .ok (.invokevirtual 37, 3) := by decide +kernel
theorem dX3_takeStep_64 : decode cX3_takeStep 64 = .ok (.istore_n 2, 1) := by decide +kernel
theorem dX3_takeStep_65 : decode cX3_takeStep 65 = .ok (.getstatic 87, 3) := by decide +kernel
theorem dX3_takeStep_68 : decode cX3_takeStep 68 = .ok (.iload_n 2, 1) := by decide +kernel
theorem dX3_takeStep_69 : decode cX3_takeStep 69 = .ok (.sipush 255, 3) := by decide +kernel
theorem dX3_takeStep_72 : decode cX3_takeStep 72 = .ok (.iand, 1) := by decide +kernel
theorem dX3_takeStep_73 : decode cX3_takeStep 73 = .ok (.iaload, 1) := by decide +kernel
theorem dX3_takeStep_74 : decode cX3_takeStep 74 = .ok (.istore_n 3, 1) := by decide +kernel
theorem dX3_takeStep_75 : decode cX3_takeStep 75 = .ok (.iload_n 3, 1) := by decide +kernel
theorem dX3_takeStep_76 : decode cX3_takeStep 76 = .ok (.ifCond .ne 5, 3) := by decide +kernel
theorem dX3_takeStep_79 : decode cX3_takeStep 79 = .ok (.iconst 2, 1) := by decide +kernel
theorem dX3_takeStep_80 : decode cX3_takeStep 80 = .ok (.ireturn, 1) := by decide +kernel
theorem dX3_takeStep_81 : decode cX3_takeStep 81 = .ok (.aload_n 0, 1) := by decide +kernel
theorem dX3_takeStep_82 : decode cX3_takeStep 82 = .ok (.iconst 0, 1) := by decide +kernel
theorem dX3_takeStep_83 : decode cX3_takeStep 83 = .ok (.putfield 65, 3) := by decide +kernel
theorem dX3_takeStep_86 : decode cX3_takeStep 86 = .ok (.aload_n 0, 1) := by decide +kernel
theorem dX3_takeStep_87 : decode cX3_takeStep 87 = .ok (.invokevirtual 91, 3) := by decide +kernel
theorem dX3_takeStep_90 : decode cX3_takeStep 90 = .ok (.aload_n 0, 1) := by decide +kernel
theorem dX3_takeStep_91 : decode cX3_takeStep 91 = .ok (.getfield 62, 3) := by decide +kernel
theorem dX3_takeStep_94 : decode cX3_takeStep 94 = .ok (.istore 4, 2) := by decide +kernel
theorem dX3_takeStep_96 : decode cX3_takeStep 96 = .ok (.aload_n 0, 1) := by decide +kernel
theorem dX3_takeStep_97 : decode cX3_takeStep 97 = .ok (.iload_n 2, 1) := by decide +kernel
theorem dX3_takeStep_98 : decode cX3_takeStep 98 = .ok (.invokevirtual 94, 3) := by decide +kernel
theorem dX3_takeStep_101 : decode cX3_takeStep 101 = .ok (.istore 5, 2) := by decide +kernel
theorem dX3_takeStep_103 : decode cX3_takeStep 103 = .ok (.iload 4, 2) := by decide +kernel
theorem dX3_takeStep_105 : decode cX3_takeStep 105 = .ok (.ifCond .eq 20, 3) := by decide +kernel
theorem dX3_takeStep_108 : decode cX3_takeStep 108 = .ok (.iload_n 2, 1) := by decide +kernel
theorem dX3_takeStep_109 : decode cX3_takeStep 109 = .ok (.sipush 243, 3) := by decide +kernel
theorem dX3_takeStep_112 : decode cX3_takeStep 112 = .ok (.if_icmp .eq 13, 3) := by decide +kernel
theorem dX3_takeStep_115 : decode cX3_takeStep 115 = .ok (.aload_n 0, 1) := by decide +kernel
theorem dX3_takeStep_116 : decode cX3_takeStep 116 = .ok (.iconst 1, 1) := by decide +kernel
theorem dX3_takeStep_117 : decode cX3_takeStep 117 = .ok (.putfield 58, 3) := by decide +kernel
theorem dX3_takeStep_120 : decode cX3_takeStep 120 = .ok (.aload_n 0, 1) := by decide +kernel
theorem dX3_takeStep_121 : decode cX3_takeStep 121 = .ok (.iconst 0, 1) := by decide +kernel
theorem dX3_takeStep_122 : decode cX3_takeStep 122 = .ok (.putfield 62, 3) := by decide +kernel
theorem dX3_takeStep_125 : decode cX3_takeStep 125 = .ok (.aload_n 0, 1) := by decide +kernel
theorem dX3_takeStep_126 : decode cX3_takeStep 126 = .ok (.iload_n 3, 1) := by decide +kernel
theorem dX3_takeStep_127 : decode cX3_takeStep 127 = .ok (.iload 5, 2) := by decide +kernel
theorem dX3_takeStep_129 : decode cX3_takeStep 129 = .ok (.iadd, 1) := by decide +kernel
theorem dX3_takeStep_130 : decode cX3_takeStep 130 = .ok (.invokevirtual 84, 3) := by decide +kernel
theorem dX3_takeStep_133 : decode cX3_takeStep 133 = .ok (.iconst 0, 1) := by decide +kernel
theorem dX3_takeStep_134 : decode cX3_takeStep 134 = .ok (.ireturn, 1) := by decide +kernel
theorem dX3_dispatch_0 : decode cX3_dispatch 0 = .ok (.iconst 0, 1) := by decide +kernel
theorem dX3_dispatch_1 : decode cX3_dispatch 1 = .ok (.istore_n 2, 1) := by decide +kernel
theorem dX3_dispatch_2 : decode cX3_dispatch 2 = .ok (.iload_n 2, 1) := by decide +kernel
theorem dX3_dispatch_3 : decode cX3_dispatch 3 = .ok (.iconst 4, 1) := by decide +kernel
theorem dX3_dispatch_4 : decode cX3_dispatch 4 = .ok (.if_icmp .ge 17, 3) := by decide +kernel
theorem dX3_dispatch_7 : decode cX3_dispatch 7 = .ok (.iload_n 1, 1) := by decide +kernel
theorem dX3_dispatch_8 : decode cX3_dispatch 8 = .ok (.iload_n 2, 1) := by decide +kernel
theorem dX3_dispatch_9 : decode cX3_dispatch 9 = .ok (.ishr, 1) := by decide +kernel
theorem dX3_dispatch_10 : decode cX3_dispatch 10 = .ok (.iconst 1, 1) := by decide +kernel
theorem dX3_dispatch_11 : decode cX3_dispatch 11 = .ok (.iand, 1) := by decide +kernel
theorem dX3_dispatch_12 : decode cX3_dispatch 12 = .ok (.ifCond .ne 9, 3) := by decide +kernel
theorem dX3_dispatch_15 : decode cX3_dispatch 15 = .ok (.iinc 2 1, 3) := by decide +kernel
theorem dX3_dispatch_18 : decode cX3_dispatch 18 = .ok (.goto (-16), 3) := by decide +kernel
theorem dX3_dispatch_21 : decode cX3_dispatch 21 = .ok (.aload_n 0, 1) := by decide +kernel
theorem dX3_dispatch_22 : decode cX3_dispatch 22 = .ok (.iconst 0, 1) := by decide +kernel
theorem dX3_dispatch_23 : decode cX3_dispatch 23 = .ok (.putfield 58, 3) := by decide +kernel
theorem dX3_dispatch_26 : decode cX3_dispatch 26 = .ok (.aload_n 0, 1) := by decide +kernel
theorem dX3_dispatch_27 : decode cX3_dispatch 27 = .ok (.iconst 0, 1) := by decide +kernel
theorem dX3_dispatch_28 : decode cX3_dispatch 28 = .ok (.putfield 65, 3) := by decide +kernel
theorem dX3_dispatch_31 : decode cX3_dispatch 31 = .ok (.aload_n 0, 1) := by decide +kernel
theorem dX3_dispatch_32 : decode cX3_dispatch 32 = .ok (.getfield 10, 3) := by decide +kernel
theorem dX3_dispatch_35 : decode cX3_dispatch 35 = .ok (.iload_n 2, 1) := by decide +kernel
theorem dX3_dispatch_36 : decode cX3_dispatch 36 = .ok (.invokevirtual 97, 3) := by decide +kernel
theorem dX3_dispatch_39 : decode cX3_dispatch 39 = .ok (.aload_n 0, 1) := by decide +kernel
theorem dX3_dispatch_40 : decode cX3_dispatch 40 = .ok (.aload_n 0, 1) := by decide +kernel
theorem dX3_dispatch_41 : decode cX3_dispatch 41 = .ok (.getfield 27, 3) := by decide +kernel
theorem dX3_dispatch_44 : decode cX3_dispatch 44 = .ok (.iconst 5, 1) := by decide +kernel
theorem dX3_dispatch_45 : decode cX3_dispatch 45 = .ok (.invokevirtual 49, 3) := by decide +kernel
theorem dX3_dispatch_48 : decode cX3_dispatch 48 = .ok (.invokevirtual 100, 3) := by decide +kernel
theorem dX3_dispatch_51 : decode cX3_dispatch 51 = .ok (.aload_n 0, 1) := by decide +kernel
theorem dX3_dispatch_52 : decode cX3_dispatch 52 = .ok (.getfield 27, 3) := by decide +kernel
theorem dX3_dispatch_55 : decode cX3_dispatch 55 = .ok (.iconst 5, 1) := by decide +kernel
theorem dX3_dispatch_56 : decode cX3_dispatch 56 = .ok (.bipush 64, 2) := by decide +kernel
theorem dX3_dispatch_58 : decode cX3_dispatch 58 = .ok (.bipush 8, 2) := by decide +kernel
theorem dX3_dispatch_60 : decode cX3_dispatch 60 = .ok (.iload_n 2, 1) := by decide +kernel
theorem dX3_dispatch_61 : decode cX3_dispatch 61 = .ok (.imul, 1) := by decide +kernel
theorem dX3_dispatch_62 : decode cX3_dispatch 62 = .ok (.iadd, 1) := by decide +kernel
theorem dX3_dispatch_63 : decode cX3_dispatch 63 = .ok (.invokevirtual 54, 3) := by decide +kernel
theorem dX3_dispatch_66 : decode cX3_dispatch 66 = .ok (.pop, 1) := by decide +kernel
theorem dX3_dispatch_67 : decode cX3_dispatch 67 = .ok (.return_, 1) := by decide +kernel
theorem dX3_pass_0 : decode cX3_pass 0 = .ok (.aload_n 0, 1) := by decide +kernel
theorem dX3_pass_1 : decode cX3_pass 1 = .ok (.aload_n 0, 1) := by decide +kernel
theorem dX3_pass_2 : decode cX3_pass 2 = .ok (.getfield 75, 3) := by decide +kernel
theorem dX3_pass_5 : decode cX3_pass 5 = .ok (.iload_n 1, 1) := by decide +kernel
theorem dX3_pass_6 : decode cX3_pass 6 = .ok (.iadd, 1) := by decide +kernel
theorem dX3_pass_7 : decode cX3_pass 7 = .ok (.ldc 103, 2) := by decide +kernel
theorem dX3_pass_9 : decode cX3_pass 9 = .ok (.iand, 1) := by decide +kernel
theorem dX3_pass_10 : decode cX3_pass 10 = .ok (.putfield 75, 3) := by decide +kernel
theorem dX3_pass_13 : decode cX3_pass 13 = .ok (.iconst 0, 1) := by decide +kernel
theorem dX3_pass_14 : decode cX3_pass 14 = .ok (.istore_n 2, 1) := by decide +kernel
theorem dX3_pass_15 : decode cX3_pass 15 = .ok (.iload_n 2, 1) := by decide +kernel
theorem dX3_pass_16 : decode cX3_pass 16 = .ok (.iload_n 1, 1) := by decide +kernel
theorem dX3_pass_17 : decode cX3_pass 17 = .ok (.if_icmp .ge 16, 3) := by decide +kernel
theorem dX3_pass_20 : decode cX3_pass 20 = .ok (.aload_n 0, 1) := by decide +kernel
theorem dX3_pass_21 : decode cX3_pass 21 = .ok (.getfield 10, 3) := by decide +kernel
theorem dX3_pass_24 : decode cX3_pass 24 = .ok (.invokevirtual 104, 3) := by decide +kernel
theorem dX3_pass_27 : decode cX3_pass 27 = .ok (.iinc 2 1, 3) := by decide +kernel
theorem dX3_pass_30 : decode cX3_pass 30 = .ok (.goto (-15), 3) := by decide +kernel
theorem dX3_pass_33 : decode cX3_pass 33 = .ok (.return_, 1) := by decide +kernel
theorem dX3_leaveOpcode_0 : decode cX3_leaveOpcode 0 = .ok (.aload_n 0, 1) := by decide +kernel
theorem dX3_leaveOpcode_1 : decode cX3_leaveOpcode 1 = .ok (.getfield 68, 3) := by decide +kernel
theorem dX3_leaveOpcode_4 : decode cX3_leaveOpcode 4 = .ok (.ifCond .eq 11, 3) := by decide +kernel
theorem dX3_leaveOpcode_7 : decode cX3_leaveOpcode 7 = .ok (.aload_n 0, 1) := by decide +kernel
theorem dX3_leaveOpcode_8 : decode cX3_leaveOpcode 8 = .ok (.iconst 0, 1) := by decide +kernel
theorem dX3_leaveOpcode_9 : decode cX3_leaveOpcode 9 = .ok (.putfield 68, 3) := by decide +kernel
theorem dX3_leaveOpcode_12 : decode cX3_leaveOpcode 12 = .ok (.goto 22, 3) := by decide +kernel
theorem dX3_leaveOpcode_15 : decode cX3_leaveOpcode 15 = .ok (.aload_n 0, 1) := by decide +kernel
theorem dX3_leaveOpcode_16 : decode cX3_leaveOpcode 16 = .ok (.getfield 27, 3) := by decide +kernel
theorem dX3_leaveOpcode_19 : decode cX3_leaveOpcode 19 = .ok (.iconst 5, 1) := by decide +kernel
theorem dX3_leaveOpcode_20 : decode cX3_leaveOpcode 20 = .ok (.aload_n 0, 1) := by decide +kernel
theorem dX3_leaveOpcode_21 : decode cX3_leaveOpcode 21 = .ok (.getfield 27, 3) := by decide +kernel
theorem dX3_leaveOpcode_24 : decode cX3_leaveOpcode 24 = .ok (.iconst 5, 1) := by decide +kernel
theorem dX3_leaveOpcode_25 : decode cX3_leaveOpcode 25 = .ok (.invokevirtual 49, 3) := by decide +kernel
theorem dX3_leaveOpcode_28 : decode cX3_leaveOpcode 28 = .ok (.iconst 1, 1) := by decide +kernel
theorem dX3_leaveOpcode_29 : decode cX3_leaveOpcode 29 = .ok (.iadd, 1) := by decide +kernel
theorem dX3_leaveOpcode_30 : decode cX3_leaveOpcode 30 = .ok (.invokevirtual 54, 3) := by decide +kernel
theorem dX3_leaveOpcode_33 : decode cX3_leaveOpcode 33 = .ok (.pop, 1) := by decide +kernel
theorem dX3_leaveOpcode_34 : decode cX3_leaveOpcode 34 = .ok (.return_, 1) := by decide +kernel
theorem dX3_execute_0 : decode cX3_execute 0 = .ok (.iload_n 1, 1) := by decide +kernel
theorem dX3_execute_1 : decode cX3_execute 1 = .ok (.iconst 3, 1) := by decide +kernel
theorem dX3_execute_2 : decode cX3_execute 2 = .ok (.ishr, 1) := by decide +kernel
theorem dX3_execute_3 : decode cX3_execute 3 = .ok (.bipush 7, 2) := by decide +kernel
theorem dX3_execute_5 : decode cX3_execute 5 = .ok (.iand, 1) := by decide +kernel
theorem dX3_execute_6 : decode cX3_execute 6 = .ok (.istore_n 2, 1) := by decide +kernel
theorem dX3_execute_7 : decode cX3_execute 7 = .ok (.iload_n 1, 1) := by decide +kernel
theorem dX3_execute_8 : decode cX3_execute 8 = .ok (.bipush 7, 2) := by decide +kernel
theorem dX3_execute_10 : decode cX3_execute 10 = .ok (.iand, 1) := by decide +kernel
theorem dX3_execute_11 : decode cX3_execute 11 = .ok (.istore_n 3, 1) := by decide +kernel
theorem dX3_execute_12 : decode cX3_execute 12 = .ok (.iload_n 1, 1) := by decide +kernel
theorem dX3_execute_13 : decode cX3_execute 13 = .ok (.bipush 118, 2) := by decide +kernel
theorem dX3_execute_15 : decode cX3_execute 15 = .ok (.if_icmp .ne 9, 3) := by decide +kernel
theorem dX3_execute_18 : decode cX3_execute 18 = .ok (.aload_n 0, 1) := by decide +kernel
theorem dX3_execute_19 : decode cX3_execute 19 = .ok (.invokevirtual 107, 3) := by decide +kernel
theorem dX3_execute_22 : decode cX3_execute 22 = .ok (.iconst 0, 1) := by decide +kernel
theorem dX3_execute_23 : decode cX3_execute 23 = .ok (.ireturn, 1) := by decide +kernel
theorem dX3_execute_24 : decode cX3_execute 24 = .ok (.iload_n 1, 1) := by decide +kernel
theorem dX3_execute_25 : decode cX3_execute 25 = .ok (.sipush 203, 3) := by decide +kernel
theorem dX3_execute_28 : decode cX3_execute 28 = .ok (.if_icmp .ne 8, 3) := by decide +kernel
theorem dX3_execute_31 : decode cX3_execute 31 = .ok (.aload_n 0, 1) := by decide +kernel
theorem dX3_execute_32 : decode cX3_execute 32 = .ok (.invokevirtual 110, 3) := by decide +kernel
theorem dX3_execute_35 : decode cX3_execute 35 = .ok (.ireturn, 1) := by decide +kernel
theorem dX3_execute_36 : decode cX3_execute 36 = .ok (.iload_n 1, 1) := by decide +kernel
theorem dX3_execute_37 : decode cX3_execute 37 = .ok (.bipush 6, 2) := by decide +kernel
theorem dX3_execute_39 : decode cX3_execute 39 = .ok (.ishr, 1) := by decide +kernel
theorem dX3_execute_40 : decode cX3_execute 40 = .ok (.tableswitch 62 0 2 #[28, 35, 47], 28) := by decide +kernel
theorem dX3_execute_68 : decode cX3_execute 68 = .ok (.aload_n 0, 1) := by decide +kernel
theorem dX3_execute_69 : decode cX3_execute 69 = .ok (.iload_n 2, 1) := by decide +kernel
theorem dX3_execute_70 : decode cX3_execute 70 = .ok (.iload_n 3, 1) := by decide +kernel
theorem dX3_execute_71 : decode cX3_execute 71 = .ok (.invokevirtual 113, 3) := by decide +kernel
theorem dX3_execute_74 : decode cX3_execute 74 = .ok (.ireturn, 1) := by decide +kernel
theorem dX3_execute_75 : decode cX3_execute 75 = .ok (.aload_n 0, 1) := by decide +kernel
theorem dX3_execute_76 : decode cX3_execute 76 = .ok (.iload_n 2, 1) := by decide +kernel
theorem dX3_execute_77 : decode cX3_execute 77 = .ok (.aload_n 0, 1) := by decide +kernel
theorem dX3_execute_78 : decode cX3_execute 78 = .ok (.iload_n 3, 1) := by decide +kernel
theorem dX3_execute_79 : decode cX3_execute 79 = .ok (.invokevirtual 117, 3) := by decide +kernel
theorem dX3_execute_82 : decode cX3_execute 82 = .ok (.invokevirtual 120, 3) := by decide +kernel
theorem dX3_execute_85 : decode cX3_execute 85 = .ok (.iconst 0, 1) := by decide +kernel
theorem dX3_execute_86 : decode cX3_execute 86 = .ok (.ireturn, 1) := by decide +kernel
theorem dX3_execute_87 : decode cX3_execute 87 = .ok (.aload_n 0, 1) := by decide +kernel
theorem dX3_execute_88 : decode cX3_execute 88 = .ok (.getfield 19, 3) := by decide +kernel
theorem dX3_execute_91 : decode cX3_execute 91 = .ok (.iload_n 2, 1) := by decide +kernel
theorem dX3_execute_92 : decode cX3_execute 92 = .ok (.aload_n 0, 1) := by decide +kernel
theorem dX3_execute_93 : decode cX3_execute 93 = .ok (.iload_n 3, 1) := by decide +kernel
theorem dX3_execute_94 : decode cX3_execute 94 = .ok (.invokevirtual 117, 3) := by decide +kernel
theorem dX3_execute_97 : decode cX3_execute 97 = .ok (.invokevirtual 123, 3) := by decide +kernel
theorem dX3_execute_100 : decode cX3_execute 100 = .ok (.iconst 0, 1) := by decide +kernel
theorem dX3_execute_101 : decode cX3_execute 101 = .ok (.ireturn, 1) := by decide +kernel
theorem dX3_execute_102 : decode cX3_execute 102 = .ok (.aload_n 0, 1) := by decide +kernel
theorem dX3_execute_103 : decode cX3_execute 103 = .ok (.iload_n 2, 1) := by decide +kernel
theorem dX3_execute_104 : decode cX3_execute 104 = .ok (.iload_n 3, 1) := by decide +kernel
theorem dX3_execute_105 : decode cX3_execute 105 = .ok (.invokevirtual 126, 3) := by decide +kernel
theorem dX3_execute_108 : decode cX3_execute 108 = .ok (.ireturn, 1) := by decide +kernel
theorem dX3_executeFirstQuarter_0 : decode cX3_executeFirstQuarter 0 = .ok (.iload_n 2, 1) := by decide +kernel
theorem dX3_executeFirstQuarter_1 : decode cX3_executeFirstQuarter 1 = .ok (.tableswitch 156 0 6 #[43, 86, 93, 100, 107, 126, 145], 43) := by decide +kernel
theorem dX3_executeFirstQuarter_44 : decode cX3_executeFirstQuarter 44 = .ok (.iload_n 1, 1) := by decide +kernel
theorem dX3_executeFirstQuarter_45 : decode cX3_executeFirstQuarter 45 = .ok (.iconst 1, 1) := by decide +kernel
theorem dX3_executeFirstQuarter_46 : decode cX3_executeFirstQuarter 46 = .ok (.if_icmp .ne 7, 3) := by decide +kernel
theorem dX3_executeFirstQuarter_49 : decode cX3_executeFirstQuarter 49 = .ok (.aload_n 0, 1) := by decide +kernel
theorem dX3_executeFirstQuarter_50 : decode cX3_executeFirstQuarter 50 = .ok (.invokevirtual 129, 3) := by decide +kernel
theorem dX3_executeFirstQuarter_53 : decode cX3_executeFirstQuarter 53 = .ok (.iload_n 1, 1) := by decide +kernel
theorem dX3_executeFirstQuarter_54 : decode cX3_executeFirstQuarter 54 = .ok (.iconst 3, 1) := by decide +kernel
theorem dX3_executeFirstQuarter_55 : decode cX3_executeFirstQuarter 55 = .ok (.if_icmp .ge 7, 3) := by decide +kernel
theorem dX3_executeFirstQuarter_58 : decode cX3_executeFirstQuarter 58 = .ok (.iconst 0, 1) := by decide +kernel
theorem dX3_executeFirstQuarter_59 : decode cX3_executeFirstQuarter 59 = .ok (.goto 27, 3) := by decide +kernel
theorem dX3_executeFirstQuarter_62 : decode cX3_executeFirstQuarter 62 = .ok (.aload_n 0, 1) := by decide +kernel
theorem dX3_executeFirstQuarter_63 : decode cX3_executeFirstQuarter 63 = .ok (.iload_n 1, 1) := by decide +kernel
theorem dX3_executeFirstQuarter_64 : decode cX3_executeFirstQuarter 64 = .ok (.iconst 3, 1) := by decide +kernel
theorem dX3_executeFirstQuarter_65 : decode cX3_executeFirstQuarter 65 = .ok (.if_icmp .eq 13, 3) := by decide +kernel
theorem dX3_executeFirstQuarter_68 : decode cX3_executeFirstQuarter 68 = .ok (.aload_n 0, 1) := by decide +kernel
theorem dX3_executeFirstQuarter_69 : decode cX3_executeFirstQuarter 69 = .ok (.iload_n 1, 1) := by decide +kernel
theorem dX3_executeFirstQuarter_70 : decode cX3_executeFirstQuarter 70 = .ok (.iconst 4, 1) := by decide +kernel
theorem dX3_executeFirstQuarter_71 : decode cX3_executeFirstQuarter 71 = .ok (.isub, 1) := by decide +kernel
theorem dX3_executeFirstQuarter_72 : decode cX3_executeFirstQuarter 72 = .ok (.invokevirtual 132, 3) := by decide +kernel
theorem dX3_executeFirstQuarter_75 : decode cX3_executeFirstQuarter 75 = .ok (.ifCond .eq 7, 3) := by decide +kernel
theorem dX3_executeFirstQuarter_78 : decode cX3_executeFirstQuarter 78 = .ok (.iconst 1, 1) := by decide +kernel
theorem dX3_executeFirstQuarter_79 : decode cX3_executeFirstQuarter 79 = .ok (.goto 4, 3) := by decide +kernel
theorem dX3_executeFirstQuarter_82 : decode cX3_executeFirstQuarter 82 = .ok (.iconst 0, 1) := by decide +kernel
theorem dX3_executeFirstQuarter_83 : decode cX3_executeFirstQuarter 83 = .ok (.invokevirtual 136, 3) := by decide +kernel
theorem dX3_executeFirstQuarter_86 : decode cX3_executeFirstQuarter 86 = .ok (.ireturn, 1) := by decide +kernel
theorem dX3_executeFirstQuarter_87 : decode cX3_executeFirstQuarter 87 = .ok (.aload_n 0, 1) := by decide +kernel
theorem dX3_executeFirstQuarter_88 : decode cX3_executeFirstQuarter 88 = .ok (.iload_n 1, 1) := by decide +kernel
theorem dX3_executeFirstQuarter_89 : decode cX3_executeFirstQuarter 89 = .ok (.invokevirtual 140, 3) := by decide +kernel
theorem dX3_executeFirstQuarter_92 : decode cX3_executeFirstQuarter 92 = .ok (.iconst 0, 1) := by decide +kernel
theorem dX3_executeFirstQuarter_93 : decode cX3_executeFirstQuarter 93 = .ok (.ireturn, 1) := by decide +kernel
theorem dX3_executeFirstQuarter_94 : decode cX3_executeFirstQuarter 94 = .ok (.aload_n 0, 1) := by decide +kernel
theorem dX3_executeFirstQuarter_95 : decode cX3_executeFirstQuarter 95 = .ok (.iload_n 1, 1) := by decide +kernel
theorem dX3_executeFirstQuarter_96 : decode cX3_executeFirstQuarter 96 = .ok (.invokevirtual 143, 3) := by decide +kernel
theorem dX3_executeFirstQuarter_99 : decode cX3_executeFirstQuarter 99 = .ok (.iconst 0, 1) := by decide +kernel
theorem dX3_executeFirstQuarter_100 : decode cX3_executeFirstQuarter 100 = .ok (.ireturn, 1) := by decide +kernel
theorem dX3_executeFirstQuarter_101 : decode cX3_executeFirstQuarter 101 = .ok (.aload_n 0, 1) := by decide +kernel
theorem dX3_executeFirstQuarter_102 : decode cX3_executeFirstQuarter 102 = .ok (.iload_n 1, 1) := by decide +kernel
theorem dX3_executeFirstQuarter_103 : decode cX3_executeFirstQuarter 103 = .ok (.invokevirtual 146, 3) := by decide +kernel
theorem dX3_executeFirstQuarter_106 : decode cX3_executeFirstQuarter 106 = .ok (.iconst 0, 1) := by decide +kernel
theorem dX3_executeFirstQuarter_107 : decode cX3_executeFirstQuarter 107 = .ok (.ireturn, 1) := by decide +kernel
theorem dX3_executeFirstQuarter_108 : decode cX3_executeFirstQuarter 108 = .ok (.aload_n 0, 1) := by decide +kernel
theorem dX3_executeFirstQuarter_109 : decode cX3_executeFirstQuarter 109 = .ok (.iload_n 1, 1) := by decide +kernel
theorem dX3_executeFirstQuarter_110 : decode cX3_executeFirstQuarter 110 = .ok (.aload_n 0, 1) := by decide +kernel
theorem dX3_executeFirstQuarter_111 : decode cX3_executeFirstQuarter 111 = .ok (.getfield 19, 3) := by decide +kernel
theorem dX3_executeFirstQuarter_114 : decode cX3_executeFirstQuarter 114 = .ok (.aload_n 0, 1) := by decide +kernel
theorem dX3_executeFirstQuarter_115 : decode cX3_executeFirstQuarter 115 = .ok (.iload_n 1, 1) := by decide +kernel
theorem dX3_executeFirstQuarter_116 : decode cX3_executeFirstQuarter 116 = .ok (.invokevirtual 117, 3) := by decide +kernel
theorem dX3_executeFirstQuarter_119 : decode cX3_executeFirstQuarter 119 = .ok (.invokevirtual 149, 3) := by decide +kernel
theorem dX3_executeFirstQuarter_122 : decode cX3_executeFirstQuarter 122 = .ok (.invokevirtual 120, 3) := by decide +kernel
theorem dX3_executeFirstQuarter_125 : decode cX3_executeFirstQuarter 125 = .ok (.iconst 0, 1) := by decide +kernel
theorem dX3_executeFirstQuarter_126 : decode cX3_executeFirstQuarter 126 = .ok (.ireturn, 1) := by decide +kernel
theorem dX3_executeFirstQuarter_127 : decode cX3_executeFirstQuarter 127 = .ok (.aload_n 0, 1) := by decide +kernel
theorem dX3_executeFirstQuarter_128 : decode cX3_executeFirstQuarter 128 = .ok (.iload_n 1, 1) := by decide +kernel
theorem dX3_executeFirstQuarter_129 : decode cX3_executeFirstQuarter 129 = .ok (.aload_n 0, 1) := by decide +kernel
theorem dX3_executeFirstQuarter_130 : decode cX3_executeFirstQuarter 130 = .ok (.getfield 19, 3) := by decide +kernel
theorem dX3_executeFirstQuarter_133 : decode cX3_executeFirstQuarter 133 = .ok (.aload_n 0, 1) := by decide +kernel
theorem dX3_executeFirstQuarter_134 : decode cX3_executeFirstQuarter 134 = .ok (.iload_n 1, 1) := by decide +kernel
theorem dX3_executeFirstQuarter_135 : decode cX3_executeFirstQuarter 135 = .ok (.invokevirtual 117, 3) := by decide +kernel
theorem dX3_executeFirstQuarter_138 : decode cX3_executeFirstQuarter 138 = .ok (.invokevirtual 152, 3) := by decide +kernel
theorem dX3_executeFirstQuarter_141 : decode cX3_executeFirstQuarter 141 = .ok (.invokevirtual 120, 3) := by decide +kernel
theorem dX3_executeFirstQuarter_144 : decode cX3_executeFirstQuarter 144 = .ok (.iconst 0, 1) := by decide +kernel
theorem dX3_executeFirstQuarter_145 : decode cX3_executeFirstQuarter 145 = .ok (.ireturn, 1) := by decide +kernel
theorem dX3_executeFirstQuarter_146 : decode cX3_executeFirstQuarter 146 = .ok (.aload_n 0, 1) := by decide +kernel
theorem dX3_executeFirstQuarter_147 : decode cX3_executeFirstQuarter 147 = .ok (.iload_n 1, 1) := by decide +kernel
theorem dX3_executeFirstQuarter_148 : decode cX3_executeFirstQuarter 148 = .ok (.aload_n 0, 1) := by decide +kernel
theorem dX3_executeFirstQuarter_149 : decode cX3_executeFirstQuarter 149 = .ok (.invokevirtual 155, 3) := by decide +kernel
theorem dX3_executeFirstQuarter_152 : decode cX3_executeFirstQuarter 152 = .ok (.invokevirtual 120, 3) := by decide +kernel
theorem dX3_executeFirstQuarter_155 : decode cX3_executeFirstQuarter 155 = .ok (.iconst 0, 1) := by decide +kernel
theorem dX3_executeFirstQuarter_156 : decode cX3_executeFirstQuarter 156 = .ok (.ireturn, 1) := by decide +kernel
theorem dX3_executeFirstQuarter_157 : decode cX3_executeFirstQuarter 157 = .ok (.aload_n 0, 1) := by decide +kernel
theorem dX3_executeFirstQuarter_158 : decode cX3_executeFirstQuarter 158 = .ok (.getfield 19, 3) := by decide +kernel
theorem dX3_executeFirstQuarter_161 : decode cX3_executeFirstQuarter 161 = .ok (.iload_n 1, 1) := by decide +kernel
theorem dX3_executeFirstQuarter_162 : decode cX3_executeFirstQuarter 162 = .ok (.invokevirtual 158, 3) := by decide +kernel
theorem dX3_executeFirstQuarter_165 : decode cX3_executeFirstQuarter 165 = .ok (.iconst 0, 1) := by decide +kernel
theorem dX3_executeFirstQuarter_166 : decode cX3_executeFirstQuarter 166 = .ok (.ireturn, 1) := by decide +kernel
theorem dX3_executeLastQuarter_0 : decode cX3_executeLastQuarter 0 = .ok (.iload_n 2, 1) := by decide +kernel
theorem dX3_executeLastQuarter_1 : decode cX3_executeLastQuarter 1 = .ok (.tableswitch 167 0 6 #[43, 66, 73, 96, 124, 134, 153], 43) := by decide +kernel
theorem dX3_executeLastQuarter_44 : decode cX3_executeLastQuarter 44 = .ok (.iload_n 1, 1) := by decide +kernel
theorem dX3_executeLastQuarter_45 : decode cX3_executeLastQuarter 45 = .ok (.iconst 4, 1) := by decide +kernel
theorem dX3_executeLastQuarter_46 : decode cX3_executeLastQuarter 46 = .ok (.if_icmp .ge 15, 3) := by decide +kernel
theorem dX3_executeLastQuarter_49 : decode cX3_executeLastQuarter 49 = .ok (.aload_n 0, 1) := by decide +kernel
theorem dX3_executeLastQuarter_50 : decode cX3_executeLastQuarter 50 = .ok (.aload_n 0, 1) := by decide +kernel
theorem dX3_executeLastQuarter_51 : decode cX3_executeLastQuarter 51 = .ok (.iload_n 1, 1) := by decide +kernel
theorem dX3_executeLastQuarter_52 : decode cX3_executeLastQuarter 52 = .ok (.invokevirtual 132, 3) := by decide +kernel
theorem dX3_executeLastQuarter_55 : decode cX3_executeLastQuarter 55 = .ok (.invokevirtual 161, 3) := by decide +kernel
theorem dX3_executeLastQuarter_58 : decode cX3_executeLastQuarter 58 = .ok (.goto 8, 3) := by decide +kernel
theorem dX3_executeLastQuarter_61 : decode cX3_executeLastQuarter 61 = .ok (.aload_n 0, 1) := by decide +kernel
theorem dX3_executeLastQuarter_62 : decode cX3_executeLastQuarter 62 = .ok (.iload_n 1, 1) := by decide +kernel
theorem dX3_executeLastQuarter_63 : decode cX3_executeLastQuarter 63 = .ok (.invokevirtual 164, 3) := by decide +kernel
theorem dX3_executeLastQuarter_66 : decode cX3_executeLastQuarter 66 = .ok (.ireturn, 1) := by decide +kernel
theorem dX3_executeLastQuarter_67 : decode cX3_executeLastQuarter 67 = .ok (.aload_n 0, 1) := by decide +kernel
theorem dX3_executeLastQuarter_68 : decode cX3_executeLastQuarter 68 = .ok (.iload_n 1, 1) := by decide +kernel
theorem dX3_executeLastQuarter_69 : decode cX3_executeLastQuarter 69 = .ok (.invokevirtual 167, 3) := by decide +kernel
theorem dX3_executeLastQuarter_72 : decode cX3_executeLastQuarter 72 = .ok (.iconst 0, 1) := by decide +kernel
theorem dX3_executeLastQuarter_73 : decode cX3_executeLastQuarter 73 = .ok (.ireturn, 1) := by decide +kernel
theorem dX3_executeLastQuarter_74 : decode cX3_executeLastQuarter 74 = .ok (.iload_n 1, 1) := by decide +kernel
theorem dX3_executeLastQuarter_75 : decode cX3_executeLastQuarter 75 = .ok (.iconst 4, 1) := by decide +kernel
theorem dX3_executeLastQuarter_76 : decode cX3_executeLastQuarter 76 = .ok (.if_icmp .ge 15, 3) := by decide +kernel
theorem dX3_executeLastQuarter_79 : decode cX3_executeLastQuarter 79 = .ok (.aload_n 0, 1) := by decide +kernel
theorem dX3_executeLastQuarter_80 : decode cX3_executeLastQuarter 80 = .ok (.aload_n 0, 1) := by decide +kernel
theorem dX3_executeLastQuarter_81 : decode cX3_executeLastQuarter 81 = .ok (.iload_n 1, 1) := by decide +kernel
theorem dX3_executeLastQuarter_82 : decode cX3_executeLastQuarter 82 = .ok (.invokevirtual 132, 3) := by decide +kernel
theorem dX3_executeLastQuarter_85 : decode cX3_executeLastQuarter 85 = .ok (.invokevirtual 170, 3) := by decide +kernel
theorem dX3_executeLastQuarter_88 : decode cX3_executeLastQuarter 88 = .ok (.goto 8, 3) := by decide +kernel
theorem dX3_executeLastQuarter_91 : decode cX3_executeLastQuarter 91 = .ok (.aload_n 0, 1) := by decide +kernel
theorem dX3_executeLastQuarter_92 : decode cX3_executeLastQuarter 92 = .ok (.iload_n 1, 1) := by decide +kernel
theorem dX3_executeLastQuarter_93 : decode cX3_executeLastQuarter 93 = .ok (.invokevirtual 173, 3) := by decide +kernel
theorem dX3_executeLastQuarter_96 : decode cX3_executeLastQuarter 96 = .ok (.ireturn, 1) := by decide +kernel
theorem dX3_executeLastQuarter_97 : decode cX3_executeLastQuarter 97 = .ok (.iload_n 1, 1) := by decide +kernel
theorem dX3_executeLastQuarter_98 : decode cX3_executeLastQuarter 98 = .ok (.ifCond .ne 11, 3) := by decide +kernel
theorem dX3_executeLastQuarter_101 : decode cX3_executeLastQuarter 101 = .ok (.aload_n 0, 1) := by decide +kernel
theorem dX3_executeLastQuarter_102 : decode cX3_executeLastQuarter 102 = .ok (.iconst 1, 1) := by decide +kernel
theorem dX3_executeLastQuarter_103 : decode cX3_executeLastQuarter 103 = .ok (.invokevirtual 170, 3) := by decide +kernel
theorem dX3_executeLastQuarter_106 : decode cX3_executeLastQuarter 106 = .ok (.goto 18, 3) := by decide +kernel
theorem dX3_executeLastQuarter_109 : decode cX3_executeLastQuarter 109 = .ok (.aload_n 0, 1) := by decide +kernel
theorem dX3_executeLastQuarter_110 : decode cX3_executeLastQuarter 110 = .ok (.iload_n 1, 1) := by decide +kernel
theorem dX3_executeLastQuarter_111 : decode cX3_executeLastQuarter 111 = .ok (.bipush 7, 2) := by decide +kernel
theorem dX3_executeLastQuarter_113 : decode cX3_executeLastQuarter 113 = .ok (.if_icmp .ne 7, 3) := by decide +kernel
theorem dX3_executeLastQuarter_116 : decode cX3_executeLastQuarter 116 = .ok (.iconst 1, 1) := by decide +kernel
theorem dX3_executeLastQuarter_117 : decode cX3_executeLastQuarter 117 = .ok (.goto 4, 3) := by decide +kernel
theorem dX3_executeLastQuarter_120 : decode cX3_executeLastQuarter 120 = .ok (.iconst 0, 1) := by decide +kernel
theorem dX3_executeLastQuarter_121 : decode cX3_executeLastQuarter 121 = .ok (.invokevirtual 176, 3) := by decide +kernel
theorem dX3_executeLastQuarter_124 : decode cX3_executeLastQuarter 124 = .ok (.ireturn, 1) := by decide +kernel
theorem dX3_executeLastQuarter_125 : decode cX3_executeLastQuarter 125 = .ok (.aload_n 0, 1) := by decide +kernel
theorem dX3_executeLastQuarter_126 : decode cX3_executeLastQuarter 126 = .ok (.aload_n 0, 1) := by decide +kernel
theorem dX3_executeLastQuarter_127 : decode cX3_executeLastQuarter 127 = .ok (.iload_n 1, 1) := by decide +kernel
theorem dX3_executeLastQuarter_128 : decode cX3_executeLastQuarter 128 = .ok (.invokevirtual 132, 3) := by decide +kernel
theorem dX3_executeLastQuarter_131 : decode cX3_executeLastQuarter 131 = .ok (.invokevirtual 179, 3) := by decide +kernel
theorem dX3_executeLastQuarter_134 : decode cX3_executeLastQuarter 134 = .ok (.ireturn, 1) := by decide +kernel
theorem dX3_executeLastQuarter_135 : decode cX3_executeLastQuarter 135 = .ok (.iload_n 1, 1) := by decide +kernel
theorem dX3_executeLastQuarter_136 : decode cX3_executeLastQuarter 136 = .ok (.iconst 1, 1) := by decide +kernel
theorem dX3_executeLastQuarter_137 : decode cX3_executeLastQuarter 137 = .ok (.if_icmp .ne 11, 3) := by decide +kernel
theorem dX3_executeLastQuarter_140 : decode cX3_executeLastQuarter 140 = .ok (.aload_n 0, 1) := by decide +kernel
theorem dX3_executeLastQuarter_141 : decode cX3_executeLastQuarter 141 = .ok (.iconst 1, 1) := by decide +kernel
theorem dX3_executeLastQuarter_142 : decode cX3_executeLastQuarter 142 = .ok (.invokevirtual 179, 3) := by decide +kernel
theorem dX3_executeLastQuarter_145 : decode cX3_executeLastQuarter 145 = .ok (.goto 8, 3) := by decide +kernel
theorem dX3_executeLastQuarter_148 : decode cX3_executeLastQuarter 148 = .ok (.aload_n 0, 1) := by decide +kernel
theorem dX3_executeLastQuarter_149 : decode cX3_executeLastQuarter 149 = .ok (.iload_n 1, 1) := by decide +kernel
theorem dX3_executeLastQuarter_150 : decode cX3_executeLastQuarter 150 = .ok (.invokevirtual 182, 3) := by decide +kernel
theorem dX3_executeLastQuarter_153 : decode cX3_executeLastQuarter 153 = .ok (.ireturn, 1) := by decide +kernel
theorem dX3_executeLastQuarter_154 : decode cX3_executeLastQuarter 154 = .ok (.aload_n 0, 1) := by decide +kernel
theorem dX3_executeLastQuarter_155 : decode cX3_executeLastQuarter 155 = .ok (.getfield 19, 3) := by decide +kernel
theorem dX3_executeLastQuarter_158 : decode cX3_executeLastQuarter 158 = .ok (.iload_n 1, 1) := by decide +kernel
theorem dX3_executeLastQuarter_159 : decode cX3_executeLastQuarter 159 = .ok (.aload_n 0, 1) := by decide +kernel
theorem dX3_executeLastQuarter_160 : decode cX3_executeLastQuarter 160 = .ok (.invokevirtual 155, 3) := by decide +kernel
theorem dX3_executeLastQuarter_163 : decode cX3_executeLastQuarter 163 = .ok (.invokevirtual 123, 3) := by decide +kernel
theorem dX3_executeLastQuarter_166 : decode cX3_executeLastQuarter 166 = .ok (.iconst 0, 1) := by decide +kernel
theorem dX3_executeLastQuarter_167 : decode cX3_executeLastQuarter 167 = .ok (.ireturn, 1) := by decide +kernel
theorem dX3_executeLastQuarter_168 : decode cX3_executeLastQuarter 168 = .ok (.aload_n 0, 1) := by decide +kernel
theorem dX3_executeLastQuarter_169 : decode cX3_executeLastQuarter 169 = .ok (.aload_n 0, 1) := by decide +kernel
theorem dX3_executeLastQuarter_170 : decode cX3_executeLastQuarter 170 = .ok (.getfield 27, 3) := by decide +kernel
theorem dX3_executeLastQuarter_173 : decode cX3_executeLastQuarter 173 = .ok (.iconst 5, 1) := by decide +kernel
theorem dX3_executeLastQuarter_174 : decode cX3_executeLastQuarter 174 = .ok (.invokevirtual 49, 3) := by decide +kernel
theorem dX3_executeLastQuarter_177 : decode cX3_executeLastQuarter 177 = .ok (.invokevirtual 100, 3) := by decide +kernel
theorem dX3_executeLastQuarter_180 : decode cX3_executeLastQuarter 180 = .ok (.aload_n 0, 1) := by decide +kernel
theorem dX3_executeLastQuarter_181 : decode cX3_executeLastQuarter 181 = .ok (.getfield 27, 3) := by decide +kernel
theorem dX3_executeLastQuarter_184 : decode cX3_executeLastQuarter 184 = .ok (.iconst 5, 1) := by decide +kernel
theorem dX3_executeLastQuarter_185 : decode cX3_executeLastQuarter 185 = .ok (.bipush 8, 2) := by decide +kernel
theorem dX3_executeLastQuarter_187 : decode cX3_executeLastQuarter 187 = .ok (.iload_n 1, 1) := by decide +kernel
theorem dX3_executeLastQuarter_188 : decode cX3_executeLastQuarter 188 = .ok (.imul, 1) := by decide +kernel
theorem dX3_executeLastQuarter_189 : decode cX3_executeLastQuarter 189 = .ok (.invokevirtual 54, 3) := by decide +kernel
theorem dX3_executeLastQuarter_192 : decode cX3_executeLastQuarter 192 = .ok (.pop, 1) := by decide +kernel
theorem dX3_executeLastQuarter_193 : decode cX3_executeLastQuarter 193 = .ok (.iconst 0, 1) := by decide +kernel
theorem dX3_executeLastQuarter_194 : decode cX3_executeLastQuarter 194 = .ok (.ireturn, 1) := by decide +kernel
theorem dX3_storeSp_0 : decode cX3_storeSp 0 = .ok (.aload_n 0, 1) := by decide +kernel
theorem dX3_storeSp_1 : decode cX3_storeSp 1 = .ok (.invokevirtual 185, 3) := by decide +kernel
theorem dX3_storeSp_4 : decode cX3_storeSp 4 = .ok (.istore_n 1, 1) := by decide +kernel
theorem dX3_storeSp_5 : decode cX3_storeSp 5 = .ok (.aload_n 0, 1) := by decide +kernel
theorem dX3_storeSp_6 : decode cX3_storeSp 6 = .ok (.getfield 27, 3) := by decide +kernel
theorem dX3_storeSp_9 : decode cX3_storeSp 9 = .ok (.iconst 4, 1) := by decide +kernel
theorem dX3_storeSp_10 : decode cX3_storeSp 10 = .ok (.invokevirtual 49, 3) := by decide +kernel
theorem dX3_storeSp_13 : decode cX3_storeSp 13 = .ok (.istore_n 2, 1) := by decide +kernel
theorem dX3_storeSp_14 : decode cX3_storeSp 14 = .ok (.aload_n 0, 1) := by decide +kernel
theorem dX3_storeSp_15 : decode cX3_storeSp 15 = .ok (.getfield 10, 3) := by decide +kernel
theorem dX3_storeSp_18 : decode cX3_storeSp 18 = .ok (.iload_n 1, 1) := by decide +kernel
theorem dX3_storeSp_19 : decode cX3_storeSp 19 = .ok (.iload_n 2, 1) := by decide +kernel
theorem dX3_storeSp_20 : decode cX3_storeSp 20 = .ok (.invokevirtual 188, 3) := by decide +kernel
theorem dX3_storeSp_23 : decode cX3_storeSp 23 = .ok (.aload_n 0, 1) := by decide +kernel
theorem dX3_storeSp_24 : decode cX3_storeSp 24 = .ok (.getfield 10, 3) := by decide +kernel
theorem dX3_storeSp_27 : decode cX3_storeSp 27 = .ok (.iload_n 1, 1) := by decide +kernel
theorem dX3_storeSp_28 : decode cX3_storeSp 28 = .ok (.iconst 1, 1) := by decide +kernel
theorem dX3_storeSp_29 : decode cX3_storeSp 29 = .ok (.iadd, 1) := by decide +kernel
theorem dX3_storeSp_30 : decode cX3_storeSp 30 = .ok (.iload_n 2, 1) := by decide +kernel
theorem dX3_storeSp_31 : decode cX3_storeSp 31 = .ok (.bipush 8, 2) := by decide +kernel
theorem dX3_storeSp_33 : decode cX3_storeSp 33 = .ok (.ishr, 1) := by decide +kernel
theorem dX3_storeSp_34 : decode cX3_storeSp 34 = .ok (.invokevirtual 188, 3) := by decide +kernel
theorem dX3_storeSp_37 : decode cX3_storeSp 37 = .ok (.return_, 1) := by decide +kernel
theorem dX3_loadOrAddWord_0 : decode cX3_loadOrAddWord 0 = .ok (.iconst 1, 1) := by decide +kernel
theorem dX3_loadOrAddWord_1 : decode cX3_loadOrAddWord 1 = .ok (.iload_n 1, 1) := by decide +kernel
theorem dX3_loadOrAddWord_2 : decode cX3_loadOrAddWord 2 = .ok (.iconst 1, 1) := by decide +kernel
theorem dX3_loadOrAddWord_3 : decode cX3_loadOrAddWord 3 = .ok (.ishr, 1) := by decide +kernel
theorem dX3_loadOrAddWord_4 : decode cX3_loadOrAddWord 4 = .ok (.iadd, 1) := by decide +kernel
theorem dX3_loadOrAddWord_5 : decode cX3_loadOrAddWord 5 = .ok (.istore_n 2, 1) := by decide +kernel
theorem dX3_loadOrAddWord_6 : decode cX3_loadOrAddWord 6 = .ok (.iload_n 1, 1) := by decide +kernel
theorem dX3_loadOrAddWord_7 : decode cX3_loadOrAddWord 7 = .ok (.iconst 1, 1) := by decide +kernel
theorem dX3_loadOrAddWord_8 : decode cX3_loadOrAddWord 8 = .ok (.iand, 1) := by decide +kernel
theorem dX3_loadOrAddWord_9 : decode cX3_loadOrAddWord 9 = .ok (.ifCond .ne 19, 3) := by decide +kernel
theorem dX3_loadOrAddWord_12 : decode cX3_loadOrAddWord 12 = .ok (.aload_n 0, 1) := by decide +kernel
theorem dX3_loadOrAddWord_13 : decode cX3_loadOrAddWord 13 = .ok (.getfield 27, 3) := by decide +kernel
theorem dX3_loadOrAddWord_16 : decode cX3_loadOrAddWord 16 = .ok (.iload_n 2, 1) := by decide +kernel
theorem dX3_loadOrAddWord_17 : decode cX3_loadOrAddWord 17 = .ok (.aload_n 0, 1) := by decide +kernel
theorem dX3_loadOrAddWord_18 : decode cX3_loadOrAddWord 18 = .ok (.invokevirtual 185, 3) := by decide +kernel
theorem dX3_loadOrAddWord_21 : decode cX3_loadOrAddWord 21 = .ok (.invokevirtual 54, 3) := by decide +kernel
theorem dX3_loadOrAddWord_24 : decode cX3_loadOrAddWord 24 = .ok (.pop, 1) := by decide +kernel
theorem dX3_loadOrAddWord_25 : decode cX3_loadOrAddWord 25 = .ok (.goto 18, 3) := by decide +kernel
theorem dX3_loadOrAddWord_28 : decode cX3_loadOrAddWord 28 = .ok (.aload_n 0, 1) := by decide +kernel
theorem dX3_loadOrAddWord_29 : decode cX3_loadOrAddWord 29 = .ok (.getfield 19, 3) := by decide +kernel
theorem dX3_loadOrAddWord_32 : decode cX3_loadOrAddWord 32 = .ok (.aload_n 0, 1) := by decide +kernel
theorem dX3_loadOrAddWord_33 : decode cX3_loadOrAddWord 33 = .ok (.getfield 27, 3) := by decide +kernel
theorem dX3_loadOrAddWord_36 : decode cX3_loadOrAddWord 36 = .ok (.iload_n 2, 1) := by decide +kernel
theorem dX3_loadOrAddWord_37 : decode cX3_loadOrAddWord 37 = .ok (.invokevirtual 49, 3) := by decide +kernel
theorem dX3_loadOrAddWord_40 : decode cX3_loadOrAddWord 40 = .ok (.invokevirtual 191, 3) := by decide +kernel
theorem dX3_loadOrAddWord_43 : decode cX3_loadOrAddWord 43 = .ok (.return_, 1) := by decide +kernel
theorem dX3_loadByPair_0 : decode cX3_loadByPair 0 = .ok (.iconst 1, 1) := by decide +kernel
theorem dX3_loadByPair_1 : decode cX3_loadByPair 1 = .ok (.iload_n 1, 1) := by decide +kernel
theorem dX3_loadByPair_2 : decode cX3_loadByPair 2 = .ok (.iconst 1, 1) := by decide +kernel
theorem dX3_loadByPair_3 : decode cX3_loadByPair 3 = .ok (.ishr, 1) := by decide +kernel
theorem dX3_loadByPair_4 : decode cX3_loadByPair 4 = .ok (.iadd, 1) := by decide +kernel
theorem dX3_loadByPair_5 : decode cX3_loadByPair 5 = .ok (.iconst 3, 1) := by decide +kernel
theorem dX3_loadByPair_6 : decode cX3_loadByPair 6 = .ok (.invokestatic 194, 3) := by decide +kernel
theorem dX3_loadByPair_9 : decode cX3_loadByPair 9 = .ok (.istore_n 2, 1) := by decide +kernel
theorem dX3_loadByPair_10 : decode cX3_loadByPair 10 = .ok (.aload_n 0, 1) := by decide +kernel
theorem dX3_loadByPair_11 : decode cX3_loadByPair 11 = .ok (.getfield 27, 3) := by decide +kernel
theorem dX3_loadByPair_14 : decode cX3_loadByPair 14 = .ok (.iload_n 2, 1) := by decide +kernel
theorem dX3_loadByPair_15 : decode cX3_loadByPair 15 = .ok (.invokevirtual 49, 3) := by decide +kernel
theorem dX3_loadByPair_18 : decode cX3_loadByPair 18 = .ok (.istore_n 3, 1) := by decide +kernel
theorem dX3_loadByPair_19 : decode cX3_loadByPair 19 = .ok (.iload_n 1, 1) := by decide +kernel
theorem dX3_loadByPair_20 : decode cX3_loadByPair 20 = .ok (.iconst 1, 1) := by decide +kernel
theorem dX3_loadByPair_21 : decode cX3_loadByPair 21 = .ok (.iand, 1) := by decide +kernel
theorem dX3_loadByPair_22 : decode cX3_loadByPair 22 = .ok (.ifCond .ne 21, 3) := by decide +kernel
theorem dX3_loadByPair_25 : decode cX3_loadByPair 25 = .ok (.aload_n 0, 1) := by decide +kernel
theorem dX3_loadByPair_26 : decode cX3_loadByPair 26 = .ok (.getfield 10, 3) := by decide +kernel
theorem dX3_loadByPair_29 : decode cX3_loadByPair 29 = .ok (.iload_n 3, 1) := by decide +kernel
theorem dX3_loadByPair_30 : decode cX3_loadByPair 30 = .ok (.aload_n 0, 1) := by decide +kernel
theorem dX3_loadByPair_31 : decode cX3_loadByPair 31 = .ok (.getfield 27, 3) := by decide +kernel
theorem dX3_loadByPair_34 : decode cX3_loadByPair 34 = .ok (.invokevirtual 199, 3) := by decide +kernel
theorem dX3_loadByPair_37 : decode cX3_loadByPair 37 = .ok (.invokevirtual 188, 3) := by decide +kernel
theorem dX3_loadByPair_40 : decode cX3_loadByPair 40 = .ok (.goto 18, 3) := by decide +kernel
theorem dX3_loadByPair_43 : decode cX3_loadByPair 43 = .ok (.aload_n 0, 1) := by decide +kernel
theorem dX3_loadByPair_44 : decode cX3_loadByPair 44 = .ok (.getfield 27, 3) := by decide +kernel
theorem dX3_loadByPair_47 : decode cX3_loadByPair 47 = .ok (.aload_n 0, 1) := by decide +kernel
theorem dX3_loadByPair_48 : decode cX3_loadByPair 48 = .ok (.getfield 10, 3) := by decide +kernel
theorem dX3_loadByPair_51 : decode cX3_loadByPair 51 = .ok (.iload_n 3, 1) := by decide +kernel
theorem dX3_loadByPair_52 : decode cX3_loadByPair 52 = .ok (.invokevirtual 37, 3) := by decide +kernel
theorem dX3_loadByPair_55 : decode cX3_loadByPair 55 = .ok (.invokevirtual 202, 3) := by decide +kernel
theorem dX3_loadByPair_58 : decode cX3_loadByPair 58 = .ok (.iload_n 1, 1) := by decide +kernel
theorem dX3_loadByPair_59 : decode cX3_loadByPair 59 = .ok (.iconst 4, 1) := by decide +kernel
theorem dX3_loadByPair_60 : decode cX3_loadByPair 60 = .ok (.if_icmp .lt 27, 3) := by decide +kernel
theorem dX3_loadByPair_63 : decode cX3_loadByPair 63 = .ok (.aload_n 0, 1) := by decide +kernel
theorem dX3_loadByPair_64 : decode cX3_loadByPair 64 = .ok (.getfield 27, 3) := by decide +kernel
theorem dX3_loadByPair_67 : decode cX3_loadByPair 67 = .ok (.iconst 3, 1) := by decide +kernel
theorem dX3_loadByPair_68 : decode cX3_loadByPair 68 = .ok (.iload_n 1, 1) := by decide +kernel
theorem dX3_loadByPair_69 : decode cX3_loadByPair 69 = .ok (.bipush 6, 2) := by decide +kernel
theorem dX3_loadByPair_71 : decode cX3_loadByPair 71 = .ok (.if_icmp .ge 9, 3) := by decide +kernel
theorem dX3_loadByPair_74 : decode cX3_loadByPair 74 = .ok (.iload_n 3, 1) := by decide +kernel
theorem dX3_loadByPair_75 : decode cX3_loadByPair 75 = .ok (.iconst 1, 1) := by decide +kernel
theorem dX3_loadByPair_76 : decode cX3_loadByPair 76 = .ok (.iadd, 1) := by decide +kernel
theorem dX3_loadByPair_77 : decode cX3_loadByPair 77 = .ok (.goto 6, 3) := by decide +kernel
theorem dX3_loadByPair_80 : decode cX3_loadByPair 80 = .ok (.iload_n 3, 1) := by decide +kernel
theorem dX3_loadByPair_81 : decode cX3_loadByPair 81 = .ok (.iconst 1, 1) := by decide +kernel
theorem dX3_loadByPair_82 : decode cX3_loadByPair 82 = .ok (.isub, 1) := by decide +kernel
theorem dX3_loadByPair_83 : decode cX3_loadByPair 83 = .ok (.invokevirtual 54, 3) := by decide +kernel
theorem dX3_loadByPair_86 : decode cX3_loadByPair 86 = .ok (.pop, 1) := by decide +kernel
theorem dX3_loadByPair_87 : decode cX3_loadByPair 87 = .ok (.return_, 1) := by decide +kernel
theorem dX3_stepPair_0 : decode cX3_stepPair 0 = .ok (.iconst 1, 1) := by decide +kernel
theorem dX3_stepPair_1 : decode cX3_stepPair 1 = .ok (.iload_n 1, 1) := by decide +kernel
theorem dX3_stepPair_2 : decode cX3_stepPair 2 = .ok (.iconst 1, 1) := by decide +kernel
theorem dX3_stepPair_3 : decode cX3_stepPair 3 = .ok (.ishr, 1) := by decide +kernel
theorem dX3_stepPair_4 : decode cX3_stepPair 4 = .ok (.iadd, 1) := by decide +kernel
theorem dX3_stepPair_5 : decode cX3_stepPair 5 = .ok (.istore_n 2, 1) := by decide +kernel
theorem dX3_stepPair_6 : decode cX3_stepPair 6 = .ok (.iload_n 1, 1) := by decide +kernel
theorem dX3_stepPair_7 : decode cX3_stepPair 7 = .ok (.iconst 1, 1) := by decide +kernel
theorem dX3_stepPair_8 : decode cX3_stepPair 8 = .ok (.iand, 1) := by decide +kernel
theorem dX3_stepPair_9 : decode cX3_stepPair 9 = .ok (.ifCond .ne 7, 3) := by decide +kernel
theorem dX3_stepPair_12 : decode cX3_stepPair 12 = .ok (.iconst 1, 1) := by decide +kernel
theorem dX3_stepPair_13 : decode cX3_stepPair 13 = .ok (.goto 4, 3) := by decide +kernel
theorem dX3_stepPair_16 : decode cX3_stepPair 16 = .ok (.iconst (-1), 1) := by decide +kernel
theorem dX3_stepPair_17 : decode cX3_stepPair 17 = .ok (.istore_n 3, 1) := by decide +kernel
theorem dX3_stepPair_18 : decode cX3_stepPair 18 = .ok (.aload_n 0, 1) := by decide +kernel
theorem dX3_stepPair_19 : decode cX3_stepPair 19 = .ok (.getfield 27, 3) := by decide +kernel
theorem dX3_stepPair_22 : decode cX3_stepPair 22 = .ok (.iload_n 2, 1) := by decide +kernel
theorem dX3_stepPair_23 : decode cX3_stepPair 23 = .ok (.aload_n 0, 1) := by decide +kernel
theorem dX3_stepPair_24 : decode cX3_stepPair 24 = .ok (.getfield 27, 3) := by decide +kernel
theorem dX3_stepPair_27 : decode cX3_stepPair 27 = .ok (.iload_n 2, 1) := by decide +kernel
theorem dX3_stepPair_28 : decode cX3_stepPair 28 = .ok (.invokevirtual 49, 3) := by decide +kernel
theorem dX3_stepPair_31 : decode cX3_stepPair 31 = .ok (.iload_n 3, 1) := by decide +kernel
theorem dX3_stepPair_32 : decode cX3_stepPair 32 = .ok (.iadd, 1) := by decide +kernel
theorem dX3_stepPair_33 : decode cX3_stepPair 33 = .ok (.invokevirtual 54, 3) := by decide +kernel
theorem dX3_stepPair_36 : decode cX3_stepPair 36 = .ok (.pop, 1) := by decide +kernel
theorem dX3_stepPair_37 : decode cX3_stepPair 37 = .ok (.return_, 1) := by decide +kernel
theorem dX3_executeWithByte_0 : decode cX3_executeWithByte 0 = .ok (.aload_n 0, 1) := by decide +kernel
theorem dX3_executeWithByte_1 : decode cX3_executeWithByte 1 = .ok (.invokevirtual 155, 3) := by decide +kernel
theorem dX3_executeWithByte_4 : decode cX3_executeWithByte 4 = .ok (.istore_n 2, 1) := by decide +kernel
theorem dX3_executeWithByte_5 : decode cX3_executeWithByte 5 = .ok (.iload_n 1, 1) := by decide +kernel
theorem dX3_executeWithByte_6 : decode cX3_executeWithByte 6 = .ok (.tableswitch 88 4 6 #[26, 47, 67], 26) := by decide +kernel
theorem dX3_executeWithByte_32 : decode cX3_executeWithByte 32 = .ok (.aload_n 0, 1) := by decide +kernel
theorem dX3_executeWithByte_33 : decode cX3_executeWithByte 33 = .ok (.getfield 10, 3) := by decide +kernel
theorem dX3_executeWithByte_36 : decode cX3_executeWithByte 36 = .ok (.ldc 205, 2) := by decide +kernel
theorem dX3_executeWithByte_38 : decode cX3_executeWithByte 38 = .ok (.iload_n 2, 1) := by decide +kernel
theorem dX3_executeWithByte_39 : decode cX3_executeWithByte 39 = .ok (.iadd, 1) := by decide +kernel
theorem dX3_executeWithByte_40 : decode cX3_executeWithByte 40 = .ok (.aload_n 0, 1) := by decide +kernel
theorem dX3_executeWithByte_41 : decode cX3_executeWithByte 41 = .ok (.getfield 27, 3) := by decide +kernel
theorem dX3_executeWithByte_44 : decode cX3_executeWithByte 44 = .ok (.invokevirtual 199, 3) := by decide +kernel
theorem dX3_executeWithByte_47 : decode cX3_executeWithByte 47 = .ok (.invokevirtual 188, 3) := by decide +kernel
theorem dX3_executeWithByte_50 : decode cX3_executeWithByte 50 = .ok (.goto 61, 3) := by decide +kernel
theorem dX3_executeWithByte_53 : decode cX3_executeWithByte 53 = .ok (.aload_n 0, 1) := by decide +kernel
theorem dX3_executeWithByte_54 : decode cX3_executeWithByte 54 = .ok (.getfield 27, 3) := by decide +kernel
theorem dX3_executeWithByte_57 : decode cX3_executeWithByte 57 = .ok (.iconst 4, 1) := by decide +kernel
theorem dX3_executeWithByte_58 : decode cX3_executeWithByte 58 = .ok (.aload_n 0, 1) := by decide +kernel
theorem dX3_executeWithByte_59 : decode cX3_executeWithByte 59 = .ok (.getfield 19, 3) := by decide +kernel
theorem dX3_executeWithByte_62 : decode cX3_executeWithByte 62 = .ok (.iload_n 2, 1) := by decide +kernel
theorem dX3_executeWithByte_63 : decode cX3_executeWithByte 63 = .ok (.invokevirtual 206, 3) := by decide +kernel
theorem dX3_executeWithByte_66 : decode cX3_executeWithByte 66 = .ok (.invokevirtual 54, 3) := by decide +kernel
theorem dX3_executeWithByte_69 : decode cX3_executeWithByte 69 = .ok (.pop, 1) := by decide +kernel
theorem dX3_executeWithByte_70 : decode cX3_executeWithByte 70 = .ok (.goto 41, 3) := by decide +kernel
theorem dX3_executeWithByte_73 : decode cX3_executeWithByte 73 = .ok (.aload_n 0, 1) := by decide +kernel
theorem dX3_executeWithByte_74 : decode cX3_executeWithByte 74 = .ok (.getfield 27, 3) := by decide +kernel
theorem dX3_executeWithByte_77 : decode cX3_executeWithByte 77 = .ok (.aload_n 0, 1) := by decide +kernel
theorem dX3_executeWithByte_78 : decode cX3_executeWithByte 78 = .ok (.getfield 10, 3) := by decide +kernel
theorem dX3_executeWithByte_81 : decode cX3_executeWithByte 81 = .ok (.ldc 205, 2) := by decide +kernel
theorem dX3_executeWithByte_83 : decode cX3_executeWithByte 83 = .ok (.iload_n 2, 1) := by decide +kernel
theorem dX3_executeWithByte_84 : decode cX3_executeWithByte 84 = .ok (.iadd, 1) := by decide +kernel
theorem dX3_executeWithByte_85 : decode cX3_executeWithByte 85 = .ok (.invokevirtual 37, 3) := by decide +kernel
theorem dX3_executeWithByte_88 : decode cX3_executeWithByte 88 = .ok (.invokevirtual 202, 3) := by decide +kernel
theorem dX3_executeWithByte_91 : decode cX3_executeWithByte 91 = .ok (.goto 20, 3) := by decide +kernel
theorem dX3_executeWithByte_94 : decode cX3_executeWithByte 94 = .ok (.aload_n 0, 1) := by decide +kernel
theorem dX3_executeWithByte_95 : decode cX3_executeWithByte 95 = .ok (.getfield 27, 3) := by decide +kernel
theorem dX3_executeWithByte_98 : decode cX3_executeWithByte 98 = .ok (.iconst 3, 1) := by decide +kernel
theorem dX3_executeWithByte_99 : decode cX3_executeWithByte 99 = .ok (.aload_n 0, 1) := by decide +kernel
theorem dX3_executeWithByte_100 : decode cX3_executeWithByte 100 = .ok (.getfield 19, 3) := by decide +kernel
theorem dX3_executeWithByte_103 : decode cX3_executeWithByte 103 = .ok (.iload_n 2, 1) := by decide +kernel
theorem dX3_executeWithByte_104 : decode cX3_executeWithByte 104 = .ok (.invokevirtual 206, 3) := by decide +kernel
theorem dX3_executeWithByte_107 : decode cX3_executeWithByte 107 = .ok (.invokevirtual 54, 3) := by decide +kernel
theorem dX3_executeWithByte_110 : decode cX3_executeWithByte 110 = .ok (.pop, 1) := by decide +kernel
theorem dX3_executeWithByte_111 : decode cX3_executeWithByte 111 = .ok (.iconst 0, 1) := by decide +kernel
theorem dX3_executeWithByte_112 : decode cX3_executeWithByte 112 = .ok (.ireturn, 1) := by decide +kernel
theorem dX3_popOrMove_0 : decode cX3_popOrMove 0 = .ok (.iload_n 1, 1) := by decide +kernel
theorem dX3_popOrMove_1 : decode cX3_popOrMove 1 = .ok (.tableswitch 120 1 7 #[43, 120, 59, 120, 80, 120, 100], 43) := by decide +kernel
theorem dX3_popOrMove_44 : decode cX3_popOrMove 44 = .ok (.aload_n 0, 1) := by decide +kernel
theorem dX3_popOrMove_45 : decode cX3_popOrMove 45 = .ok (.getfield 27, 3) := by decide +kernel
theorem dX3_popOrMove_48 : decode cX3_popOrMove 48 = .ok (.iconst 5, 1) := by decide +kernel
theorem dX3_popOrMove_49 : decode cX3_popOrMove 49 = .ok (.aload_n 0, 1) := by decide +kernel
theorem dX3_popOrMove_50 : decode cX3_popOrMove 50 = .ok (.invokevirtual 209, 3) := by decide +kernel
theorem dX3_popOrMove_53 : decode cX3_popOrMove 53 = .ok (.invokevirtual 54, 3) := by decide +kernel
theorem dX3_popOrMove_56 : decode cX3_popOrMove 56 = .ok (.pop, 1) := by decide +kernel
theorem dX3_popOrMove_57 : decode cX3_popOrMove 57 = .ok (.goto 80, 3) := by decide +kernel
theorem dX3_popOrMove_60 : decode cX3_popOrMove 60 = .ok (.aload_n 0, 1) := by decide +kernel
theorem dX3_popOrMove_61 : decode cX3_popOrMove 61 = .ok (.getfield 27, 3) := by decide +kernel
theorem dX3_popOrMove_64 : decode cX3_popOrMove 64 = .ok (.iconst 5, 1) := by decide +kernel
theorem dX3_popOrMove_65 : decode cX3_popOrMove 65 = .ok (.aload_n 0, 1) := by decide +kernel
theorem dX3_popOrMove_66 : decode cX3_popOrMove 66 = .ok (.invokevirtual 209, 3) := by decide +kernel
theorem dX3_popOrMove_69 : decode cX3_popOrMove 69 = .ok (.invokevirtual 54, 3) := by decide +kernel
theorem dX3_popOrMove_72 : decode cX3_popOrMove 72 = .ok (.pop, 1) := by decide +kernel
theorem dX3_popOrMove_73 : decode cX3_popOrMove 73 = .ok (.aload_n 0, 1) := by decide +kernel
theorem dX3_popOrMove_74 : decode cX3_popOrMove 74 = .ok (.iconst 1, 1) := by decide +kernel
theorem dX3_popOrMove_75 : decode cX3_popOrMove 75 = .ok (.putfield 58, 3) := by decide +kernel
theorem dX3_popOrMove_78 : decode cX3_popOrMove 78 = .ok (.goto 59, 3) := by decide +kernel
theorem dX3_popOrMove_81 : decode cX3_popOrMove 81 = .ok (.aload_n 0, 1) := by decide +kernel
theorem dX3_popOrMove_82 : decode cX3_popOrMove 82 = .ok (.getfield 27, 3) := by decide +kernel
theorem dX3_popOrMove_85 : decode cX3_popOrMove 85 = .ok (.iconst 5, 1) := by decide +kernel
theorem dX3_popOrMove_86 : decode cX3_popOrMove 86 = .ok (.aload_n 0, 1) := by decide +kernel
theorem dX3_popOrMove_87 : decode cX3_popOrMove 87 = .ok (.getfield 27, 3) := by decide +kernel
theorem dX3_popOrMove_90 : decode cX3_popOrMove 90 = .ok (.iconst 3, 1) := by decide +kernel
theorem dX3_popOrMove_91 : decode cX3_popOrMove 91 = .ok (.invokevirtual 49, 3) := by decide +kernel
theorem dX3_popOrMove_94 : decode cX3_popOrMove 94 = .ok (.invokevirtual 54, 3) := by decide +kernel
theorem dX3_popOrMove_97 : decode cX3_popOrMove 97 = .ok (.pop, 1) := by decide +kernel
theorem dX3_popOrMove_98 : decode cX3_popOrMove 98 = .ok (.goto 39, 3) := by decide +kernel
theorem dX3_popOrMove_101 : decode cX3_popOrMove 101 = .ok (.aload_n 0, 1) := by decide +kernel
theorem dX3_popOrMove_102 : decode cX3_popOrMove 102 = .ok (.getfield 27, 3) := by decide +kernel
theorem dX3_popOrMove_105 : decode cX3_popOrMove 105 = .ok (.iconst 4, 1) := by decide +kernel
theorem dX3_popOrMove_106 : decode cX3_popOrMove 106 = .ok (.aload_n 0, 1) := by decide +kernel
theorem dX3_popOrMove_107 : decode cX3_popOrMove 107 = .ok (.getfield 27, 3) := by decide +kernel
theorem dX3_popOrMove_110 : decode cX3_popOrMove 110 = .ok (.iconst 3, 1) := by decide +kernel
theorem dX3_popOrMove_111 : decode cX3_popOrMove 111 = .ok (.invokevirtual 49, 3) := by decide +kernel
theorem dX3_popOrMove_114 : decode cX3_popOrMove 114 = .ok (.invokevirtual 54, 3) := by decide +kernel
theorem dX3_popOrMove_117 : decode cX3_popOrMove 117 = .ok (.pop, 1) := by decide +kernel
theorem dX3_popOrMove_118 : decode cX3_popOrMove 118 = .ok (.goto 19, 3) := by decide +kernel
theorem dX3_popOrMove_121 : decode cX3_popOrMove 121 = .ok (.aload_n 0, 1) := by decide +kernel
theorem dX3_popOrMove_122 : decode cX3_popOrMove 122 = .ok (.getfield 27, 3) := by decide +kernel
theorem dX3_popOrMove_125 : decode cX3_popOrMove 125 = .ok (.iload_n 1, 1) := by decide +kernel
theorem dX3_popOrMove_126 : decode cX3_popOrMove 126 = .ok (.invokestatic 212, 3) := by decide +kernel
theorem dX3_popOrMove_129 : decode cX3_popOrMove 129 = .ok (.aload_n 0, 1) := by decide +kernel
theorem dX3_popOrMove_130 : decode cX3_popOrMove 130 = .ok (.invokevirtual 209, 3) := by decide +kernel
theorem dX3_popOrMove_133 : decode cX3_popOrMove 133 = .ok (.invokevirtual 54, 3) := by decide +kernel
theorem dX3_popOrMove_136 : decode cX3_popOrMove 136 = .ok (.pop, 1) := by decide +kernel
theorem dX3_popOrMove_137 : decode cX3_popOrMove 137 = .ok (.return_, 1) := by decide +kernel
theorem dX3_loadFar_0 : decode cX3_loadFar 0 = .ok (.iload_n 1, 1) := by decide +kernel
theorem dX3_loadFar_1 : decode cX3_loadFar 1 = .ok (.iconst 1, 1) := by decide +kernel
theorem dX3_loadFar_2 : decode cX3_loadFar 2 = .ok (.iand, 1) := by decide +kernel
theorem dX3_loadFar_3 : decode cX3_loadFar 3 = .ok (.ifCond .ne 17, 3) := by decide +kernel
theorem dX3_loadFar_6 : decode cX3_loadFar 6 = .ok (.ldc 205, 2) := by decide +kernel
theorem dX3_loadFar_8 : decode cX3_loadFar 8 = .ok (.aload_n 0, 1) := by decide +kernel
theorem dX3_loadFar_9 : decode cX3_loadFar 9 = .ok (.getfield 27, 3) := by decide +kernel
theorem dX3_loadFar_12 : decode cX3_loadFar 12 = .ok (.iconst 1, 1) := by decide +kernel
theorem dX3_loadFar_13 : decode cX3_loadFar 13 = .ok (.invokevirtual 215, 3) := by decide +kernel
theorem dX3_loadFar_16 : decode cX3_loadFar 16 = .ok (.iadd, 1) := by decide +kernel
theorem dX3_loadFar_17 : decode cX3_loadFar 17 = .ok (.goto 7, 3) := by decide +kernel
theorem dX3_loadFar_20 : decode cX3_loadFar 20 = .ok (.aload_n 0, 1) := by decide +kernel
theorem dX3_loadFar_21 : decode cX3_loadFar 21 = .ok (.invokevirtual 185, 3) := by decide +kernel
theorem dX3_loadFar_24 : decode cX3_loadFar 24 = .ok (.istore_n 2, 1) := by decide +kernel
theorem dX3_loadFar_25 : decode cX3_loadFar 25 = .ok (.iload_n 1, 1) := by decide +kernel
theorem dX3_loadFar_26 : decode cX3_loadFar 26 = .ok (.bipush 6, 2) := by decide +kernel
theorem dX3_loadFar_28 : decode cX3_loadFar 28 = .ok (.if_icmp .ge 21, 3) := by decide +kernel
theorem dX3_loadFar_31 : decode cX3_loadFar 31 = .ok (.aload_n 0, 1) := by decide +kernel
theorem dX3_loadFar_32 : decode cX3_loadFar 32 = .ok (.getfield 10, 3) := by decide +kernel
theorem dX3_loadFar_35 : decode cX3_loadFar 35 = .ok (.iload_n 2, 1) := by decide +kernel
theorem dX3_loadFar_36 : decode cX3_loadFar 36 = .ok (.aload_n 0, 1) := by decide +kernel
theorem dX3_loadFar_37 : decode cX3_loadFar 37 = .ok (.getfield 27, 3) := by decide +kernel
theorem dX3_loadFar_40 : decode cX3_loadFar 40 = .ok (.invokevirtual 199, 3) := by decide +kernel
theorem dX3_loadFar_43 : decode cX3_loadFar 43 = .ok (.invokevirtual 188, 3) := by decide +kernel
theorem dX3_loadFar_46 : decode cX3_loadFar 46 = .ok (.goto 18, 3) := by decide +kernel
theorem dX3_loadFar_49 : decode cX3_loadFar 49 = .ok (.aload_n 0, 1) := by decide +kernel
theorem dX3_loadFar_50 : decode cX3_loadFar 50 = .ok (.getfield 27, 3) := by decide +kernel
theorem dX3_loadFar_53 : decode cX3_loadFar 53 = .ok (.aload_n 0, 1) := by decide +kernel
theorem dX3_loadFar_54 : decode cX3_loadFar 54 = .ok (.getfield 10, 3) := by decide +kernel
theorem dX3_loadFar_57 : decode cX3_loadFar 57 = .ok (.iload_n 2, 1) := by decide +kernel
theorem dX3_loadFar_58 : decode cX3_loadFar 58 = .ok (.invokevirtual 37, 3) := by decide +kernel
theorem dX3_loadFar_61 : decode cX3_loadFar 61 = .ok (.invokevirtual 202, 3) := by decide +kernel
theorem dX3_loadFar_64 : decode cX3_loadFar 64 = .ok (.iconst 0, 1) := by decide +kernel
theorem dX3_loadFar_65 : decode cX3_loadFar 65 = .ok (.ireturn, 1) := by decide +kernel
theorem dX3_switchInterrupts_0 : decode cX3_switchInterrupts 0 = .ok (.iload_n 1, 1) := by decide +kernel
theorem dX3_switchInterrupts_1 : decode cX3_switchInterrupts 1 = .ok (.ifCond .ne 16, 3) := by decide +kernel
theorem dX3_switchInterrupts_4 : decode cX3_switchInterrupts 4 = .ok (.aload_n 0, 1) := by decide +kernel
theorem dX3_switchInterrupts_5 : decode cX3_switchInterrupts 5 = .ok (.iconst 0, 1) := by decide +kernel
theorem dX3_switchInterrupts_6 : decode cX3_switchInterrupts 6 = .ok (.putfield 58, 3) := by decide +kernel
theorem dX3_switchInterrupts_9 : decode cX3_switchInterrupts 9 = .ok (.aload_n 0, 1) := by decide +kernel
theorem dX3_switchInterrupts_10 : decode cX3_switchInterrupts 10 = .ok (.iconst 0, 1) := by decide +kernel
theorem dX3_switchInterrupts_11 : decode cX3_switchInterrupts 11 = .ok (.putfield 62, 3) := by decide +kernel
theorem dX3_switchInterrupts_14 : decode cX3_switchInterrupts 14 = .ok (.goto 15, 3) := by decide +kernel
theorem dX3_switchInterrupts_17 : decode cX3_switchInterrupts 17 = .ok (.aload_n 0, 1) := by decide +kernel
theorem dX3_switchInterrupts_18 : decode cX3_switchInterrupts 18 = .ok (.getfield 58, 3) := by decide +kernel
theorem dX3_switchInterrupts_21 : decode cX3_switchInterrupts 21 = .ok (.ifCond .ne 8, 3) := by decide +kernel
theorem dX3_switchInterrupts_24 : decode cX3_switchInterrupts 24 = .ok (.aload_n 0, 1) := by decide +kernel
theorem dX3_switchInterrupts_25 : decode cX3_switchInterrupts 25 = .ok (.iconst 1, 1) := by decide +kernel
theorem dX3_switchInterrupts_26 : decode cX3_switchInterrupts 26 = .ok (.putfield 62, 3) := by decide +kernel
theorem dX3_switchInterrupts_29 : decode cX3_switchInterrupts 29 = .ok (.iconst 0, 1) := by decide +kernel
theorem dX3_switchInterrupts_30 : decode cX3_switchInterrupts 30 = .ok (.ireturn, 1) := by decide +kernel
theorem dX3_pushPair_0 : decode cX3_pushPair 0 = .ok (.aload_n 0, 1) := by decide +kernel
theorem dX3_pushPair_1 : decode cX3_pushPair 1 = .ok (.aload_n 0, 1) := by decide +kernel
theorem dX3_pushPair_2 : decode cX3_pushPair 2 = .ok (.getfield 27, 3) := by decide +kernel
theorem dX3_pushPair_5 : decode cX3_pushPair 5 = .ok (.iload_n 1, 1) := by decide +kernel
theorem dX3_pushPair_6 : decode cX3_pushPair 6 = .ok (.invokestatic 212, 3) := by decide +kernel
theorem dX3_pushPair_9 : decode cX3_pushPair 9 = .ok (.invokevirtual 49, 3) := by decide +kernel
theorem dX3_pushPair_12 : decode cX3_pushPair 12 = .ok (.invokevirtual 100, 3) := by decide +kernel
theorem dX3_pushPair_15 : decode cX3_pushPair 15 = .ok (.iconst 0, 1) := by decide +kernel
theorem dX3_pushPair_16 : decode cX3_pushPair 16 = .ok (.ireturn, 1) := by decide +kernel
theorem dX3_executeBitPage_0 : decode cX3_executeBitPage 0 = .ok (.aload_n 0, 1) := by decide +kernel
theorem dX3_executeBitPage_1 : decode cX3_executeBitPage 1 = .ok (.invokevirtual 155, 3) := by decide +kernel
theorem dX3_executeBitPage_4 : decode cX3_executeBitPage 4 = .ok (.istore_n 1, 1) := by decide +kernel
theorem dX3_executeBitPage_5 : decode cX3_executeBitPage 5 = .ok (.iload_n 1, 1) := by decide +kernel
theorem dX3_executeBitPage_6 : decode cX3_executeBitPage 6 = .ok (.iconst 3, 1) := by decide +kernel
theorem dX3_executeBitPage_7 : decode cX3_executeBitPage 7 = .ok (.ishr, 1) := by decide +kernel
theorem dX3_executeBitPage_8 : decode cX3_executeBitPage 8 = .ok (.bipush 7, 2) := by decide +kernel
theorem dX3_executeBitPage_10 : decode cX3_executeBitPage 10 = .ok (.iand, 1) := by decide +kernel
theorem dX3_executeBitPage_11 : decode cX3_executeBitPage 11 = .ok (.istore_n 2, 1) := by decide +kernel
theorem dX3_executeBitPage_12 : decode cX3_executeBitPage 12 = .ok (.iload_n 1, 1) := by decide +kernel
theorem dX3_executeBitPage_13 : decode cX3_executeBitPage 13 = .ok (.bipush 7, 2) := by decide +kernel
theorem dX3_executeBitPage_15 : decode cX3_executeBitPage 15 = .ok (.iand, 1) := by decide +kernel
theorem dX3_executeBitPage_16 : decode cX3_executeBitPage 16 = .ok (.istore_n 3, 1) := by decide +kernel
theorem dX3_executeBitPage_17 : decode cX3_executeBitPage 17 = .ok (.aload_n 0, 1) := by decide +kernel
theorem dX3_executeBitPage_18 : decode cX3_executeBitPage 18 = .ok (.iload_n 3, 1) := by decide +kernel
theorem dX3_executeBitPage_19 : decode cX3_executeBitPage 19 = .ok (.invokevirtual 117, 3) := by decide +kernel
theorem dX3_executeBitPage_22 : decode cX3_executeBitPage 22 = .ok (.istore 4, 2) := by decide +kernel
theorem dX3_executeBitPage_24 : decode cX3_executeBitPage 24 = .ok (.iload_n 1, 1) := by decide +kernel
theorem dX3_executeBitPage_25 : decode cX3_executeBitPage 25 = .ok (.bipush 6, 2) := by decide +kernel
theorem dX3_executeBitPage_27 : decode cX3_executeBitPage 27 = .ok (.ishr, 1) := by decide +kernel
theorem dX3_executeBitPage_28 : decode cX3_executeBitPage 28 = .ok (.tableswitch 84 0 2 #[28, 46, 68], 28) := by decide +kernel
theorem dX3_executeBitPage_56 : decode cX3_executeBitPage 56 = .ok (.aload_n 0, 1) := by decide +kernel
theorem dX3_executeBitPage_57 : decode cX3_executeBitPage 57 = .ok (.iload_n 3, 1) := by decide +kernel
theorem dX3_executeBitPage_58 : decode cX3_executeBitPage 58 = .ok (.aload_n 0, 1) := by decide +kernel
theorem dX3_executeBitPage_59 : decode cX3_executeBitPage 59 = .ok (.getfield 19, 3) := by decide +kernel
theorem dX3_executeBitPage_62 : decode cX3_executeBitPage 62 = .ok (.iload_n 2, 1) := by decide +kernel
theorem dX3_executeBitPage_63 : decode cX3_executeBitPage 63 = .ok (.iload 4, 2) := by decide +kernel
theorem dX3_executeBitPage_65 : decode cX3_executeBitPage 65 = .ok (.invokevirtual 218, 3) := by decide +kernel
theorem dX3_executeBitPage_68 : decode cX3_executeBitPage 68 = .ok (.invokevirtual 120, 3) := by decide +kernel
theorem dX3_executeBitPage_71 : decode cX3_executeBitPage 71 = .ok (.goto 52, 3) := by decide +kernel
theorem dX3_executeBitPage_74 : decode cX3_executeBitPage 74 = .ok (.aload_n 0, 1) := by decide +kernel
theorem dX3_executeBitPage_75 : decode cX3_executeBitPage 75 = .ok (.getfield 19, 3) := by decide +kernel
theorem dX3_executeBitPage_78 : decode cX3_executeBitPage 78 = .ok (.iload_n 2, 1) := by decide +kernel
theorem dX3_executeBitPage_79 : decode cX3_executeBitPage 79 = .ok (.iload 4, 2) := by decide +kernel
theorem dX3_executeBitPage_81 : decode cX3_executeBitPage 81 = .ok (.invokevirtual 221, 3) := by decide +kernel
theorem dX3_executeBitPage_84 : decode cX3_executeBitPage 84 = .ok (.iload_n 3, 1) := by decide +kernel
theorem dX3_executeBitPage_85 : decode cX3_executeBitPage 85 = .ok (.bipush 6, 2) := by decide +kernel
theorem dX3_executeBitPage_87 : decode cX3_executeBitPage 87 = .ok (.if_icmp .ne 7, 3) := by decide +kernel
theorem dX3_executeBitPage_90 : decode cX3_executeBitPage 90 = .ok (.iconst 1, 1) := by decide +kernel
theorem dX3_executeBitPage_91 : decode cX3_executeBitPage 91 = .ok (.goto 4, 3) := by decide +kernel
theorem dX3_executeBitPage_94 : decode cX3_executeBitPage 94 = .ok (.iconst 0, 1) := by decide +kernel
theorem dX3_executeBitPage_95 : decode cX3_executeBitPage 95 = .ok (.ireturn, 1) := by decide +kernel
theorem dX3_executeBitPage_96 : decode cX3_executeBitPage 96 = .ok (.aload_n 0, 1) := by decide +kernel
theorem dX3_executeBitPage_97 : decode cX3_executeBitPage 97 = .ok (.iload_n 3, 1) := by decide +kernel
theorem dX3_executeBitPage_98 : decode cX3_executeBitPage 98 = .ok (.iload 4, 2) := by decide +kernel
theorem dX3_executeBitPage_100 : decode cX3_executeBitPage 100 = .ok (.iconst 1, 1) := by decide +kernel
theorem dX3_executeBitPage_101 : decode cX3_executeBitPage 101 = .ok (.iload_n 2, 1) := by decide +kernel
theorem dX3_executeBitPage_102 : decode cX3_executeBitPage 102 = .ok (.ishl, 1) := by decide +kernel
theorem dX3_executeBitPage_103 : decode cX3_executeBitPage 103 = .ok (.iconst (-1), 1) := by decide +kernel
theorem dX3_executeBitPage_104 : decode cX3_executeBitPage 104 = .ok (.ixor, 1) := by decide +kernel
theorem dX3_executeBitPage_105 : decode cX3_executeBitPage 105 = .ok (.iand, 1) := by decide +kernel
theorem dX3_executeBitPage_106 : decode cX3_executeBitPage 106 = .ok (.invokevirtual 120, 3) := by decide +kernel
theorem dX3_executeBitPage_109 : decode cX3_executeBitPage 109 = .ok (.goto 14, 3) := by decide +kernel
theorem dX3_executeBitPage_112 : decode cX3_executeBitPage 112 = .ok (.aload_n 0, 1) := by decide +kernel
theorem dX3_executeBitPage_113 : decode cX3_executeBitPage 113 = .ok (.iload_n 3, 1) := by decide +kernel
theorem dX3_executeBitPage_114 : decode cX3_executeBitPage 114 = .ok (.iload 4, 2) := by decide +kernel
theorem dX3_executeBitPage_116 : decode cX3_executeBitPage 116 = .ok (.iconst 1, 1) := by decide +kernel
theorem dX3_executeBitPage_117 : decode cX3_executeBitPage 117 = .ok (.iload_n 2, 1) := by decide +kernel
theorem dX3_executeBitPage_118 : decode cX3_executeBitPage 118 = .ok (.ishl, 1) := by decide +kernel
theorem dX3_executeBitPage_119 : decode cX3_executeBitPage 119 = .ok (.ior, 1) := by decide +kernel
theorem dX3_executeBitPage_120 : decode cX3_executeBitPage 120 = .ok (.invokevirtual 120, 3) := by decide +kernel
theorem dX3_executeBitPage_123 : decode cX3_executeBitPage 123 = .ok (.iload_n 3, 1) := by decide +kernel
theorem dX3_executeBitPage_124 : decode cX3_executeBitPage 124 = .ok (.bipush 6, 2) := by decide +kernel
theorem dX3_executeBitPage_126 : decode cX3_executeBitPage 126 = .ok (.if_icmp .ne 7, 3) := by decide +kernel
theorem dX3_executeBitPage_129 : decode cX3_executeBitPage 129 = .ok (.iconst 2, 1) := by decide +kernel
theorem dX3_executeBitPage_130 : decode cX3_executeBitPage 130 = .ok (.goto 4, 3) := by decide +kernel
theorem dX3_executeBitPage_133 : decode cX3_executeBitPage 133 = .ok (.iconst 0, 1) := by decide +kernel
theorem dX3_executeBitPage_134 : decode cX3_executeBitPage 134 = .ok (.ireturn, 1) := by decide +kernel
theorem dX3_halt_0 : decode cX3_halt 0 = .ok (.aload_n 0, 1) := by decide +kernel
theorem dX3_halt_1 : decode cX3_halt 1 = .ok (.getfield 58, 3) := by decide +kernel
theorem dX3_halt_4 : decode cX3_halt 4 = .ok (.ifCond .ne 13, 3) := by decide +kernel
theorem dX3_halt_7 : decode cX3_halt 7 = .ok (.aload_n 0, 1) := by decide +kernel
theorem dX3_halt_8 : decode cX3_halt 8 = .ok (.getfield 10, 3) := by decide +kernel
theorem dX3_halt_11 : decode cX3_halt 11 = .ok (.invokevirtual 78, 3) := by decide +kernel
theorem dX3_halt_14 : decode cX3_halt 14 = .ok (.ifCond .ne 11, 3) := by decide +kernel
theorem dX3_halt_17 : decode cX3_halt 17 = .ok (.aload_n 0, 1) := by decide +kernel
theorem dX3_halt_18 : decode cX3_halt 18 = .ok (.iconst 1, 1) := by decide +kernel
theorem dX3_halt_19 : decode cX3_halt 19 = .ok (.putfield 65, 3) := by decide +kernel
theorem dX3_halt_22 : decode cX3_halt 22 = .ok (.goto 37, 3) := by decide +kernel
theorem dX3_halt_25 : decode cX3_halt 25 = .ok (.aload_n 0, 1) := by decide +kernel
theorem dX3_halt_26 : decode cX3_halt 26 = .ok (.getfield 62, 3) := by decide +kernel
theorem dX3_halt_29 : decode cX3_halt 29 = .ok (.ifCond .eq 25, 3) := by decide +kernel
theorem dX3_halt_32 : decode cX3_halt 32 = .ok (.aload_n 0, 1) := by decide +kernel
theorem dX3_halt_33 : decode cX3_halt 33 = .ok (.getfield 27, 3) := by decide +kernel
theorem dX3_halt_36 : decode cX3_halt 36 = .ok (.iconst 5, 1) := by decide +kernel
theorem dX3_halt_37 : decode cX3_halt 37 = .ok (.aload_n 0, 1) := by decide +kernel
theorem dX3_halt_38 : decode cX3_halt 38 = .ok (.getfield 27, 3) := by decide +kernel
theorem dX3_halt_41 : decode cX3_halt 41 = .ok (.iconst 5, 1) := by decide +kernel
theorem dX3_halt_42 : decode cX3_halt 42 = .ok (.invokevirtual 49, 3) := by decide +kernel
theorem dX3_halt_45 : decode cX3_halt 45 = .ok (.iconst 1, 1) := by decide +kernel
theorem dX3_halt_46 : decode cX3_halt 46 = .ok (.isub, 1) := by decide +kernel
theorem dX3_halt_47 : decode cX3_halt 47 = .ok (.invokevirtual 54, 3) := by decide +kernel
theorem dX3_halt_50 : decode cX3_halt 50 = .ok (.pop, 1) := by decide +kernel
theorem dX3_halt_51 : decode cX3_halt 51 = .ok (.goto 8, 3) := by decide +kernel
theorem dX3_halt_54 : decode cX3_halt 54 = .ok (.aload_n 0, 1) := by decide +kernel
theorem dX3_halt_55 : decode cX3_halt 55 = .ok (.iconst 1, 1) := by decide +kernel
theorem dX3_halt_56 : decode cX3_halt 56 = .ok (.putfield 68, 3) := by decide +kernel
theorem dX3_halt_59 : decode cX3_halt 59 = .ok (.return_, 1) := by decide +kernel
theorem dX3_jumpRelativeIf_0 : decode cX3_jumpRelativeIf 0 = .ok (.aload_n 0, 1) := by decide +kernel
theorem dX3_jumpRelativeIf_1 : decode cX3_jumpRelativeIf 1 = .ok (.invokevirtual 155, 3) := by decide +kernel
theorem dX3_jumpRelativeIf_4 : decode cX3_jumpRelativeIf 4 = .ok (.i2b, 1) := by decide +kernel
theorem dX3_jumpRelativeIf_5 : decode cX3_jumpRelativeIf 5 = .ok (.istore_n 2, 1) := by decide +kernel
theorem dX3_jumpRelativeIf_6 : decode cX3_jumpRelativeIf 6 = .ok (.iload_n 1, 1) := by decide +kernel
theorem dX3_jumpRelativeIf_7 : decode cX3_jumpRelativeIf 7 = .ok (.ifCond .ne 5, 3) := by decide +kernel
theorem dX3_jumpRelativeIf_10 : decode cX3_jumpRelativeIf 10 = .ok (.iconst 0, 1) := by decide +kernel
theorem dX3_jumpRelativeIf_11 : decode cX3_jumpRelativeIf 11 = .ok (.ireturn, 1) := by decide +kernel
theorem dX3_jumpRelativeIf_12 : decode cX3_jumpRelativeIf 12 = .ok (.aload_n 0, 1) := by decide +kernel
theorem dX3_jumpRelativeIf_13 : decode cX3_jumpRelativeIf 13 = .ok (.getfield 27, 3) := by decide +kernel
theorem dX3_jumpRelativeIf_16 : decode cX3_jumpRelativeIf 16 = .ok (.iconst 5, 1) := by decide +kernel
theorem dX3_jumpRelativeIf_17 : decode cX3_jumpRelativeIf 17 = .ok (.aload_n 0, 1) := by decide +kernel
theorem dX3_jumpRelativeIf_18 : decode cX3_jumpRelativeIf 18 = .ok (.getfield 27, 3) := by decide +kernel
theorem dX3_jumpRelativeIf_21 : decode cX3_jumpRelativeIf 21 = .ok (.iconst 5, 1) := by decide +kernel
theorem dX3_jumpRelativeIf_22 : decode cX3_jumpRelativeIf 22 = .ok (.invokevirtual 49, 3) := by decide +kernel
theorem dX3_jumpRelativeIf_25 : decode cX3_jumpRelativeIf 25 = .ok (.iload_n 2, 1) := by decide +kernel
theorem dX3_jumpRelativeIf_26 : decode cX3_jumpRelativeIf 26 = .ok (.iadd, 1) := by decide +kernel
theorem dX3_jumpRelativeIf_27 : decode cX3_jumpRelativeIf 27 = .ok (.invokevirtual 54, 3) := by decide +kernel
theorem dX3_jumpRelativeIf_30 : decode cX3_jumpRelativeIf 30 = .ok (.pop, 1) := by decide +kernel
theorem dX3_jumpRelativeIf_31 : decode cX3_jumpRelativeIf 31 = .ok (.iconst 1, 1) := by decide +kernel
theorem dX3_jumpRelativeIf_32 : decode cX3_jumpRelativeIf 32 = .ok (.ireturn, 1) := by decide +kernel
theorem dX3_jumpIf_0 : decode cX3_jumpIf 0 = .ok (.aload_n 0, 1) := by decide +kernel
theorem dX3_jumpIf_1 : decode cX3_jumpIf 1 = .ok (.invokevirtual 185, 3) := by decide +kernel
theorem dX3_jumpIf_4 : decode cX3_jumpIf 4 = .ok (.istore_n 2, 1) := by decide +kernel
theorem dX3_jumpIf_5 : decode cX3_jumpIf 5 = .ok (.iload_n 1, 1) := by decide +kernel
theorem dX3_jumpIf_6 : decode cX3_jumpIf 6 = .ok (.ifCond .ne 5, 3) := by decide +kernel
theorem dX3_jumpIf_9 : decode cX3_jumpIf 9 = .ok (.iconst 0, 1) := by decide +kernel
theorem dX3_jumpIf_10 : decode cX3_jumpIf 10 = .ok (.ireturn, 1) := by decide +kernel
theorem dX3_jumpIf_11 : decode cX3_jumpIf 11 = .ok (.aload_n 0, 1) := by decide +kernel
theorem dX3_jumpIf_12 : decode cX3_jumpIf 12 = .ok (.getfield 27, 3) := by decide +kernel
theorem dX3_jumpIf_15 : decode cX3_jumpIf 15 = .ok (.iconst 5, 1) := by decide +kernel
theorem dX3_jumpIf_16 : decode cX3_jumpIf 16 = .ok (.iload_n 2, 1) := by decide +kernel
theorem dX3_jumpIf_17 : decode cX3_jumpIf 17 = .ok (.invokevirtual 54, 3) := by decide +kernel
theorem dX3_jumpIf_20 : decode cX3_jumpIf 20 = .ok (.pop, 1) := by decide +kernel
theorem dX3_jumpIf_21 : decode cX3_jumpIf 21 = .ok (.iconst 1, 1) := by decide +kernel
theorem dX3_jumpIf_22 : decode cX3_jumpIf 22 = .ok (.ireturn, 1) := by decide +kernel
theorem dX3_callIf_0 : decode cX3_callIf 0 = .ok (.aload_n 0, 1) := by decide +kernel
theorem dX3_callIf_1 : decode cX3_callIf 1 = .ok (.invokevirtual 185, 3) := by decide +kernel
theorem dX3_callIf_4 : decode cX3_callIf 4 = .ok (.istore_n 2, 1) := by decide +kernel
theorem dX3_callIf_5 : decode cX3_callIf 5 = .ok (.iload_n 1, 1) := by decide +kernel
theorem dX3_callIf_6 : decode cX3_callIf 6 = .ok (.ifCond .ne 5, 3) := by decide +kernel
theorem dX3_callIf_9 : decode cX3_callIf 9 = .ok (.iconst 0, 1) := by decide +kernel
theorem dX3_callIf_10 : decode cX3_callIf 10 = .ok (.ireturn, 1) := by decide +kernel
theorem dX3_callIf_11 : decode cX3_callIf 11 = .ok (.aload_n 0, 1) := by decide +kernel
theorem dX3_callIf_12 : decode cX3_callIf 12 = .ok (.aload_n 0, 1) := by decide +kernel
theorem dX3_callIf_13 : decode cX3_callIf 13 = .ok (.getfield 27, 3) := by decide +kernel
theorem dX3_callIf_16 : decode cX3_callIf 16 = .ok (.iconst 5, 1) := by decide +kernel
theorem dX3_callIf_17 : decode cX3_callIf 17 = .ok (.invokevirtual 49, 3) := by decide +kernel
theorem dX3_callIf_20 : decode cX3_callIf 20 = .ok (.invokevirtual 100, 3) := by decide +kernel
theorem dX3_callIf_23 : decode cX3_callIf 23 = .ok (.aload_n 0, 1) := by decide +kernel
theorem dX3_callIf_24 : decode cX3_callIf 24 = .ok (.getfield 27, 3) := by decide +kernel
theorem dX3_callIf_27 : decode cX3_callIf 27 = .ok (.iconst 5, 1) := by decide +kernel
theorem dX3_callIf_28 : decode cX3_callIf 28 = .ok (.iload_n 2, 1) := by decide +kernel
theorem dX3_callIf_29 : decode cX3_callIf 29 = .ok (.invokevirtual 54, 3) := by decide +kernel
theorem dX3_callIf_32 : decode cX3_callIf 32 = .ok (.pop, 1) := by decide +kernel
theorem dX3_callIf_33 : decode cX3_callIf 33 = .ok (.iconst 3, 1) := by decide +kernel
theorem dX3_callIf_34 : decode cX3_callIf 34 = .ok (.ireturn, 1) := by decide +kernel
theorem dX3_returnIf_0 : decode cX3_returnIf 0 = .ok (.iload_n 1, 1) := by decide +kernel
theorem dX3_returnIf_1 : decode cX3_returnIf 1 = .ok (.ifCond .ne 5, 3) := by decide +kernel
theorem dX3_returnIf_4 : decode cX3_returnIf 4 = .ok (.iconst 0, 1) := by decide +kernel
theorem dX3_returnIf_5 : decode cX3_returnIf 5 = .ok (.ireturn, 1) := by decide +kernel
theorem dX3_returnIf_6 : decode cX3_returnIf 6 = .ok (.aload_n 0, 1) := by decide +kernel
theorem dX3_returnIf_7 : decode cX3_returnIf 7 = .ok (.getfield 27, 3) := by decide +kernel
theorem dX3_returnIf_10 : decode cX3_returnIf 10 = .ok (.iconst 5, 1) := by decide +kernel
theorem dX3_returnIf_11 : decode cX3_returnIf 11 = .ok (.aload_n 0, 1) := by decide +kernel
theorem dX3_returnIf_12 : decode cX3_returnIf 12 = .ok (.invokevirtual 209, 3) := by decide +kernel
theorem dX3_returnIf_15 : decode cX3_returnIf 15 = .ok (.invokevirtual 54, 3) := by decide +kernel
theorem dX3_returnIf_18 : decode cX3_returnIf 18 = .ok (.pop, 1) := by decide +kernel
theorem dX3_returnIf_19 : decode cX3_returnIf 19 = .ok (.iconst 3, 1) := by decide +kernel
theorem dX3_returnIf_20 : decode cX3_returnIf 20 = .ok (.ireturn, 1) := by decide +kernel
theorem dX3_holds_0 : decode cX3_holds 0 = .ok (.iload_n 1, 1) := by decide +kernel
theorem dX3_holds_1 : decode cX3_holds 1 = .ok (.iconst 1, 1) := by decide +kernel
theorem dX3_holds_2 : decode cX3_holds 2 = .ok (.iand, 1) := by decide +kernel
theorem dX3_holds_3 : decode cX3_holds 3 = .ok (.iconst 1, 1) := by decide +kernel
theorem dX3_holds_4 : decode cX3_holds 4 = .ok (.if_icmp .ne 7, 3) := by decide +kernel
theorem dX3_holds_7 : decode cX3_holds 7 = .ok (.iconst 1, 1) := by decide +kernel
theorem dX3_holds_8 : decode cX3_holds 8 = .ok (.goto 4, 3) := by decide +kernel
theorem dX3_holds_11 : decode cX3_holds 11 = .ok (.iconst 0, 1) := by decide +kernel
theorem dX3_holds_12 : decode cX3_holds 12 = .ok (.istore_n 2, 1) := by decide +kernel
theorem dX3_holds_13 : decode cX3_holds 13 = .ok (.aload_n 0, 1) := by decide +kernel
theorem dX3_holds_14 : decode cX3_holds 14 = .ok (.getfield 27, 3) := by decide +kernel
theorem dX3_holds_17 : decode cX3_holds 17 = .ok (.iload_n 1, 1) := by decide +kernel
theorem dX3_holds_18 : decode cX3_holds 18 = .ok (.iconst 2, 1) := by decide +kernel
theorem dX3_holds_19 : decode cX3_holds 19 = .ok (.if_icmp .ge 9, 3) := by decide +kernel
theorem dX3_holds_22 : decode cX3_holds 22 = .ok (.sipush 128, 3) := by decide +kernel
theorem dX3_holds_25 : decode cX3_holds 25 = .ok (.goto 5, 3) := by decide +kernel
theorem dX3_holds_28 : decode cX3_holds 28 = .ok (.bipush 16, 2) := by decide +kernel
theorem dX3_holds_30 : decode cX3_holds 30 = .ok (.invokevirtual 224, 3) := by decide +kernel
theorem dX3_holds_33 : decode cX3_holds 33 = .ok (.iload_n 2, 1) := by decide +kernel
theorem dX3_holds_34 : decode cX3_holds 34 = .ok (.if_icmp .ne 7, 3) := by decide +kernel
theorem dX3_holds_37 : decode cX3_holds 37 = .ok (.iconst 1, 1) := by decide +kernel
theorem dX3_holds_38 : decode cX3_holds 38 = .ok (.goto 4, 3) := by decide +kernel
theorem dX3_holds_41 : decode cX3_holds 41 = .ok (.iconst 0, 1) := by decide +kernel
theorem dX3_holds_42 : decode cX3_holds 42 = .ok (.ireturn, 1) := by decide +kernel
theorem dX3_stackPair_0 : decode cX3_stackPair 0 = .ok (.iconst 1, 1) := by decide +kernel
theorem dX3_stackPair_1 : decode cX3_stackPair 1 = .ok (.iload_n 0, 1) := by decide +kernel
theorem dX3_stackPair_2 : decode cX3_stackPair 2 = .ok (.iconst 1, 1) := by decide +kernel
theorem dX3_stackPair_3 : decode cX3_stackPair 3 = .ok (.ishr, 1) := by decide +kernel
theorem dX3_stackPair_4 : decode cX3_stackPair 4 = .ok (.iadd, 1) := by decide +kernel
theorem dX3_stackPair_5 : decode cX3_stackPair 5 = .ok (.iconst 3, 1) := by decide +kernel
theorem dX3_stackPair_6 : decode cX3_stackPair 6 = .ok (.iand, 1) := by decide +kernel
theorem dX3_stackPair_7 : decode cX3_stackPair 7 = .ok (.ireturn, 1) := by decide +kernel
theorem dX3_fetch_0 : decode cX3_fetch 0 = .ok (.aload_n 0, 1) := by decide +kernel
theorem dX3_fetch_1 : decode cX3_fetch 1 = .ok (.getfield 27, 3) := by decide +kernel
theorem dX3_fetch_4 : decode cX3_fetch 4 = .ok (.iconst 5, 1) := by decide +kernel
theorem dX3_fetch_5 : decode cX3_fetch 5 = .ok (.invokevirtual 49, 3) := by decide +kernel
theorem dX3_fetch_8 : decode cX3_fetch 8 = .ok (.istore_n 1, 1) := by decide +kernel
theorem dX3_fetch_9 : decode cX3_fetch 9 = .ok (.aload_n 0, 1) := by decide +kernel
theorem dX3_fetch_10 : decode cX3_fetch 10 = .ok (.getfield 27, 3) := by decide +kernel
theorem dX3_fetch_13 : decode cX3_fetch 13 = .ok (.iconst 5, 1) := by decide +kernel
theorem dX3_fetch_14 : decode cX3_fetch 14 = .ok (.iload_n 1, 1) := by decide +kernel
theorem dX3_fetch_15 : decode cX3_fetch 15 = .ok (.iconst 1, 1) := by decide +kernel
theorem dX3_fetch_16 : decode cX3_fetch 16 = .ok (.iadd, 1) := by decide +kernel
theorem dX3_fetch_17 : decode cX3_fetch 17 = .ok (.invokevirtual 54, 3) := by decide +kernel
theorem dX3_fetch_20 : decode cX3_fetch 20 = .ok (.pop, 1) := by decide +kernel
theorem dX3_fetch_21 : decode cX3_fetch 21 = .ok (.aload_n 0, 1) := by decide +kernel
theorem dX3_fetch_22 : decode cX3_fetch 22 = .ok (.getfield 10, 3) := by decide +kernel
theorem dX3_fetch_25 : decode cX3_fetch 25 = .ok (.iload_n 1, 1) := by decide +kernel
theorem dX3_fetch_26 : decode cX3_fetch 26 = .ok (.invokevirtual 37, 3) := by decide +kernel
theorem dX3_fetch_29 : decode cX3_fetch 29 = .ok (.ireturn, 1) := by decide +kernel
theorem dX3_fetchWord_0 : decode cX3_fetchWord 0 = .ok (.aload_n 0, 1) := by decide +kernel
theorem dX3_fetchWord_1 : decode cX3_fetchWord 1 = .ok (.getfield 27, 3) := by decide +kernel
theorem dX3_fetchWord_4 : decode cX3_fetchWord 4 = .ok (.iconst 5, 1) := by decide +kernel
theorem dX3_fetchWord_5 : decode cX3_fetchWord 5 = .ok (.invokevirtual 49, 3) := by decide +kernel
theorem dX3_fetchWord_8 : decode cX3_fetchWord 8 = .ok (.istore_n 1, 1) := by decide +kernel
theorem dX3_fetchWord_9 : decode cX3_fetchWord 9 = .ok (.aload_n 0, 1) := by decide +kernel
theorem dX3_fetchWord_10 : decode cX3_fetchWord 10 = .ok (.getfield 27, 3) := by decide +kernel
theorem dX3_fetchWord_13 : decode cX3_fetchWord 13 = .ok (.iconst 5, 1) := by decide +kernel
theorem dX3_fetchWord_14 : decode cX3_fetchWord 14 = .ok (.iload_n 1, 1) := by decide +kernel
theorem dX3_fetchWord_15 : decode cX3_fetchWord 15 = .ok (.iconst 2, 1) := by decide +kernel
theorem dX3_fetchWord_16 : decode cX3_fetchWord 16 = .ok (.iadd, 1) := by decide +kernel
theorem dX3_fetchWord_17 : decode cX3_fetchWord 17 = .ok (.invokevirtual 54, 3) := by decide +kernel
theorem dX3_fetchWord_20 : decode cX3_fetchWord 20 = .ok (.pop, 1) := by decide +kernel
theorem dX3_fetchWord_21 : decode cX3_fetchWord 21 = .ok (.aload_n 0, 1) := by decide +kernel
theorem dX3_fetchWord_22 : decode cX3_fetchWord 22 = .ok (.getfield 10, 3) := by decide +kernel
theorem dX3_fetchWord_25 : decode cX3_fetchWord 25 = .ok (.iload_n 1, 1) := by decide +kernel
theorem dX3_fetchWord_26 : decode cX3_fetchWord 26 = .ok (.invokevirtual 37, 3) := by decide +kernel
theorem dX3_fetchWord_29 : decode cX3_fetchWord 29 = .ok (.aload_n 0, 1) := by decide +kernel
theorem dX3_fetchWord_30 : decode cX3_fetchWord 30 = .ok (.getfield 10, 3) := by decide +kernel
theorem dX3_fetchWord_33 : decode cX3_fetchWord 33 = .ok (.iload_n 1, 1) := by decide +kernel
theorem dX3_fetchWord_34 : decode cX3_fetchWord 34 = .ok (.iconst 1, 1) := by decide +kernel
theorem dX3_fetchWord_35 : decode cX3_fetchWord 35 = .ok (.iadd, 1) := by decide +kernel
theorem dX3_fetchWord_36 : decode cX3_fetchWord 36 = .ok (.invokevirtual 37, 3) := by decide +kernel
theorem dX3_fetchWord_39 : decode cX3_fetchWord 39 = .ok (.bipush 8, 2) := by decide +kernel
theorem dX3_fetchWord_41 : decode cX3_fetchWord 41 = .ok (.ishl, 1) := by decide +kernel
theorem dX3_fetchWord_42 : decode cX3_fetchWord 42 = .ok (.ior, 1) := by decide +kernel
theorem dX3_fetchWord_43 : decode cX3_fetchWord 43 = .ok (.ireturn, 1) := by decide +kernel
theorem dX3_push_0 : decode cX3_push 0 = .ok (.aload_n 0, 1) := by decide +kernel
theorem dX3_push_1 : decode cX3_push 1 = .ok (.getfield 27, 3) := by decide +kernel
theorem dX3_push_4 : decode cX3_push 4 = .ok (.iconst 4, 1) := by decide +kernel
theorem dX3_push_5 : decode cX3_push 5 = .ok (.invokevirtual 49, 3) := by decide +kernel
theorem dX3_push_8 : decode cX3_push 8 = .ok (.istore_n 2, 1) := by decide +kernel
theorem dX3_push_9 : decode cX3_push 9 = .ok (.aload_n 0, 1) := by decide +kernel
theorem dX3_push_10 : decode cX3_push 10 = .ok (.getfield 10, 3) := by decide +kernel
theorem dX3_push_13 : decode cX3_push 13 = .ok (.iload_n 2, 1) := by decide +kernel
theorem dX3_push_14 : decode cX3_push 14 = .ok (.iconst 1, 1) := by decide +kernel
theorem dX3_push_15 : decode cX3_push 15 = .ok (.isub, 1) := by decide +kernel
theorem dX3_push_16 : decode cX3_push 16 = .ok (.iload_n 1, 1) := by decide +kernel
theorem dX3_push_17 : decode cX3_push 17 = .ok (.bipush 8, 2) := by decide +kernel
theorem dX3_push_19 : decode cX3_push 19 = .ok (.ishr, 1) := by decide +kernel
theorem dX3_push_20 : decode cX3_push 20 = .ok (.invokevirtual 188, 3) := by decide +kernel
theorem dX3_push_23 : decode cX3_push 23 = .ok (.aload_n 0, 1) := by decide +kernel
theorem dX3_push_24 : decode cX3_push 24 = .ok (.getfield 10, 3) := by decide +kernel
theorem dX3_push_27 : decode cX3_push 27 = .ok (.iload_n 2, 1) := by decide +kernel
theorem dX3_push_28 : decode cX3_push 28 = .ok (.iconst 2, 1) := by decide +kernel
theorem dX3_push_29 : decode cX3_push 29 = .ok (.isub, 1) := by decide +kernel
theorem dX3_push_30 : decode cX3_push 30 = .ok (.iload_n 1, 1) := by decide +kernel
theorem dX3_push_31 : decode cX3_push 31 = .ok (.invokevirtual 188, 3) := by decide +kernel
theorem dX3_push_34 : decode cX3_push 34 = .ok (.aload_n 0, 1) := by decide +kernel
theorem dX3_push_35 : decode cX3_push 35 = .ok (.getfield 27, 3) := by decide +kernel
theorem dX3_push_38 : decode cX3_push 38 = .ok (.iconst 4, 1) := by decide +kernel
theorem dX3_push_39 : decode cX3_push 39 = .ok (.iload_n 2, 1) := by decide +kernel
theorem dX3_push_40 : decode cX3_push 40 = .ok (.iconst 2, 1) := by decide +kernel
theorem dX3_push_41 : decode cX3_push 41 = .ok (.isub, 1) := by decide +kernel
theorem dX3_push_42 : decode cX3_push 42 = .ok (.invokevirtual 54, 3) := by decide +kernel
theorem dX3_push_45 : decode cX3_push 45 = .ok (.pop, 1) := by decide +kernel
theorem dX3_push_46 : decode cX3_push 46 = .ok (.return_, 1) := by decide +kernel
theorem dX3_pop_0 : decode cX3_pop 0 = .ok (.aload_n 0, 1) := by decide +kernel
theorem dX3_pop_1 : decode cX3_pop 1 = .ok (.getfield 27, 3) := by decide +kernel
theorem dX3_pop_4 : decode cX3_pop 4 = .ok (.iconst 4, 1) := by decide +kernel
theorem dX3_pop_5 : decode cX3_pop 5 = .ok (.invokevirtual 49, 3) := by decide +kernel
theorem dX3_pop_8 : decode cX3_pop 8 = .ok (.istore_n 1, 1) := by decide +kernel
theorem dX3_pop_9 : decode cX3_pop 9 = .ok (.aload_n 0, 1) := by decide +kernel
theorem dX3_pop_10 : decode cX3_pop 10 = .ok (.getfield 27, 3) := by decide +kernel
theorem dX3_pop_13 : decode cX3_pop 13 = .ok (.iconst 4, 1) := by decide +kernel
theorem dX3_pop_14 : decode cX3_pop 14 = .ok (.iload_n 1, 1) := by decide +kernel
theorem dX3_pop_15 : decode cX3_pop 15 = .ok (.iconst 2, 1) := by decide +kernel
theorem dX3_pop_16 : decode cX3_pop 16 = .ok (.iadd, 1) := by decide +kernel
theorem dX3_pop_17 : decode cX3_pop 17 = .ok (.invokevirtual 54, 3) := by decide +kernel
theorem dX3_pop_20 : decode cX3_pop 20 = .ok (.pop, 1) := by decide +kernel
theorem dX3_pop_21 : decode cX3_pop 21 = .ok (.aload_n 0, 1) := by decide +kernel
theorem dX3_pop_22 : decode cX3_pop 22 = .ok (.getfield 10, 3) := by decide +kernel
theorem dX3_pop_25 : decode cX3_pop 25 = .ok (.iload_n 1, 1) := by decide +kernel
theorem dX3_pop_26 : decode cX3_pop 26 = .ok (.invokevirtual 37, 3) := by decide +kernel
theorem dX3_pop_29 : decode cX3_pop 29 = .ok (.aload_n 0, 1) := by decide +kernel
theorem dX3_pop_30 : decode cX3_pop 30 = .ok (.getfield 10, 3) := by decide +kernel
theorem dX3_pop_33 : decode cX3_pop 33 = .ok (.iload_n 1, 1) := by decide +kernel
theorem dX3_pop_34 : decode cX3_pop 34 = .ok (.iconst 1, 1) := by decide +kernel
theorem dX3_pop_35 : decode cX3_pop 35 = .ok (.iadd, 1) := by decide +kernel
theorem dX3_pop_36 : decode cX3_pop 36 = .ok (.invokevirtual 37, 3) := by decide +kernel
theorem dX3_pop_39 : decode cX3_pop 39 = .ok (.bipush 8, 2) := by decide +kernel
theorem dX3_pop_41 : decode cX3_pop 41 = .ok (.ishl, 1) := by decide +kernel
theorem dX3_pop_42 : decode cX3_pop 42 = .ok (.ior, 1) := by decide +kernel
theorem dX3_pop_43 : decode cX3_pop 43 = .ok (.ireturn, 1) := by decide +kernel
theorem dX3_operand_0 : decode cX3_operand 0 = .ok (.iload_n 1, 1) := by decide +kernel
theorem dX3_operand_1 : decode cX3_operand 1 = .ok (.bipush 6, 2) := by decide +kernel
theorem dX3_operand_3 : decode cX3_operand 3 = .ok (.if_icmp .ne 21, 3) := by decide +kernel
theorem dX3_operand_6 : decode cX3_operand 6 = .ok (.aload_n 0, 1) := by decide +kernel
theorem dX3_operand_7 : decode cX3_operand 7 = .ok (.getfield 10, 3) := by decide +kernel
theorem dX3_operand_10 : decode cX3_operand 10 = .ok (.aload_n 0, 1) := by decide +kernel
theorem dX3_operand_11 : decode cX3_operand 11 = .ok (.getfield 27, 3) := by decide +kernel
theorem dX3_operand_14 : decode cX3_operand 14 = .ok (.iconst 3, 1) := by decide +kernel
theorem dX3_operand_15 : decode cX3_operand 15 = .ok (.invokevirtual 49, 3) := by decide +kernel
theorem dX3_operand_18 : decode cX3_operand 18 = .ok (.invokevirtual 37, 3) := by decide +kernel
theorem dX3_operand_21 : decode cX3_operand 21 = .ok (.goto 11, 3) := by decide +kernel
theorem dX3_operand_24 : decode cX3_operand 24 = .ok (.aload_n 0, 1) := by decide +kernel
theorem dX3_operand_25 : decode cX3_operand 25 = .ok (.getfield 27, 3) := by decide +kernel
theorem dX3_operand_28 : decode cX3_operand 28 = .ok (.iload_n 1, 1) := by decide +kernel
theorem dX3_operand_29 : decode cX3_operand 29 = .ok (.invokevirtual 215, 3) := by decide +kernel
theorem dX3_operand_32 : decode cX3_operand 32 = .ok (.ireturn, 1) := by decide +kernel
theorem dX3_setOperand_0 : decode cX3_setOperand 0 = .ok (.iload_n 1, 1) := by decide +kernel
theorem dX3_setOperand_1 : decode cX3_setOperand 1 = .ok (.bipush 6, 2) := by decide +kernel
theorem dX3_setOperand_3 : decode cX3_setOperand 3 = .ok (.if_icmp .ne 22, 3) := by decide +kernel
theorem dX3_setOperand_6 : decode cX3_setOperand 6 = .ok (.aload_n 0, 1) := by decide +kernel
theorem dX3_setOperand_7 : decode cX3_setOperand 7 = .ok (.getfield 10, 3) := by decide +kernel
theorem dX3_setOperand_10 : decode cX3_setOperand 10 = .ok (.aload_n 0, 1) := by decide +kernel
theorem dX3_setOperand_11 : decode cX3_setOperand 11 = .ok (.getfield 27, 3) := by decide +kernel
theorem dX3_setOperand_14 : decode cX3_setOperand 14 = .ok (.iconst 3, 1) := by decide +kernel
theorem dX3_setOperand_15 : decode cX3_setOperand 15 = .ok (.invokevirtual 49, 3) := by decide +kernel
theorem dX3_setOperand_18 : decode cX3_setOperand 18 = .ok (.iload_n 2, 1) := by decide +kernel
theorem dX3_setOperand_19 : decode cX3_setOperand 19 = .ok (.invokevirtual 188, 3) := by decide +kernel
theorem dX3_setOperand_22 : decode cX3_setOperand 22 = .ok (.goto 12, 3) := by decide +kernel
theorem dX3_setOperand_25 : decode cX3_setOperand 25 = .ok (.aload_n 0, 1) := by decide +kernel
theorem dX3_setOperand_26 : decode cX3_setOperand 26 = .ok (.getfield 27, 3) := by decide +kernel
theorem dX3_setOperand_29 : decode cX3_setOperand 29 = .ok (.iload_n 1, 1) := by decide +kernel
theorem dX3_setOperand_30 : decode cX3_setOperand 30 = .ok (.iload_n 2, 1) := by decide +kernel
theorem dX3_setOperand_31 : decode cX3_setOperand 31 = .ok (.invokevirtual 227, 3) := by decide +kernel
theorem dX3_setOperand_34 : decode cX3_setOperand 34 = .ok (.return_, 1) := by decide +kernel
