theorem dX4_init_0 : decode cX4_init 0 = .ok (.aload_n 0, 1) := by decide +kernel
theorem dX4_init_1 : decode cX4_init 1 = .ok (.invokespecial 1, 3) := by decide +kernel
theorem dX4_init_4 : decode cX4_init 4 = .ok (.aload_n 0, 1) := by decide +kernel
theorem dX4_init_5 : decode cX4_init 5 = .ok (.ldc 7, 2) := by decide +kernel
theorem dX4_init_7 : decode cX4_init 7 = .ok (.newarray .byte, 2) := by decide +kernel
theorem dX4_init_9 : decode cX4_init 9 = .ok (.putfield 8, 3) := by decide +kernel
theorem dX4_init_12 : decode cX4_init 12 = .ok (.aload_n 0, 1) := by decide +kernel
theorem dX4_init_13 : decode cX4_init 13 = .ok (.bipush 8, 2) := by decide +kernel
theorem dX4_init_15 : decode cX4_init 15 = .ok (.newarray .int, 2) := by decide +kernel
theorem dX4_init_17 : decode cX4_init 17 = .ok (.putfield 14, 3) := by decide +kernel
theorem dX4_init_20 : decode cX4_init 20 = .ok (.return_, 1) := by decide +kernel
theorem dX4_at_0 : decode cX4_at 0 = .ok (.aload_n 0, 1) := by decide +kernel
theorem dX4_at_1 : decode cX4_at 1 = .ok (.getfield 8, 3) := by decide +kernel
theorem dX4_at_4 : decode cX4_at 4 = .ok (.iload_n 1, 1) := by decide +kernel
theorem dX4_at_5 : decode cX4_at 5 = .ok (.ldc 22, 2) := by decide +kernel
theorem dX4_at_7 : decode cX4_at 7 = .ok (.iand, 1) := by decide +kernel
theorem dX4_at_8 : decode cX4_at 8 = .ok (.baload, 1) := by decide +kernel
theorem dX4_at_9 : decode cX4_at 9 = .ok (.sipush 255, 3) := by decide +kernel
theorem dX4_at_12 : decode cX4_at 12 = .ok (.iand, 1) := by decide +kernel
theorem dX4_at_13 : decode cX4_at 13 = .ok (.ireturn, 1) := by decide +kernel
theorem dX4_puts_0 : decode cX4_puts 0 = .ok (.aload_n 0, 1) := by decide +kernel
theorem dX4_puts_1 : decode cX4_puts 1 = .ok (.getfield 8, 3) := by decide +kernel
theorem dX4_puts_4 : decode cX4_puts 4 = .ok (.iload_n 1, 1) := by decide +kernel
theorem dX4_puts_5 : decode cX4_puts 5 = .ok (.ldc 22, 2) := by decide +kernel
theorem dX4_puts_7 : decode cX4_puts 7 = .ok (.iand, 1) := by decide +kernel
theorem dX4_puts_8 : decode cX4_puts 8 = .ok (.iload_n 2, 1) := by decide +kernel
theorem dX4_puts_9 : decode cX4_puts 9 = .ok (.i2b, 1) := by decide +kernel
theorem dX4_puts_10 : decode cX4_puts 10 = .ok (.bastore, 1) := by decide +kernel
theorem dX4_puts_11 : decode cX4_puts 11 = .ok (.return_, 1) := by decide +kernel
theorem dX4_reads_0 : decode cX4_reads 0 = .ok (.aload_n 0, 1) := by decide +kernel
theorem dX4_reads_1 : decode cX4_reads 1 = .ok (.dup, 1) := by decide +kernel
theorem dX4_reads_2 : decode cX4_reads 2 = .ok (.getfield 23, 3) := by decide +kernel
theorem dX4_reads_5 : decode cX4_reads 5 = .ok (.iconst 1, 1) := by decide +kernel
theorem dX4_reads_6 : decode cX4_reads 6 = .ok (.iadd, 1) := by decide +kernel
theorem dX4_reads_7 : decode cX4_reads 7 = .ok (.putfield 23, 3) := by decide +kernel
theorem dX4_reads_10 : decode cX4_reads 10 = .ok (.aload_n 0, 1) := by decide +kernel
theorem dX4_reads_11 : decode cX4_reads 11 = .ok (.iload_n 1, 1) := by decide +kernel
theorem dX4_reads_12 : decode cX4_reads 12 = .ok (.invokevirtual 26, 3) := by decide +kernel
theorem dX4_reads_15 : decode cX4_reads 15 = .ok (.ireturn, 1) := by decide +kernel
theorem dX4_writes_0 : decode cX4_writes 0 = .ok (.aload_n 0, 1) := by decide +kernel
theorem dX4_writes_1 : decode cX4_writes 1 = .ok (.dup, 1) := by decide +kernel
theorem dX4_writes_2 : decode cX4_writes 2 = .ok (.getfield 23, 3) := by decide +kernel
theorem dX4_writes_5 : decode cX4_writes 5 = .ok (.iconst 1, 1) := by decide +kernel
theorem dX4_writes_6 : decode cX4_writes 6 = .ok (.iadd, 1) := by decide +kernel
theorem dX4_writes_7 : decode cX4_writes 7 = .ok (.putfield 23, 3) := by decide +kernel
theorem dX4_writes_10 : decode cX4_writes 10 = .ok (.iload_n 1, 1) := by decide +kernel
theorem dX4_writes_11 : decode cX4_writes 11 = .ok (.ldc 22, 2) := by decide +kernel
theorem dX4_writes_13 : decode cX4_writes 13 = .ok (.iand, 1) := by decide +kernel
theorem dX4_writes_14 : decode cX4_writes 14 = .ok (.ldc 30, 2) := by decide +kernel
theorem dX4_writes_16 : decode cX4_writes 16 = .ok (.if_icmp .ne 18, 3) := by decide +kernel
theorem dX4_writes_19 : decode cX4_writes 19 = .ok (.aload_n 0, 1) := by decide +kernel
theorem dX4_writes_20 : decode cX4_writes 20 = .ok (.ldc 30, 2) := by decide +kernel
theorem dX4_writes_22 : decode cX4_writes 22 = .ok (.iconst 0, 1) := by decide +kernel
theorem dX4_writes_23 : decode cX4_writes 23 = .ok (.invokevirtual 31, 3) := by decide +kernel
theorem dX4_writes_26 : decode cX4_writes 26 = .ok (.aload_n 0, 1) := by decide +kernel
theorem dX4_writes_27 : decode cX4_writes 27 = .ok (.iconst 0, 1) := by decide +kernel
theorem dX4_writes_28 : decode cX4_writes 28 = .ok (.putfield 35, 3) := by decide +kernel
theorem dX4_writes_31 : decode cX4_writes 31 = .ok (.goto 9, 3) := by decide +kernel
theorem dX4_writes_34 : decode cX4_writes 34 = .ok (.aload_n 0, 1) := by decide +kernel
theorem dX4_writes_35 : decode cX4_writes 35 = .ok (.iload_n 1, 1) := by decide +kernel
theorem dX4_writes_36 : decode cX4_writes 36 = .ok (.iload_n 2, 1) := by decide +kernel
theorem dX4_writes_37 : decode cX4_writes 37 = .ok (.invokevirtual 31, 3) := by decide +kernel
theorem dX4_writes_40 : decode cX4_writes 40 = .ok (.return_, 1) := by decide +kernel
theorem dX4_fetch_0 : decode cX4_fetch 0 = .ok (.aload_n 0, 1) := by decide +kernel
theorem dX4_fetch_1 : decode cX4_fetch 1 = .ok (.aload_n 0, 1) := by decide +kernel
theorem dX4_fetch_2 : decode cX4_fetch 2 = .ok (.getfield 38, 3) := by decide +kernel
theorem dX4_fetch_5 : decode cX4_fetch 5 = .ok (.invokevirtual 41, 3) := by decide +kernel
theorem dX4_fetch_8 : decode cX4_fetch 8 = .ok (.istore_n 1, 1) := by decide +kernel
theorem dX4_fetch_9 : decode cX4_fetch 9 = .ok (.aload_n 0, 1) := by decide +kernel
theorem dX4_fetch_10 : decode cX4_fetch 10 = .ok (.aload_n 0, 1) := by decide +kernel
theorem dX4_fetch_11 : decode cX4_fetch 11 = .ok (.getfield 38, 3) := by decide +kernel
theorem dX4_fetch_14 : decode cX4_fetch 14 = .ok (.iconst 1, 1) := by decide +kernel
theorem dX4_fetch_15 : decode cX4_fetch 15 = .ok (.iadd, 1) := by decide +kernel
theorem dX4_fetch_16 : decode cX4_fetch 16 = .ok (.ldc 22, 2) := by decide +kernel
theorem dX4_fetch_18 : decode cX4_fetch 18 = .ok (.iand, 1) := by decide +kernel
theorem dX4_fetch_19 : decode cX4_fetch 19 = .ok (.putfield 38, 3) := by decide +kernel
theorem dX4_fetch_22 : decode cX4_fetch 22 = .ok (.iload_n 1, 1) := by decide +kernel
theorem dX4_fetch_23 : decode cX4_fetch 23 = .ok (.ireturn, 1) := by decide +kernel
theorem dX4_fetchWord_0 : decode cX4_fetchWord 0 = .ok (.aload_n 0, 1) := by decide +kernel
theorem dX4_fetchWord_1 : decode cX4_fetchWord 1 = .ok (.invokevirtual 44, 3) := by decide +kernel
theorem dX4_fetchWord_4 : decode cX4_fetchWord 4 = .ok (.istore_n 1, 1) := by decide +kernel
theorem dX4_fetchWord_5 : decode cX4_fetchWord 5 = .ok (.iload_n 1, 1) := by decide +kernel
theorem dX4_fetchWord_6 : decode cX4_fetchWord 6 = .ok (.aload_n 0, 1) := by decide +kernel
theorem dX4_fetchWord_7 : decode cX4_fetchWord 7 = .ok (.invokevirtual 44, 3) := by decide +kernel
theorem dX4_fetchWord_10 : decode cX4_fetchWord 10 = .ok (.bipush 8, 2) := by decide +kernel
theorem dX4_fetchWord_12 : decode cX4_fetchWord 12 = .ok (.ishl, 1) := by decide +kernel
theorem dX4_fetchWord_13 : decode cX4_fetchWord 13 = .ok (.ior, 1) := by decide +kernel
theorem dX4_fetchWord_14 : decode cX4_fetchWord 14 = .ok (.ireturn, 1) := by decide +kernel
theorem dX4_push_0 : decode cX4_push 0 = .ok (.aload_n 0, 1) := by decide +kernel
theorem dX4_push_1 : decode cX4_push 1 = .ok (.aload_n 0, 1) := by decide +kernel
theorem dX4_push_2 : decode cX4_push 2 = .ok (.getfield 48, 3) := by decide +kernel
theorem dX4_push_5 : decode cX4_push 5 = .ok (.iconst 1, 1) := by decide +kernel
theorem dX4_push_6 : decode cX4_push 6 = .ok (.isub, 1) := by decide +kernel
theorem dX4_push_7 : decode cX4_push 7 = .ok (.ldc 22, 2) := by decide +kernel
theorem dX4_push_9 : decode cX4_push 9 = .ok (.iand, 1) := by decide +kernel
theorem dX4_push_10 : decode cX4_push 10 = .ok (.putfield 48, 3) := by decide +kernel
theorem dX4_push_13 : decode cX4_push 13 = .ok (.aload_n 0, 1) := by decide +kernel
theorem dX4_push_14 : decode cX4_push 14 = .ok (.aload_n 0, 1) := by decide +kernel
theorem dX4_push_15 : decode cX4_push 15 = .ok (.getfield 48, 3) := by decide +kernel
theorem dX4_push_18 : decode cX4_push 18 = .ok (.iload_n 1, 1) := by decide +kernel
theorem dX4_push_19 : decode cX4_push 19 = .ok (.bipush 8, 2) := by decide +kernel
theorem dX4_push_21 : decode cX4_push 21 = .ok (.ishr, 1) := by decide +kernel
theorem dX4_push_22 : decode cX4_push 22 = .ok (.sipush 255, 3) := by decide +kernel
theorem dX4_push_25 : decode cX4_push 25 = .ok (.iand, 1) := by decide +kernel
theorem dX4_push_26 : decode cX4_push 26 = .ok (.invokevirtual 51, 3) := by decide +kernel
theorem dX4_push_29 : decode cX4_push 29 = .ok (.aload_n 0, 1) := by decide +kernel
theorem dX4_push_30 : decode cX4_push 30 = .ok (.aload_n 0, 1) := by decide +kernel
theorem dX4_push_31 : decode cX4_push 31 = .ok (.getfield 48, 3) := by decide +kernel
theorem dX4_push_34 : decode cX4_push 34 = .ok (.iconst 1, 1) := by decide +kernel
theorem dX4_push_35 : decode cX4_push 35 = .ok (.isub, 1) := by decide +kernel
theorem dX4_push_36 : decode cX4_push 36 = .ok (.ldc 22, 2) := by decide +kernel
theorem dX4_push_38 : decode cX4_push 38 = .ok (.iand, 1) := by decide +kernel
theorem dX4_push_39 : decode cX4_push 39 = .ok (.putfield 48, 3) := by decide +kernel
theorem dX4_push_42 : decode cX4_push 42 = .ok (.aload_n 0, 1) := by decide +kernel
theorem dX4_push_43 : decode cX4_push 43 = .ok (.aload_n 0, 1) := by decide +kernel
theorem dX4_push_44 : decode cX4_push 44 = .ok (.getfield 48, 3) := by decide +kernel
theorem dX4_push_47 : decode cX4_push 47 = .ok (.iload_n 1, 1) := by decide +kernel
theorem dX4_push_48 : decode cX4_push 48 = .ok (.sipush 255, 3) := by decide +kernel
theorem dX4_push_51 : decode cX4_push 51 = .ok (.iand, 1) := by decide +kernel
theorem dX4_push_52 : decode cX4_push 52 = .ok (.invokevirtual 51, 3) := by decide +kernel
theorem dX4_push_55 : decode cX4_push 55 = .ok (.return_, 1) := by decide +kernel
theorem dX4_pop_0 : decode cX4_pop 0 = .ok (.aload_n 0, 1) := by decide +kernel
theorem dX4_pop_1 : decode cX4_pop 1 = .ok (.aload_n 0, 1) := by decide +kernel
theorem dX4_pop_2 : decode cX4_pop 2 = .ok (.getfield 48, 3) := by decide +kernel
theorem dX4_pop_5 : decode cX4_pop 5 = .ok (.invokevirtual 41, 3) := by decide +kernel
theorem dX4_pop_8 : decode cX4_pop 8 = .ok (.istore_n 1, 1) := by decide +kernel
theorem dX4_pop_9 : decode cX4_pop 9 = .ok (.aload_n 0, 1) := by decide +kernel
theorem dX4_pop_10 : decode cX4_pop 10 = .ok (.aload_n 0, 1) := by decide +kernel
theorem dX4_pop_11 : decode cX4_pop 11 = .ok (.getfield 48, 3) := by decide +kernel
theorem dX4_pop_14 : decode cX4_pop 14 = .ok (.iconst 1, 1) := by decide +kernel
theorem dX4_pop_15 : decode cX4_pop 15 = .ok (.iadd, 1) := by decide +kernel
theorem dX4_pop_16 : decode cX4_pop 16 = .ok (.invokevirtual 41, 3) := by decide +kernel
theorem dX4_pop_19 : decode cX4_pop 19 = .ok (.istore_n 2, 1) := by decide +kernel
theorem dX4_pop_20 : decode cX4_pop 20 = .ok (.aload_n 0, 1) := by decide +kernel
theorem dX4_pop_21 : decode cX4_pop 21 = .ok (.aload_n 0, 1) := by decide +kernel
theorem dX4_pop_22 : decode cX4_pop 22 = .ok (.getfield 48, 3) := by decide +kernel
theorem dX4_pop_25 : decode cX4_pop 25 = .ok (.iconst 2, 1) := by decide +kernel
theorem dX4_pop_26 : decode cX4_pop 26 = .ok (.iadd, 1) := by decide +kernel
theorem dX4_pop_27 : decode cX4_pop 27 = .ok (.ldc 22, 2) := by decide +kernel
theorem dX4_pop_29 : decode cX4_pop 29 = .ok (.iand, 1) := by decide +kernel
theorem dX4_pop_30 : decode cX4_pop 30 = .ok (.putfield 48, 3) := by decide +kernel
theorem dX4_pop_33 : decode cX4_pop 33 = .ok (.iload_n 1, 1) := by decide +kernel
theorem dX4_pop_34 : decode cX4_pop 34 = .ok (.iload_n 2, 1) := by decide +kernel
theorem dX4_pop_35 : decode cX4_pop 35 = .ok (.bipush 8, 2) := by decide +kernel
theorem dX4_pop_37 : decode cX4_pop 37 = .ok (.ishl, 1) := by decide +kernel
theorem dX4_pop_38 : decode cX4_pop 38 = .ok (.ior, 1) := by decide +kernel
theorem dX4_pop_39 : decode cX4_pop 39 = .ok (.ireturn, 1) := by decide +kernel
theorem dX4_hl_0 : decode cX4_hl 0 = .ok (.aload_n 0, 1) := by decide +kernel
theorem dX4_hl_1 : decode cX4_hl 1 = .ok (.getfield 14, 3) := by decide +kernel
theorem dX4_hl_4 : decode cX4_hl 4 = .ok (.iconst 4, 1) := by decide +kernel
theorem dX4_hl_5 : decode cX4_hl 5 = .ok (.iaload, 1) := by decide +kernel
theorem dX4_hl_6 : decode cX4_hl 6 = .ok (.bipush 8, 2) := by decide +kernel
theorem dX4_hl_8 : decode cX4_hl 8 = .ok (.ishl, 1) := by decide +kernel
theorem dX4_hl_9 : decode cX4_hl 9 = .ok (.aload_n 0, 1) := by decide +kernel
theorem dX4_hl_10 : decode cX4_hl 10 = .ok (.getfield 14, 3) := by decide +kernel
theorem dX4_hl_13 : decode cX4_hl 13 = .ok (.iconst 5, 1) := by decide +kernel
theorem dX4_hl_14 : decode cX4_hl 14 = .ok (.iaload, 1) := by decide +kernel
theorem dX4_hl_15 : decode cX4_hl 15 = .ok (.ior, 1) := by decide +kernel
theorem dX4_hl_16 : decode cX4_hl 16 = .ok (.ireturn, 1) := by decide +kernel
theorem dX4_setPair_0 : decode cX4_setPair 0 = .ok (.aload_n 0, 1) := by decide +kernel
theorem dX4_setPair_1 : decode cX4_setPair 1 = .ok (.getfield 14, 3) := by decide +kernel
theorem dX4_setPair_4 : decode cX4_setPair 4 = .ok (.iconst 2, 1) := by decide +kernel
theorem dX4_setPair_5 : decode cX4_setPair 5 = .ok (.iload_n 1, 1) := by decide +kernel
theorem dX4_setPair_6 : decode cX4_setPair 6 = .ok (.imul, 1) := by decide +kernel
theorem dX4_setPair_7 : decode cX4_setPair 7 = .ok (.iload_n 2, 1) := by decide +kernel
theorem dX4_setPair_8 : decode cX4_setPair 8 = .ok (.bipush 8, 2) := by decide +kernel
theorem dX4_setPair_10 : decode cX4_setPair 10 = .ok (.ishr, 1) := by decide +kernel
theorem dX4_setPair_11 : decode cX4_setPair 11 = .ok (.sipush 255, 3) := by decide +kernel
theorem dX4_setPair_14 : decode cX4_setPair 14 = .ok (.iand, 1) := by decide +kernel
theorem dX4_setPair_15 : decode cX4_setPair 15 = .ok (.iastore, 1) := by decide +kernel
theorem dX4_setPair_16 : decode cX4_setPair 16 = .ok (.aload_n 0, 1) := by decide +kernel
theorem dX4_setPair_17 : decode cX4_setPair 17 = .ok (.getfield 14, 3) := by decide +kernel
theorem dX4_setPair_20 : decode cX4_setPair 20 = .ok (.iconst 2, 1) := by decide +kernel
theorem dX4_setPair_21 : decode cX4_setPair 21 = .ok (.iload_n 1, 1) := by decide +kernel
theorem dX4_setPair_22 : decode cX4_setPair 22 = .ok (.imul, 1) := by decide +kernel
theorem dX4_setPair_23 : decode cX4_setPair 23 = .ok (.iconst 1, 1) := by decide +kernel
theorem dX4_setPair_24 : decode cX4_setPair 24 = .ok (.iadd, 1) := by decide +kernel
theorem dX4_setPair_25 : decode cX4_setPair 25 = .ok (.iload_n 2, 1) := by decide +kernel
theorem dX4_setPair_26 : decode cX4_setPair 26 = .ok (.sipush 255, 3) := by decide +kernel
theorem dX4_setPair_29 : decode cX4_setPair 29 = .ok (.iand, 1) := by decide +kernel
theorem dX4_setPair_30 : decode cX4_setPair 30 = .ok (.iastore, 1) := by decide +kernel
theorem dX4_setPair_31 : decode cX4_setPair 31 = .ok (.return_, 1) := by decide +kernel
theorem dX4_pair_0 : decode cX4_pair 0 = .ok (.aload_n 0, 1) := by decide +kernel
theorem dX4_pair_1 : decode cX4_pair 1 = .ok (.getfield 14, 3) := by decide +kernel
theorem dX4_pair_4 : decode cX4_pair 4 = .ok (.iconst 2, 1) := by decide +kernel
theorem dX4_pair_5 : decode cX4_pair 5 = .ok (.iload_n 1, 1) := by decide +kernel
theorem dX4_pair_6 : decode cX4_pair 6 = .ok (.imul, 1) := by decide +kernel
theorem dX4_pair_7 : decode cX4_pair 7 = .ok (.iaload, 1) := by decide +kernel
theorem dX4_pair_8 : decode cX4_pair 8 = .ok (.bipush 8, 2) := by decide +kernel
theorem dX4_pair_10 : decode cX4_pair 10 = .ok (.ishl, 1) := by decide +kernel
theorem dX4_pair_11 : decode cX4_pair 11 = .ok (.aload_n 0, 1) := by decide +kernel
theorem dX4_pair_12 : decode cX4_pair 12 = .ok (.getfield 14, 3) := by decide +kernel
theorem dX4_pair_15 : decode cX4_pair 15 = .ok (.iconst 2, 1) := by decide +kernel
theorem dX4_pair_16 : decode cX4_pair 16 = .ok (.iload_n 1, 1) := by decide +kernel
theorem dX4_pair_17 : decode cX4_pair 17 = .ok (.imul, 1) := by decide +kernel
theorem dX4_pair_18 : decode cX4_pair 18 = .ok (.iconst 1, 1) := by decide +kernel
theorem dX4_pair_19 : decode cX4_pair 19 = .ok (.iadd, 1) := by decide +kernel
theorem dX4_pair_20 : decode cX4_pair 20 = .ok (.iaload, 1) := by decide +kernel
theorem dX4_pair_21 : decode cX4_pair 21 = .ok (.ior, 1) := by decide +kernel
theorem dX4_pair_22 : decode cX4_pair 22 = .ok (.ireturn, 1) := by decide +kernel
theorem dX4_flags_0 : decode cX4_flags 0 = .ok (.aload_n 0, 1) := by decide +kernel
theorem dX4_flags_1 : decode cX4_flags 1 = .ok (.getfield 54, 3) := by decide +kernel
theorem dX4_flags_4 : decode cX4_flags 4 = .ok (.ifCond .eq 9, 3) := by decide +kernel
theorem dX4_flags_7 : decode cX4_flags 7 = .ok (.sipush 128, 3) := by decide +kernel
theorem dX4_flags_10 : decode cX4_flags 10 = .ok (.goto 4, 3) := by decide +kernel
theorem dX4_flags_13 : decode cX4_flags 13 = .ok (.iconst 0, 1) := by decide +kernel
theorem dX4_flags_14 : decode cX4_flags 14 = .ok (.aload_n 0, 1) := by decide +kernel
theorem dX4_flags_15 : decode cX4_flags 15 = .ok (.getfield 58, 3) := by decide +kernel
theorem dX4_flags_18 : decode cX4_flags 18 = .ok (.ifCond .eq 8, 3) := by decide +kernel
theorem dX4_flags_21 : decode cX4_flags 21 = .ok (.bipush 64, 2) := by decide +kernel
theorem dX4_flags_23 : decode cX4_flags 23 = .ok (.goto 4, 3) := by decide +kernel
theorem dX4_flags_26 : decode cX4_flags 26 = .ok (.iconst 0, 1) := by decide +kernel
theorem dX4_flags_27 : decode cX4_flags 27 = .ok (.ior, 1) := by decide +kernel
theorem dX4_flags_28 : decode cX4_flags 28 = .ok (.aload_n 0, 1) := by decide +kernel
theorem dX4_flags_29 : decode cX4_flags 29 = .ok (.getfield 61, 3) := by decide +kernel
theorem dX4_flags_32 : decode cX4_flags 32 = .ok (.ifCond .eq 8, 3) := by decide +kernel
theorem dX4_flags_35 : decode cX4_flags 35 = .ok (.bipush 32, 2) := by decide +kernel
theorem dX4_flags_37 : decode cX4_flags 37 = .ok (.goto 4, 3) := by decide +kernel
theorem dX4_flags_40 : decode cX4_flags 40 = .ok (.iconst 0, 1) := by decide +kernel
theorem dX4_flags_41 : decode cX4_flags 41 = .ok (.ior, 1) := by decide +kernel
theorem dX4_flags_42 : decode cX4_flags 42 = .ok (.aload_n 0, 1) := by decide +kernel
theorem dX4_flags_43 : decode cX4_flags 43 = .ok (.getfield 64, 3) := by decide +kernel
theorem dX4_flags_46 : decode cX4_flags 46 = .ok (.ifCond .eq 8, 3) := by decide +kernel
theorem dX4_flags_49 : decode cX4_flags 49 = .ok (.bipush 16, 2) := by decide +kernel
theorem dX4_flags_51 : decode cX4_flags 51 = .ok (.goto 4, 3) := by decide +kernel
theorem dX4_flags_54 : decode cX4_flags 54 = .ok (.iconst 0, 1) := by decide +kernel
theorem dX4_flags_55 : decode cX4_flags 55 = .ok (.ior, 1) := by decide +kernel
theorem dX4_flags_56 : decode cX4_flags 56 = .ok (.ireturn, 1) := by decide +kernel
theorem dX4_setFlags_0 : decode cX4_setFlags 0 = .ok (.aload_n 0, 1) := by decide +kernel
theorem dX4_setFlags_1 : decode cX4_setFlags 1 = .ok (.iload_n 1, 1) := by decide +kernel
theorem dX4_setFlags_2 : decode cX4_setFlags 2 = .ok (.sipush 128, 3) := by decide +kernel
theorem dX4_setFlags_5 : decode cX4_setFlags 5 = .ok (.iand, 1) := by decide +kernel
theorem dX4_setFlags_6 : decode cX4_setFlags 6 = .ok (.ifCond .eq 7, 3) := by decide +kernel
theorem dX4_setFlags_9 : decode cX4_setFlags 9 = .ok (.iconst 1, 1) := by decide +kernel
theorem dX4_setFlags_10 : decode cX4_setFlags 10 = .ok (.goto 4, 3) := by decide +kernel
theorem dX4_setFlags_13 : decode cX4_setFlags 13 = .ok (.iconst 0, 1) := by decide +kernel
theorem dX4_setFlags_14 : decode cX4_setFlags 14 = .ok (.putfield 54, 3) := by decide +kernel
theorem dX4_setFlags_17 : decode cX4_setFlags 17 = .ok (.aload_n 0, 1) := by decide +kernel
theorem dX4_setFlags_18 : decode cX4_setFlags 18 = .ok (.iload_n 1, 1) := by decide +kernel
theorem dX4_setFlags_19 : decode cX4_setFlags 19 = .ok (.bipush 64, 2) := by decide +kernel
theorem dX4_setFlags_21 : decode cX4_setFlags 21 = .ok (.iand, 1) := by decide +kernel
theorem dX4_setFlags_22 : decode cX4_setFlags 22 = .ok (.ifCond .eq 7, 3) := by decide +kernel
theorem dX4_setFlags_25 : decode cX4_setFlags 25 = .ok (.iconst 1, 1) := by decide +kernel
theorem dX4_setFlags_26 : decode cX4_setFlags 26 = .ok (.goto 4, 3) := by decide +kernel
theorem dX4_setFlags_29 : decode cX4_setFlags 29 = .ok (.iconst 0, 1) := by decide +kernel
theorem dX4_setFlags_30 : decode cX4_setFlags 30 = .ok (.putfield 58, 3) := by decide +kernel
theorem dX4_setFlags_33 : decode cX4_setFlags 33 = .ok (.aload_n 0, 1) := by decide +kernel
theorem dX4_setFlags_34 : decode cX4_setFlags 34 = .ok (.iload_n 1, 1) := by decide +kernel
theorem dX4_setFlags_35 : decode cX4_setFlags 35 = .ok (.bipush 32, 2) := by decide +kernel
theorem dX4_setFlags_37 : decode cX4_setFlags 37 = .ok (.iand, 1) := by decide +kernel
theorem dX4_setFlags_38 : decode cX4_setFlags 38 = .ok (.ifCond .eq 7, 3) := by decide +kernel
theorem dX4_setFlags_41 : decode cX4_setFlags 41 = .ok (.iconst 1, 1) := by decide +kernel
theorem dX4_setFlags_42 : decode cX4_setFlags 42 = .ok (.goto 4, 3) := by decide +kernel
theorem dX4_setFlags_45 : decode cX4_setFlags 45 = .ok (.iconst 0, 1) := by decide +kernel
theorem dX4_setFlags_46 : decode cX4_setFlags 46 = .ok (.putfield 61, 3) := by decide +kernel
theorem dX4_setFlags_49 : decode cX4_setFlags 49 = .ok (.aload_n 0, 1) := by decide +kernel
theorem dX4_setFlags_50 : decode cX4_setFlags 50 = .ok (.iload_n 1, 1) := by decide +kernel
theorem dX4_setFlags_51 : decode cX4_setFlags 51 = .ok (.bipush 16, 2) := by decide +kernel
theorem dX4_setFlags_53 : decode cX4_setFlags 53 = .ok (.iand, 1) := by decide +kernel
theorem dX4_setFlags_54 : decode cX4_setFlags 54 = .ok (.ifCond .eq 7, 3) := by decide +kernel
theorem dX4_setFlags_57 : decode cX4_setFlags 57 = .ok (.iconst 1, 1) := by decide +kernel
theorem dX4_setFlags_58 : decode cX4_setFlags 58 = .ok (.goto 4, 3) := by decide +kernel
theorem dX4_setFlags_61 : decode cX4_setFlags 61 = .ok (.iconst 0, 1) := by decide +kernel
theorem dX4_setFlags_62 : decode cX4_setFlags 62 = .ok (.putfield 64, 3) := by decide +kernel
theorem dX4_setFlags_65 : decode cX4_setFlags 65 = .ok (.return_, 1) := by decide +kernel
theorem dX4_flagsAre_0 : decode cX4_flagsAre 0 = .ok (.aload_n 0, 1) := by decide +kernel
theorem dX4_flagsAre_1 : decode cX4_flagsAre 1 = .ok (.iload_n 1, 1) := by decide +kernel
theorem dX4_flagsAre_2 : decode cX4_flagsAre 2 = .ok (.putfield 54, 3) := by decide +kernel
theorem dX4_flagsAre_5 : decode cX4_flagsAre 5 = .ok (.aload_n 0, 1) := by decide +kernel
theorem dX4_flagsAre_6 : decode cX4_flagsAre 6 = .ok (.iload_n 2, 1) := by decide +kernel
theorem dX4_flagsAre_7 : decode cX4_flagsAre 7 = .ok (.putfield 58, 3) := by decide +kernel
theorem dX4_flagsAre_10 : decode cX4_flagsAre 10 = .ok (.aload_n 0, 1) := by decide +kernel
theorem dX4_flagsAre_11 : decode cX4_flagsAre 11 = .ok (.iload_n 3, 1) := by decide +kernel
theorem dX4_flagsAre_12 : decode cX4_flagsAre 12 = .ok (.putfield 61, 3) := by decide +kernel
theorem dX4_flagsAre_15 : decode cX4_flagsAre 15 = .ok (.aload_n 0, 1) := by decide +kernel
theorem dX4_flagsAre_16 : decode cX4_flagsAre 16 = .ok (.iload 4, 2) := by decide +kernel
theorem dX4_flagsAre_18 : decode cX4_flagsAre 18 = .ok (.putfield 64, 3) := by decide +kernel
theorem dX4_flagsAre_21 : decode cX4_flagsAre 21 = .ok (.return_, 1) := by decide +kernel
theorem dX4_operand_0 : decode cX4_operand 0 = .ok (.iload_n 1, 1) := by decide +kernel
theorem dX4_operand_1 : decode cX4_operand 1 = .ok (.bipush 6, 2) := by decide +kernel
theorem dX4_operand_3 : decode cX4_operand 3 = .ok (.if_icmp .ne 14, 3) := by decide +kernel
theorem dX4_operand_6 : decode cX4_operand 6 = .ok (.aload_n 0, 1) := by decide +kernel
theorem dX4_operand_7 : decode cX4_operand 7 = .ok (.aload_n 0, 1) := by decide +kernel
theorem dX4_operand_8 : decode cX4_operand 8 = .ok (.invokevirtual 67, 3) := by decide +kernel
theorem dX4_operand_11 : decode cX4_operand 11 = .ok (.invokevirtual 41, 3) := by decide +kernel
theorem dX4_operand_14 : decode cX4_operand 14 = .ok (.goto 9, 3) := by decide +kernel
theorem dX4_operand_17 : decode cX4_operand 17 = .ok (.aload_n 0, 1) := by decide +kernel
theorem dX4_operand_18 : decode cX4_operand 18 = .ok (.getfield 14, 3) := by decide +kernel
theorem dX4_operand_21 : decode cX4_operand 21 = .ok (.iload_n 1, 1) := by decide +kernel
theorem dX4_operand_22 : decode cX4_operand 22 = .ok (.iaload, 1) := by decide +kernel
theorem dX4_operand_23 : decode cX4_operand 23 = .ok (.ireturn, 1) := by decide +kernel
theorem dX4_setOperand_0 : decode cX4_setOperand 0 = .ok (.iload_n 1, 1) := by decide +kernel
theorem dX4_setOperand_1 : decode cX4_setOperand 1 = .ok (.bipush 6, 2) := by decide +kernel
theorem dX4_setOperand_3 : decode cX4_setOperand 3 = .ok (.if_icmp .ne 19, 3) := by decide +kernel
theorem dX4_setOperand_6 : decode cX4_setOperand 6 = .ok (.aload_n 0, 1) := by decide +kernel
theorem dX4_setOperand_7 : decode cX4_setOperand 7 = .ok (.aload_n 0, 1) := by decide +kernel
theorem dX4_setOperand_8 : decode cX4_setOperand 8 = .ok (.invokevirtual 67, 3) := by decide +kernel
theorem dX4_setOperand_11 : decode cX4_setOperand 11 = .ok (.iload_n 2, 1) := by decide +kernel
theorem dX4_setOperand_12 : decode cX4_setOperand 12 = .ok (.sipush 255, 3) := by decide +kernel
theorem dX4_setOperand_15 : decode cX4_setOperand 15 = .ok (.iand, 1) := by decide +kernel
theorem dX4_setOperand_16 : decode cX4_setOperand 16 = .ok (.invokevirtual 51, 3) := by decide +kernel
theorem dX4_setOperand_19 : decode cX4_setOperand 19 = .ok (.goto 14, 3) := by decide +kernel
theorem dX4_setOperand_22 : decode cX4_setOperand 22 = .ok (.aload_n 0, 1) := by decide +kernel
theorem dX4_setOperand_23 : decode cX4_setOperand 23 = .ok (.getfield 14, 3) := by decide +kernel
theorem dX4_setOperand_26 : decode cX4_setOperand 26 = .ok (.iload_n 1, 1) := by decide +kernel
theorem dX4_setOperand_27 : decode cX4_setOperand 27 = .ok (.iload_n 2, 1) := by decide +kernel
theorem dX4_setOperand_28 : decode cX4_setOperand 28 = .ok (.sipush 255, 3) := by decide +kernel
theorem dX4_setOperand_31 : decode cX4_setOperand 31 = .ok (.iand, 1) := by decide +kernel
theorem dX4_setOperand_32 : decode cX4_setOperand 32 = .ok (.iastore, 1) := by decide +kernel
theorem dX4_setOperand_33 : decode cX4_setOperand 33 = .ok (.return_, 1) := by decide +kernel
theorem dX4_adds_0 : decode cX4_adds 0 = .ok (.aload_n 0, 1) := by decide +kernel
theorem dX4_adds_1 : decode cX4_adds 1 = .ok (.getfield 14, 3) := by decide +kernel
theorem dX4_adds_4 : decode cX4_adds 4 = .ok (.bipush 7, 2) := by decide +kernel
theorem dX4_adds_6 : decode cX4_adds 6 = .ok (.iaload, 1) := by decide +kernel
theorem dX4_adds_7 : decode cX4_adds 7 = .ok (.istore_n 3, 1) := by decide +kernel
theorem dX4_adds_8 : decode cX4_adds 8 = .ok (.iload_n 3, 1) := by decide +kernel
theorem dX4_adds_9 : decode cX4_adds 9 = .ok (.iload_n 1, 1) := by decide +kernel
theorem dX4_adds_10 : decode cX4_adds 10 = .ok (.iadd, 1) := by decide +kernel
theorem dX4_adds_11 : decode cX4_adds 11 = .ok (.iload_n 2, 1) := by decide +kernel
theorem dX4_adds_12 : decode cX4_adds 12 = .ok (.iadd, 1) := by decide +kernel
theorem dX4_adds_13 : decode cX4_adds 13 = .ok (.istore 4, 2) := by decide +kernel
theorem dX4_adds_15 : decode cX4_adds 15 = .ok (.aload_n 0, 1) := by decide +kernel
theorem dX4_adds_16 : decode cX4_adds 16 = .ok (.iload 4, 2) := by decide +kernel
theorem dX4_adds_18 : decode cX4_adds 18 = .ok (.sipush 255, 3) := by decide +kernel
theorem dX4_adds_21 : decode cX4_adds 21 = .ok (.iand, 1) := by decide +kernel
theorem dX4_adds_22 : decode cX4_adds 22 = .ok (.ifCond .ne 7, 3) := by decide +kernel
theorem dX4_adds_25 : decode cX4_adds 25 = .ok (.iconst 1, 1) := by decide +kernel
theorem dX4_adds_26 : decode cX4_adds 26 = .ok (.goto 4, 3) := by decide +kernel
theorem dX4_adds_29 : decode cX4_adds 29 = .ok (.iconst 0, 1) := by decide +kernel
theorem dX4_adds_30 : decode cX4_adds 30 = .ok (.iconst 0, 1) := by decide +kernel
theorem dX4_adds_31 : decode cX4_adds 31 = .ok (.iload_n 3, 1) := by decide +kernel
theorem dX4_adds_32 : decode cX4_adds 32 = .ok (.bipush 15, 2) := by decide +kernel
theorem dX4_adds_34 : decode cX4_adds 34 = .ok (.iand, 1) := by decide +kernel
theorem dX4_adds_35 : decode cX4_adds 35 = .ok (.iload_n 1, 1) := by decide +kernel
theorem dX4_adds_36 : decode cX4_adds 36 = .ok (.bipush 15, 2) := by decide +kernel
theorem dX4_adds_38 : decode cX4_adds 38 = .ok (.iand, 1) := by decide +kernel
theorem dX4_adds_39 : decode cX4_adds 39 = .ok (.iadd, 1) := by decide +kernel
theorem dX4_adds_40 : decode cX4_adds 40 = .ok (.iload_n 2, 1) := by decide +kernel
theorem dX4_adds_41 : decode cX4_adds 41 = .ok (.iadd, 1) := by decide +kernel
theorem dX4_adds_42 : decode cX4_adds 42 = .ok (.bipush 15, 2) := by decide +kernel
theorem dX4_adds_44 : decode cX4_adds 44 = .ok (.if_icmp .le 7, 3) := by decide +kernel
theorem dX4_adds_47 : decode cX4_adds 47 = .ok (.iconst 1, 1) := by decide +kernel
theorem dX4_adds_48 : decode cX4_adds 48 = .ok (.goto 4, 3) := by decide +kernel
theorem dX4_adds_51 : decode cX4_adds 51 = .ok (.iconst 0, 1) := by decide +kernel
theorem dX4_adds_52 : decode cX4_adds 52 = .ok (.iload 4, 2) := by decide +kernel
theorem dX4_adds_54 : decode cX4_adds 54 = .ok (.sipush 255, 3) := by decide +kernel
theorem dX4_adds_57 : decode cX4_adds 57 = .ok (.if_icmp .le 7, 3) := by decide +kernel
theorem dX4_adds_60 : decode cX4_adds 60 = .ok (.iconst 1, 1) := by decide +kernel
theorem dX4_adds_61 : decode cX4_adds 61 = .ok (.goto 4, 3) := by decide +kernel
theorem dX4_adds_64 : decode cX4_adds 64 = .ok (.iconst 0, 1) := by decide +kernel
theorem dX4_adds_65 : decode cX4_adds 65 = .ok (.invokevirtual 70, 3) := by decide +kernel
theorem dX4_adds_68 : decode cX4_adds 68 = .ok (.aload_n 0, 1) := by decide +kernel
theorem dX4_adds_69 : decode cX4_adds 69 = .ok (.getfield 14, 3) := by decide +kernel
theorem dX4_adds_72 : decode cX4_adds 72 = .ok (.bipush 7, 2) := by decide +kernel
theorem dX4_adds_74 : decode cX4_adds 74 = .ok (.iload 4, 2) := by decide +kernel
theorem dX4_adds_76 : decode cX4_adds 76 = .ok (.sipush 255, 3) := by decide +kernel
theorem dX4_adds_79 : decode cX4_adds 79 = .ok (.iand, 1) := by decide +kernel
theorem dX4_adds_80 : decode cX4_adds 80 = .ok (.iastore, 1) := by decide +kernel
theorem dX4_adds_81 : decode cX4_adds 81 = .ok (.return_, 1) := by decide +kernel
theorem dX4_less_0 : decode cX4_less 0 = .ok (.aload_n 0, 1) := by decide +kernel
theorem dX4_less_1 : decode cX4_less 1 = .ok (.getfield 14, 3) := by decide +kernel
theorem dX4_less_4 : decode cX4_less 4 = .ok (.bipush 7, 2) := by decide +kernel
theorem dX4_less_6 : decode cX4_less 6 = .ok (.iaload, 1) := by decide +kernel
theorem dX4_less_7 : decode cX4_less 7 = .ok (.istore_n 3, 1) := by decide +kernel
theorem dX4_less_8 : decode cX4_less 8 = .ok (.iload_n 3, 1) := by decide +kernel
theorem dX4_less_9 : decode cX4_less 9 = .ok (.iload_n 1, 1) := by decide +kernel
theorem dX4_less_10 : decode cX4_less 10 = .ok (.isub, 1) := by decide +kernel
theorem dX4_less_11 : decode cX4_less 11 = .ok (.iload_n 2, 1) := by decide +kernel
theorem dX4_less_12 : decode cX4_less 12 = .ok (.isub, 1) := by decide +kernel
theorem dX4_less_13 : decode cX4_less 13 = .ok (.istore 4, 2) := by decide +kernel
theorem dX4_less_15 : decode cX4_less 15 = .ok (.aload_n 0, 1) := by decide +kernel
theorem dX4_less_16 : decode cX4_less 16 = .ok (.iload 4, 2) := by decide +kernel
theorem dX4_less_18 : decode cX4_less 18 = .ok (.sipush 255, 3) := by decide +kernel
theorem dX4_less_21 : decode cX4_less 21 = .ok (.iand, 1) := by decide +kernel
theorem dX4_less_22 : decode cX4_less 22 = .ok (.ifCond .ne 7, 3) := by decide +kernel
theorem dX4_less_25 : decode cX4_less 25 = .ok (.iconst 1, 1) := by decide +kernel
theorem dX4_less_26 : decode cX4_less 26 = .ok (.goto 4, 3) := by decide +kernel
theorem dX4_less_29 : decode cX4_less 29 = .ok (.iconst 0, 1) := by decide +kernel
theorem dX4_less_30 : decode cX4_less 30 = .ok (.iconst 1, 1) := by decide +kernel
theorem dX4_less_31 : decode cX4_less 31 = .ok (.iload_n 3, 1) := by decide +kernel
theorem dX4_less_32 : decode cX4_less 32 = .ok (.bipush 15, 2) := by decide +kernel
theorem dX4_less_34 : decode cX4_less 34 = .ok (.iand, 1) := by decide +kernel
theorem dX4_less_35 : decode cX4_less 35 = .ok (.iload_n 1, 1) := by decide +kernel
theorem dX4_less_36 : decode cX4_less 36 = .ok (.bipush 15, 2) := by decide +kernel
theorem dX4_less_38 : decode cX4_less 38 = .ok (.iand, 1) := by decide +kernel
theorem dX4_less_39 : decode cX4_less 39 = .ok (.isub, 1) := by decide +kernel
theorem dX4_less_40 : decode cX4_less 40 = .ok (.iload_n 2, 1) := by decide +kernel
theorem dX4_less_41 : decode cX4_less 41 = .ok (.isub, 1) := by decide +kernel
theorem dX4_less_42 : decode cX4_less 42 = .ok (.ifCond .ge 7, 3) := by decide +kernel
theorem dX4_less_45 : decode cX4_less 45 = .ok (.iconst 1, 1) := by decide +kernel
theorem dX4_less_46 : decode cX4_less 46 = .ok (.goto 4, 3) := by decide +kernel
theorem dX4_less_49 : decode cX4_less 49 = .ok (.iconst 0, 1) := by decide +kernel
theorem dX4_less_50 : decode cX4_less 50 = .ok (.iload 4, 2) := by decide +kernel
theorem dX4_less_52 : decode cX4_less 52 = .ok (.ifCond .ge 7, 3) := by decide +kernel
theorem dX4_less_55 : decode cX4_less 55 = .ok (.iconst 1, 1) := by decide +kernel
theorem dX4_less_56 : decode cX4_less 56 = .ok (.goto 4, 3) := by decide +kernel
theorem dX4_less_59 : decode cX4_less 59 = .ok (.iconst 0, 1) := by decide +kernel
theorem dX4_less_60 : decode cX4_less 60 = .ok (.invokevirtual 70, 3) := by decide +kernel
theorem dX4_less_63 : decode cX4_less 63 = .ok (.iload 4, 2) := by decide +kernel
theorem dX4_less_65 : decode cX4_less 65 = .ok (.sipush 255, 3) := by decide +kernel
theorem dX4_less_68 : decode cX4_less 68 = .ok (.iand, 1) := by decide +kernel
theorem dX4_less_69 : decode cX4_less 69 = .ok (.ireturn, 1) := by decide +kernel
theorem dX4_sums_0 : decode cX4_sums 0 = .ok (.aload_n 0, 1) := by decide +kernel
theorem dX4_sums_1 : decode cX4_sums 1 = .ok (.getfield 64, 3) := by decide +kernel
theorem dX4_sums_4 : decode cX4_sums 4 = .ok (.ifCond .eq 7, 3) := by decide +kernel
theorem dX4_sums_7 : decode cX4_sums 7 = .ok (.iconst 1, 1) := by decide +kernel
theorem dX4_sums_8 : decode cX4_sums 8 = .ok (.goto 4, 3) := by decide +kernel
theorem dX4_sums_11 : decode cX4_sums 11 = .ok (.iconst 0, 1) := by decide +kernel
theorem dX4_sums_12 : decode cX4_sums 12 = .ok (.istore_n 3, 1) := by decide +kernel
theorem dX4_sums_13 : decode cX4_sums 13 = .ok (.iload_n 1, 1) := by decide +kernel
theorem dX4_sums_14 : decode cX4_sums 14 = .ok (.tableswitch 200 0 6 #[42, 51, 60, 76, 92, 128, 164], 42) := by decide +kernel
theorem dX4_sums_56 : decode cX4_sums 56 = .ok (.aload_n 0, 1) := by decide +kernel
theorem dX4_sums_57 : decode cX4_sums 57 = .ok (.iload_n 2, 1) := by decide +kernel
theorem dX4_sums_58 : decode cX4_sums 58 = .ok (.iconst 0, 1) := by decide +kernel
theorem dX4_sums_59 : decode cX4_sums 59 = .ok (.invokevirtual 74, 3) := by decide +kernel
theorem dX4_sums_62 : decode cX4_sums 62 = .ok (.goto 160, 3) := by decide +kernel
theorem dX4_sums_65 : decode cX4_sums 65 = .ok (.aload_n 0, 1) := by decide +kernel
theorem dX4_sums_66 : decode cX4_sums 66 = .ok (.iload_n 2, 1) := by decide +kernel
theorem dX4_sums_67 : decode cX4_sums 67 = .ok (.iload_n 3, 1) := by decide +kernel
theorem dX4_sums_68 : decode cX4_sums 68 = .ok (.invokevirtual 74, 3) := by decide +kernel
theorem dX4_sums_71 : decode cX4_sums 71 = .ok (.goto 151, 3) := by decide +kernel
theorem dX4_sums_74 : decode cX4_sums 74 = .ok (.aload_n 0, 1) := by decide +kernel
theorem dX4_sums_75 : decode cX4_sums 75 = .ok (.getfield 14, 3) := by decide +kernel
theorem dX4_sums_78 : decode cX4_sums 78 = .ok (.bipush 7, 2) := by decide +kernel
theorem dX4_sums_80 : decode cX4_sums 80 = .ok (.aload_n 0, 1) := by decide +kernel
theorem dX4_sums_81 : decode cX4_sums 81 = .ok (.iload_n 2, 1) := by decide +kernel
theorem dX4_sums_82 : decode cX4_sums 82 = .ok (.iconst 0, 1) := by decide +kernel
theorem dX4_sums_83 : decode cX4_sums 83 = .ok (.invokevirtual 77, 3) := by decide +kernel
theorem dX4_sums_86 : decode cX4_sums 86 = .ok (.iastore, 1) := by decide +kernel
theorem dX4_sums_87 : decode cX4_sums 87 = .ok (.goto 135, 3) := by decide +kernel
theorem dX4_sums_90 : decode cX4_sums 90 = .ok (.aload_n 0, 1) := by decide +kernel
theorem dX4_sums_91 : decode cX4_sums 91 = .ok (.getfield 14, 3) := by decide +kernel
theorem dX4_sums_94 : decode cX4_sums 94 = .ok (.bipush 7, 2) := by decide +kernel
theorem dX4_sums_96 : decode cX4_sums 96 = .ok (.aload_n 0, 1) := by decide +kernel
theorem dX4_sums_97 : decode cX4_sums 97 = .ok (.iload_n 2, 1) := by decide +kernel
theorem dX4_sums_98 : decode cX4_sums 98 = .ok (.iload_n 3, 1) := by decide +kernel
theorem dX4_sums_99 : decode cX4_sums 99 = .ok (.invokevirtual 77, 3) := by decide +kernel
theorem dX4_sums_102 : decode cX4_sums 102 = .ok (.iastore, 1) := by decide +kernel
theorem dX4_sums_103 : decode cX4_sums 103 = .ok (.goto 119, 3) := by decide +kernel
theorem dX4_sums_106 : decode cX4_sums 106 = .ok (.aload_n 0, 1) := by decide +kernel
theorem dX4_sums_107 : decode cX4_sums 107 = .ok (.getfield 14, 3) := by decide +kernel
theorem dX4_sums_110 : decode cX4_sums 110 = .ok (.bipush 7, 2) := by decide +kernel
theorem dX4_sums_112 : decode cX4_sums 112 = .ok (.dup2, 1) := by decide +kernel
theorem dX4_sums_113 : decode cX4_sums 113 = .ok (.iaload, 1) := by decide +kernel
theorem dX4_sums_114 : decode cX4_sums 114 = .ok (.iload_n 2, 1) := by decide +kernel
theorem dX4_sums_115 : decode cX4_sums 115 = .ok (.iand, 1) := by decide +kernel
theorem dX4_sums_116 : decode cX4_sums 116 = .ok (.iastore, 1) := by decide +kernel
theorem dX4_sums_117 : decode cX4_sums 117 = .ok (.aload_n 0, 1) := by decide +kernel
theorem dX4_sums_118 : decode cX4_sums 118 = .ok (.aload_n 0, 1) := by decide +kernel
theorem dX4_sums_119 : decode cX4_sums 119 = .ok (.getfield 14, 3) := by decide +kernel
theorem dX4_sums_122 : decode cX4_sums 122 = .ok (.bipush 7, 2) := by decide +kernel
theorem dX4_sums_124 : decode cX4_sums 124 = .ok (.iaload, 1) := by decide +kernel
theorem dX4_sums_125 : decode cX4_sums 125 = .ok (.ifCond .ne 7, 3) := by decide +kernel
theorem dX4_sums_128 : decode cX4_sums 128 = .ok (.iconst 1, 1) := by decide +kernel
theorem dX4_sums_129 : decode cX4_sums 129 = .ok (.goto 4, 3) := by decide +kernel
theorem dX4_sums_132 : decode cX4_sums 132 = .ok (.iconst 0, 1) := by decide +kernel
theorem dX4_sums_133 : decode cX4_sums 133 = .ok (.iconst 0, 1) := by decide +kernel
theorem dX4_sums_134 : decode cX4_sums 134 = .ok (.iconst 1, 1) := by decide +kernel
theorem dX4_sums_135 : decode cX4_sums 135 = .ok (.iconst 0, 1) := by decide +kernel
theorem dX4_sums_136 : decode cX4_sums 136 = .ok (.invokevirtual 70, 3) := by decide +kernel
theorem dX4_sums_139 : decode cX4_sums 139 = .ok (.goto 83, 3) := by decide +kernel
theorem dX4_sums_142 : decode cX4_sums 142 = .ok (.aload_n 0, 1) := by decide +kernel
theorem dX4_sums_143 : decode cX4_sums 143 = .ok (.getfield 14, 3) := by decide +kernel
theorem dX4_sums_146 : decode cX4_sums 146 = .ok (.bipush 7, 2) := by decide +kernel
theorem dX4_sums_148 : decode cX4_sums 148 = .ok (.dup2, 1) := by decide +kernel
theorem dX4_sums_149 : decode cX4_sums 149 = .ok (.iaload, 1) := by decide +kernel
theorem dX4_sums_150 : decode cX4_sums 150 = .ok (.iload_n 2, 1) := by decide +kernel
theorem dX4_sums_151 : decode cX4_sums 151 = .ok (.ixor, 1) := by decide +kernel
theorem dX4_sums_152 : decode cX4_sums 152 = .ok (.iastore, 1) := by decide +kernel
theorem dX4_sums_153 : decode cX4_sums 153 = .ok (.aload_n 0, 1) := by decide +kernel
theorem dX4_sums_154 : decode cX4_sums 154 = .ok (.aload_n 0, 1) := by decide +kernel
theorem dX4_sums_155 : decode cX4_sums 155 = .ok (.getfield 14, 3) := by decide +kernel
theorem dX4_sums_158 : decode cX4_sums 158 = .ok (.bipush 7, 2) := by decide +kernel
theorem dX4_sums_160 : decode cX4_sums 160 = .ok (.iaload, 1) := by decide +kernel
theorem dX4_sums_161 : decode cX4_sums 161 = .ok (.ifCond .ne 7, 3) := by decide +kernel
theorem dX4_sums_164 : decode cX4_sums 164 = .ok (.iconst 1, 1) := by decide +kernel
theorem dX4_sums_165 : decode cX4_sums 165 = .ok (.goto 4, 3) := by decide +kernel
theorem dX4_sums_168 : decode cX4_sums 168 = .ok (.iconst 0, 1) := by decide +kernel
theorem dX4_sums_169 : decode cX4_sums 169 = .ok (.iconst 0, 1) := by decide +kernel
theorem dX4_sums_170 : decode cX4_sums 170 = .ok (.iconst 0, 1) := by decide +kernel
theorem dX4_sums_171 : decode cX4_sums 171 = .ok (.iconst 0, 1) := by decide +kernel
theorem dX4_sums_172 : decode cX4_sums 172 = .ok (.invokevirtual 70, 3) := by decide +kernel
theorem dX4_sums_175 : decode cX4_sums 175 = .ok (.goto 47, 3) := by decide +kernel
theorem dX4_sums_178 : decode cX4_sums 178 = .ok (.aload_n 0, 1) := by decide +kernel
theorem dX4_sums_179 : decode cX4_sums 179 = .ok (.getfield 14, 3) := by decide +kernel
theorem dX4_sums_182 : decode cX4_sums 182 = .ok (.bipush 7, 2) := by decide +kernel
theorem dX4_sums_184 : decode cX4_sums 184 = .ok (.dup2, 1) := by decide +kernel
theorem dX4_sums_185 : decode cX4_sums 185 = .ok (.iaload, 1) := by decide +kernel
theorem dX4_sums_186 : decode cX4_sums 186 = .ok (.iload_n 2, 1) := by decide +kernel
theorem dX4_sums_187 : decode cX4_sums 187 = .ok (.ior, 1) := by decide +kernel
theorem dX4_sums_188 : decode cX4_sums 188 = .ok (.iastore, 1) := by decide +kernel
theorem dX4_sums_189 : decode cX4_sums 189 = .ok (.aload_n 0, 1) := by decide +kernel
theorem dX4_sums_190 : decode cX4_sums 190 = .ok (.aload_n 0, 1) := by decide +kernel
theorem dX4_sums_191 : decode cX4_sums 191 = .ok (.getfield 14, 3) := by decide +kernel
theorem dX4_sums_194 : decode cX4_sums 194 = .ok (.bipush 7, 2) := by decide +kernel
theorem dX4_sums_196 : decode cX4_sums 196 = .ok (.iaload, 1) := by decide +kernel
theorem dX4_sums_197 : decode cX4_sums 197 = .ok (.ifCond .ne 7, 3) := by decide +kernel
theorem dX4_sums_200 : decode cX4_sums 200 = .ok (.iconst 1, 1) := by decide +kernel
theorem dX4_sums_201 : decode cX4_sums 201 = .ok (.goto 4, 3) := by decide +kernel
theorem dX4_sums_204 : decode cX4_sums 204 = .ok (.iconst 0, 1) := by decide +kernel
theorem dX4_sums_205 : decode cX4_sums 205 = .ok (.iconst 0, 1) := by decide +kernel
theorem dX4_sums_206 : decode cX4_sums 206 = .ok (.iconst 0, 1) := by decide +kernel
theorem dX4_sums_207 : decode cX4_sums 207 = .ok (.iconst 0, 1) := by decide +kernel
theorem dX4_sums_208 : decode cX4_sums 208 = .ok (.invokevirtual 70, 3) := by decide +kernel
theorem dX4_sums_211 : decode cX4_sums 211 = .ok (.goto 11, 3) := by decide +kernel
theorem dX4_sums_214 : decode cX4_sums 214 = .ok (.aload_n 0, 1) := by decide +kernel
theorem dX4_sums_215 : decode cX4_sums 215 = .ok (.iload_n 2, 1) := by decide +kernel
theorem dX4_sums_216 : decode cX4_sums 216 = .ok (.iconst 0, 1) := by decide +kernel
theorem dX4_sums_217 : decode cX4_sums 217 = .ok (.invokevirtual 77, 3) := by decide +kernel
theorem dX4_sums_220 : decode cX4_sums 220 = .ok (.istore 4, 2) := by decide +kernel
theorem dX4_sums_222 : decode cX4_sums 222 = .ok (.return_, 1) := by decide +kernel
theorem dX4_increased_0 : decode cX4_increased 0 = .ok (.iload_n 1, 1) := by decide +kernel
theorem dX4_increased_1 : decode cX4_increased 1 = .ok (.iconst 1, 1) := by decide +kernel
theorem dX4_increased_2 : decode cX4_increased 2 = .ok (.iadd, 1) := by decide +kernel
theorem dX4_increased_3 : decode cX4_increased 3 = .ok (.sipush 255, 3) := by decide +kernel
theorem dX4_increased_6 : decode cX4_increased 6 = .ok (.iand, 1) := by decide +kernel
theorem dX4_increased_7 : decode cX4_increased 7 = .ok (.istore_n 2, 1) := by decide +kernel
theorem dX4_increased_8 : decode cX4_increased 8 = .ok (.aload_n 0, 1) := by decide +kernel
theorem dX4_increased_9 : decode cX4_increased 9 = .ok (.iload_n 2, 1) := by decide +kernel
theorem dX4_increased_10 : decode cX4_increased 10 = .ok (.ifCond .ne 7, 3) := by decide +kernel
theorem dX4_increased_13 : decode cX4_increased 13 = .ok (.iconst 1, 1) := by decide +kernel
theorem dX4_increased_14 : decode cX4_increased 14 = .ok (.goto 4, 3) := by decide +kernel
theorem dX4_increased_17 : decode cX4_increased 17 = .ok (.iconst 0, 1) := by decide +kernel
theorem dX4_increased_18 : decode cX4_increased 18 = .ok (.iconst 0, 1) := by decide +kernel
theorem dX4_increased_19 : decode cX4_increased 19 = .ok (.iload_n 2, 1) := by decide +kernel
theorem dX4_increased_20 : decode cX4_increased 20 = .ok (.bipush 16, 2) := by decide +kernel
theorem dX4_increased_22 : decode cX4_increased 22 = .ok (.irem, 1) := by decide +kernel
theorem dX4_increased_23 : decode cX4_increased 23 = .ok (.ifCond .ne 7, 3) := by decide +kernel
theorem dX4_increased_26 : decode cX4_increased 26 = .ok (.iconst 1, 1) := by decide +kernel
theorem dX4_increased_27 : decode cX4_increased 27 = .ok (.goto 4, 3) := by decide +kernel
theorem dX4_increased_30 : decode cX4_increased 30 = .ok (.iconst 0, 1) := by decide +kernel
theorem dX4_increased_31 : decode cX4_increased 31 = .ok (.aload_n 0, 1) := by decide +kernel
theorem dX4_increased_32 : decode cX4_increased 32 = .ok (.getfield 64, 3) := by decide +kernel
theorem dX4_increased_35 : decode cX4_increased 35 = .ok (.invokevirtual 70, 3) := by decide +kernel
theorem dX4_increased_38 : decode cX4_increased 38 = .ok (.iload_n 2, 1) := by decide +kernel
theorem dX4_increased_39 : decode cX4_increased 39 = .ok (.ireturn, 1) := by decide +kernel
theorem dX4_decreased_0 : decode cX4_decreased 0 = .ok (.iload_n 1, 1) := by decide +kernel
theorem dX4_decreased_1 : decode cX4_decreased 1 = .ok (.iconst 1, 1) := by decide +kernel
theorem dX4_decreased_2 : decode cX4_decreased 2 = .ok (.isub, 1) := by decide +kernel
theorem dX4_decreased_3 : decode cX4_decreased 3 = .ok (.sipush 255, 3) := by decide +kernel
theorem dX4_decreased_6 : decode cX4_decreased 6 = .ok (.iand, 1) := by decide +kernel
theorem dX4_decreased_7 : decode cX4_decreased 7 = .ok (.istore_n 2, 1) := by decide +kernel
theorem dX4_decreased_8 : decode cX4_decreased 8 = .ok (.aload_n 0, 1) := by decide +kernel
theorem dX4_decreased_9 : decode cX4_decreased 9 = .ok (.iload_n 2, 1) := by decide +kernel
theorem dX4_decreased_10 : decode cX4_decreased 10 = .ok (.ifCond .ne 7, 3) := by decide +kernel
theorem dX4_decreased_13 : decode cX4_decreased 13 = .ok (.iconst 1, 1) := by decide +kernel
theorem dX4_decreased_14 : decode cX4_decreased 14 = .ok (.goto 4, 3) := by decide +kernel
theorem dX4_decreased_17 : decode cX4_decreased 17 = .ok (.iconst 0, 1) := by decide +kernel
theorem dX4_decreased_18 : decode cX4_decreased 18 = .ok (.iconst 1, 1) := by decide +kernel
theorem dX4_decreased_19 : decode cX4_decreased 19 = .ok (.iload_n 2, 1) := by decide +kernel
theorem dX4_decreased_20 : decode cX4_decreased 20 = .ok (.bipush 16, 2) := by decide +kernel
theorem dX4_decreased_22 : decode cX4_decreased 22 = .ok (.irem, 1) := by decide +kernel
theorem dX4_decreased_23 : decode cX4_decreased 23 = .ok (.bipush 15, 2) := by decide +kernel
theorem dX4_decreased_25 : decode cX4_decreased 25 = .ok (.if_icmp .ne 7, 3) := by decide +kernel
theorem dX4_decreased_28 : decode cX4_decreased 28 = .ok (.iconst 1, 1) := by decide +kernel
theorem dX4_decreased_29 : decode cX4_decreased 29 = .ok (.goto 4, 3) := by decide +kernel
theorem dX4_decreased_32 : decode cX4_decreased 32 = .ok (.iconst 0, 1) := by decide +kernel
theorem dX4_decreased_33 : decode cX4_decreased 33 = .ok (.aload_n 0, 1) := by decide +kernel
theorem dX4_decreased_34 : decode cX4_decreased 34 = .ok (.getfield 64, 3) := by decide +kernel
theorem dX4_decreased_37 : decode cX4_decreased 37 = .ok (.invokevirtual 70, 3) := by decide +kernel
theorem dX4_decreased_40 : decode cX4_decreased 40 = .ok (.iload_n 2, 1) := by decide +kernel
theorem dX4_decreased_41 : decode cX4_decreased 41 = .ok (.ireturn, 1) := by decide +kernel
theorem dX4_turned_0 : decode cX4_turned 0 = .ok (.aload_n 0, 1) := by decide +kernel
theorem dX4_turned_1 : decode cX4_turned 1 = .ok (.getfield 64, 3) := by decide +kernel
theorem dX4_turned_4 : decode cX4_turned 4 = .ok (.ifCond .eq 7, 3) := by decide +kernel
theorem dX4_turned_7 : decode cX4_turned 7 = .ok (.iconst 1, 1) := by decide +kernel
theorem dX4_turned_8 : decode cX4_turned 8 = .ok (.goto 4, 3) := by decide +kernel
theorem dX4_turned_11 : decode cX4_turned 11 = .ok (.iconst 0, 1) := by decide +kernel
theorem dX4_turned_12 : decode cX4_turned 12 = .ok (.istore_n 3, 1) := by decide +kernel
theorem dX4_turned_13 : decode cX4_turned 13 = .ok (.iload_n 1, 1) := by decide +kernel
theorem dX4_turned_14 : decode cX4_turned 14 = .ok (.iconst 2, 1) := by decide +kernel
theorem dX4_turned_15 : decode cX4_turned 15 = .ok (.irem, 1) := by decide +kernel
theorem dX4_turned_16 : decode cX4_turned 16 = .ok (.ifCond .ne 17, 3) := by decide +kernel
theorem dX4_turned_19 : decode cX4_turned 19 = .ok (.iload_n 2, 1) := by decide +kernel
theorem dX4_turned_20 : decode cX4_turned 20 = .ok (.bipush 127, 2) := by decide +kernel
theorem dX4_turned_22 : decode cX4_turned 22 = .ok (.if_icmp .le 7, 3) := by decide +kernel
theorem dX4_turned_25 : decode cX4_turned 25 = .ok (.iconst 1, 1) := by decide +kernel
theorem dX4_turned_26 : decode cX4_turned 26 = .ok (.goto 19, 3) := by decide +kernel
theorem dX4_turned_29 : decode cX4_turned 29 = .ok (.iconst 0, 1) := by decide +kernel
theorem dX4_turned_30 : decode cX4_turned 30 = .ok (.goto 15, 3) := by decide +kernel
theorem dX4_turned_33 : decode cX4_turned 33 = .ok (.iload_n 2, 1) := by decide +kernel
theorem dX4_turned_34 : decode cX4_turned 34 = .ok (.iconst 2, 1) := by decide +kernel
theorem dX4_turned_35 : decode cX4_turned 35 = .ok (.irem, 1) := by decide +kernel
theorem dX4_turned_36 : decode cX4_turned 36 = .ok (.iconst 1, 1) := by decide +kernel
theorem dX4_turned_37 : decode cX4_turned 37 = .ok (.if_icmp .ne 7, 3) := by decide +kernel
theorem dX4_turned_40 : decode cX4_turned 40 = .ok (.iconst 1, 1) := by decide +kernel
theorem dX4_turned_41 : decode cX4_turned 41 = .ok (.goto 4, 3) := by decide +kernel
theorem dX4_turned_44 : decode cX4_turned 44 = .ok (.iconst 0, 1) := by decide +kernel
theorem dX4_turned_45 : decode cX4_turned 45 = .ok (.istore 5, 2) := by decide +kernel
theorem dX4_turned_47 : decode cX4_turned 47 = .ok (.iload_n 1, 1) := by decide +kernel
theorem dX4_turned_48 : decode cX4_turned 48 = .ok (.tableswitch 130 0 6 #[44, 57, 70, 80, 93, 101, 115], 44) := by decide +kernel
theorem dX4_turned_92 : decode cX4_turned 92 = .ok (.iload_n 2, 1) := by decide +kernel
theorem dX4_turned_93 : decode cX4_turned 93 = .ok (.iconst 1, 1) := by decide +kernel
theorem dX4_turned_94 : decode cX4_turned 94 = .ok (.ishl, 1) := by decide +kernel
theorem dX4_turned_95 : decode cX4_turned 95 = .ok (.iload_n 2, 1) := by decide +kernel
theorem dX4_turned_96 : decode cX4_turned 96 = .ok (.bipush 7, 2) := by decide +kernel
theorem dX4_turned_98 : decode cX4_turned 98 = .ok (.ishr, 1) := by decide +kernel
theorem dX4_turned_99 : decode cX4_turned 99 = .ok (.ior, 1) := by decide +kernel
theorem dX4_turned_100 : decode cX4_turned 100 = .ok (.istore 4, 2) := by decide +kernel
theorem dX4_turned_102 : decode cX4_turned 102 = .ok (.goto 81, 3) := by decide +kernel
theorem dX4_turned_105 : decode cX4_turned 105 = .ok (.iload_n 2, 1) := by decide +kernel
theorem dX4_turned_106 : decode cX4_turned 106 = .ok (.iconst 1, 1) := by decide +kernel
theorem dX4_turned_107 : decode cX4_turned 107 = .ok (.ishr, 1) := by decide +kernel
theorem dX4_turned_108 : decode cX4_turned 108 = .ok (.iload_n 2, 1) := by decide +kernel
theorem dX4_turned_109 : decode cX4_turned 109 = .ok (.bipush 7, 2) := by decide +kernel
theorem dX4_turned_111 : decode cX4_turned 111 = .ok (.ishl, 1) := by decide +kernel
theorem dX4_turned_112 : decode cX4_turned 112 = .ok (.ior, 1) := by decide +kernel
theorem dX4_turned_113 : decode cX4_turned 113 = .ok (.istore 4, 2) := by decide +kernel
theorem dX4_turned_115 : decode cX4_turned 115 = .ok (.goto 68, 3) := by decide +kernel
theorem dX4_turned_118 : decode cX4_turned 118 = .ok (.iload_n 2, 1) := by decide +kernel
theorem dX4_turned_119 : decode cX4_turned 119 = .ok (.iconst 1, 1) := by decide +kernel
theorem dX4_turned_120 : decode cX4_turned 120 = .ok (.ishl, 1) := by decide +kernel
theorem dX4_turned_121 : decode cX4_turned 121 = .ok (.iload_n 3, 1) := by decide +kernel
theorem dX4_turned_122 : decode cX4_turned 122 = .ok (.ior, 1) := by decide +kernel
theorem dX4_turned_123 : decode cX4_turned 123 = .ok (.istore 4, 2) := by decide +kernel
theorem dX4_turned_125 : decode cX4_turned 125 = .ok (.goto 58, 3) := by decide +kernel
theorem dX4_turned_128 : decode cX4_turned 128 = .ok (.iload_n 2, 1) := by decide +kernel
theorem dX4_turned_129 : decode cX4_turned 129 = .ok (.iconst 1, 1) := by decide +kernel
theorem dX4_turned_130 : decode cX4_turned 130 = .ok (.ishr, 1) := by decide +kernel
theorem dX4_turned_131 : decode cX4_turned 131 = .ok (.iload_n 3, 1) := by decide +kernel
theorem dX4_turned_132 : decode cX4_turned 132 = .ok (.bipush 7, 2) := by decide +kernel
theorem dX4_turned_134 : decode cX4_turned 134 = .ok (.ishl, 1) := by decide +kernel
theorem dX4_turned_135 : decode cX4_turned 135 = .ok (.ior, 1) := by decide +kernel
theorem dX4_turned_136 : decode cX4_turned 136 = .ok (.istore 4, 2) := by decide +kernel
theorem dX4_turned_138 : decode cX4_turned 138 = .ok (.goto 45, 3) := by decide +kernel
theorem dX4_turned_141 : decode cX4_turned 141 = .ok (.iload_n 2, 1) := by decide +kernel
theorem dX4_turned_142 : decode cX4_turned 142 = .ok (.iconst 1, 1) := by decide +kernel
theorem dX4_turned_143 : decode cX4_turned 143 = .ok (.ishl, 1) := by decide +kernel
theorem dX4_turned_144 : decode cX4_turned 144 = .ok (.istore 4, 2) := by decide +kernel
theorem dX4_turned_146 : decode cX4_turned 146 = .ok (.goto 37, 3) := by decide +kernel
theorem dX4_turned_149 : decode cX4_turned 149 = .ok (.iload_n 2, 1) := by decide +kernel
theorem dX4_turned_150 : decode cX4_turned 150 = .ok (.iconst 1, 1) := by decide +kernel
theorem dX4_turned_151 : decode cX4_turned 151 = .ok (.ishr, 1) := by decide +kernel
theorem dX4_turned_152 : decode cX4_turned 152 = .ok (.iload_n 2, 1) := by decide +kernel
theorem dX4_turned_153 : decode cX4_turned 153 = .ok (.sipush 128, 3) := by decide +kernel
theorem dX4_turned_156 : decode cX4_turned 156 = .ok (.iand, 1) := by decide +kernel
theorem dX4_turned_157 : decode cX4_turned 157 = .ok (.ior, 1) := by decide +kernel
theorem dX4_turned_158 : decode cX4_turned 158 = .ok (.istore 4, 2) := by decide +kernel
theorem dX4_turned_160 : decode cX4_turned 160 = .ok (.goto 23, 3) := by decide +kernel
theorem dX4_turned_163 : decode cX4_turned 163 = .ok (.iload_n 2, 1) := by decide +kernel
theorem dX4_turned_164 : decode cX4_turned 164 = .ok (.iconst 4, 1) := by decide +kernel
theorem dX4_turned_165 : decode cX4_turned 165 = .ok (.ishl, 1) := by decide +kernel
theorem dX4_turned_166 : decode cX4_turned 166 = .ok (.iload_n 2, 1) := by decide +kernel
theorem dX4_turned_167 : decode cX4_turned 167 = .ok (.iconst 4, 1) := by decide +kernel
theorem dX4_turned_168 : decode cX4_turned 168 = .ok (.ishr, 1) := by decide +kernel
theorem dX4_turned_169 : decode cX4_turned 169 = .ok (.ior, 1) := by decide +kernel
theorem dX4_turned_170 : decode cX4_turned 170 = .ok (.istore 4, 2) := by decide +kernel
theorem dX4_turned_172 : decode cX4_turned 172 = .ok (.iconst 0, 1) := by decide +kernel
theorem dX4_turned_173 : decode cX4_turned 173 = .ok (.istore 5, 2) := by decide +kernel
theorem dX4_turned_175 : decode cX4_turned 175 = .ok (.goto 8, 3) := by decide +kernel
theorem dX4_turned_178 : decode cX4_turned 178 = .ok (.iload_n 2, 1) := by decide +kernel
theorem dX4_turned_179 : decode cX4_turned 179 = .ok (.iconst 1, 1) := by decide +kernel
theorem dX4_turned_180 : decode cX4_turned 180 = .ok (.ishr, 1) := by decide +kernel
theorem dX4_turned_181 : decode cX4_turned 181 = .ok (.istore 4, 2) := by decide +kernel
theorem dX4_turned_183 : decode cX4_turned 183 = .ok (.iload 4, 2) := by decide +kernel
theorem dX4_turned_185 : decode cX4_turned 185 = .ok (.sipush 255, 3) := by decide +kernel
theorem dX4_turned_188 : decode cX4_turned 188 = .ok (.iand, 1) := by decide +kernel
theorem dX4_turned_189 : decode cX4_turned 189 = .ok (.istore 4, 2) := by decide +kernel
theorem dX4_turned_191 : decode cX4_turned 191 = .ok (.aload_n 0, 1) := by decide +kernel
theorem dX4_turned_192 : decode cX4_turned 192 = .ok (.iload 4, 2) := by decide +kernel
theorem dX4_turned_194 : decode cX4_turned 194 = .ok (.ifCond .ne 7, 3) := by decide +kernel
theorem dX4_turned_197 : decode cX4_turned 197 = .ok (.iconst 1, 1) := by decide +kernel
theorem dX4_turned_198 : decode cX4_turned 198 = .ok (.goto 4, 3) := by decide +kernel
theorem dX4_turned_201 : decode cX4_turned 201 = .ok (.iconst 0, 1) := by decide +kernel
theorem dX4_turned_202 : decode cX4_turned 202 = .ok (.iconst 0, 1) := by decide +kernel
theorem dX4_turned_203 : decode cX4_turned 203 = .ok (.iconst 0, 1) := by decide +kernel
theorem dX4_turned_204 : decode cX4_turned 204 = .ok (.iload 5, 2) := by decide +kernel
theorem dX4_turned_206 : decode cX4_turned 206 = .ok (.invokevirtual 70, 3) := by decide +kernel
theorem dX4_turned_209 : decode cX4_turned 209 = .ok (.iload 4, 2) := by decide +kernel
theorem dX4_turned_211 : decode cX4_turned 211 = .ok (.ireturn, 1) := by decide +kernel
theorem dX4_adjusts_0 : decode cX4_adjusts 0 = .ok (.aload_n 0, 1) := by decide +kernel
theorem dX4_adjusts_1 : decode cX4_adjusts 1 = .ok (.getfield 14, 3) := by decide +kernel
theorem dX4_adjusts_4 : decode cX4_adjusts 4 = .ok (.bipush 7, 2) := by decide +kernel
theorem dX4_adjusts_6 : decode cX4_adjusts 6 = .ok (.iaload, 1) := by decide +kernel
theorem dX4_adjusts_7 : decode cX4_adjusts 7 = .ok (.istore_n 1, 1) := by decide +kernel
theorem dX4_adjusts_8 : decode cX4_adjusts 8 = .ok (.iconst 0, 1) := by decide +kernel
theorem dX4_adjusts_9 : decode cX4_adjusts 9 = .ok (.istore_n 2, 1) := by decide +kernel
theorem dX4_adjusts_10 : decode cX4_adjusts 10 = .ok (.aload_n 0, 1) := by decide +kernel
theorem dX4_adjusts_11 : decode cX4_adjusts 11 = .ok (.getfield 64, 3) := by decide +kernel
theorem dX4_adjusts_14 : decode cX4_adjusts 14 = .ok (.istore_n 3, 1) := by decide +kernel
theorem dX4_adjusts_15 : decode cX4_adjusts 15 = .ok (.aload_n 0, 1) := by decide +kernel
theorem dX4_adjusts_16 : decode cX4_adjusts 16 = .ok (.getfield 61, 3) := by decide +kernel
theorem dX4_adjusts_19 : decode cX4_adjusts 19 = .ok (.ifCond .ne 19, 3) := by decide +kernel
theorem dX4_adjusts_22 : decode cX4_adjusts 22 = .ok (.aload_n 0, 1) := by decide +kernel
theorem dX4_adjusts_23 : decode cX4_adjusts 23 = .ok (.getfield 58, 3) := by decide +kernel
theorem dX4_adjusts_26 : decode cX4_adjusts 26 = .ok (.ifCond .ne 15, 3) := by decide +kernel
theorem dX4_adjusts_29 : decode cX4_adjusts 29 = .ok (.iload_n 1, 1) := by decide +kernel
theorem dX4_adjusts_30 : decode cX4_adjusts 30 = .ok (.bipush 16, 2) := by decide +kernel
theorem dX4_adjusts_32 : decode cX4_adjusts 32 = .ok (.irem, 1) := by decide +kernel
theorem dX4_adjusts_33 : decode cX4_adjusts 33 = .ok (.bipush 9, 2) := by decide +kernel
theorem dX4_adjusts_35 : decode cX4_adjusts 35 = .ok (.if_icmp .le 6, 3) := by decide +kernel
theorem dX4_adjusts_38 : decode cX4_adjusts 38 = .ok (.iinc 2 6, 3) := by decide +kernel
theorem dX4_adjusts_41 : decode cX4_adjusts 41 = .ok (.aload_n 0, 1) := by decide +kernel
theorem dX4_adjusts_42 : decode cX4_adjusts 42 = .ok (.getfield 64, 3) := by decide +kernel
theorem dX4_adjusts_45 : decode cX4_adjusts 45 = .ok (.ifCond .ne 17, 3) := by decide +kernel
theorem dX4_adjusts_48 : decode cX4_adjusts 48 = .ok (.aload_n 0, 1) := by decide +kernel
theorem dX4_adjusts_49 : decode cX4_adjusts 49 = .ok (.getfield 58, 3) := by decide +kernel
theorem dX4_adjusts_52 : decode cX4_adjusts 52 = .ok (.ifCond .ne 15, 3) := by decide +kernel
theorem dX4_adjusts_55 : decode cX4_adjusts 55 = .ok (.iload_n 1, 1) := by decide +kernel
theorem dX4_adjusts_56 : decode cX4_adjusts 56 = .ok (.sipush 153, 3) := by decide +kernel
theorem dX4_adjusts_59 : decode cX4_adjusts 59 = .ok (.if_icmp .le 8, 3) := by decide +kernel
theorem dX4_adjusts_62 : decode cX4_adjusts 62 = .ok (.iinc 2 96, 3) := by decide +kernel
theorem dX4_adjusts_65 : decode cX4_adjusts 65 = .ok (.iconst 1, 1) := by decide +kernel
theorem dX4_adjusts_66 : decode cX4_adjusts 66 = .ok (.istore_n 3, 1) := by decide +kernel
theorem dX4_adjusts_67 : decode cX4_adjusts 67 = .ok (.aload_n 0, 1) := by decide +kernel
theorem dX4_adjusts_68 : decode cX4_adjusts 68 = .ok (.getfield 58, 3) := by decide +kernel
theorem dX4_adjusts_71 : decode cX4_adjusts 71 = .ok (.ifCond .eq 9, 3) := by decide +kernel
theorem dX4_adjusts_74 : decode cX4_adjusts 74 = .ok (.iload_n 1, 1) := by decide +kernel
theorem dX4_adjusts_75 : decode cX4_adjusts 75 = .ok (.iload_n 2, 1) := by decide +kernel
theorem dX4_adjusts_76 : decode cX4_adjusts 76 = .ok (.isub, 1) := by decide +kernel
theorem dX4_adjusts_77 : decode cX4_adjusts 77 = .ok (.goto 6, 3) := by decide +kernel
theorem dX4_adjusts_80 : decode cX4_adjusts 80 = .ok (.iload_n 1, 1) := by decide +kernel
theorem dX4_adjusts_81 : decode cX4_adjusts 81 = .ok (.iload_n 2, 1) := by decide +kernel
theorem dX4_adjusts_82 : decode cX4_adjusts 82 = .ok (.iadd, 1) := by decide +kernel
theorem dX4_adjusts_83 : decode cX4_adjusts 83 = .ok (.sipush 255, 3) := by decide +kernel
theorem dX4_adjusts_86 : decode cX4_adjusts 86 = .ok (.iand, 1) := by decide +kernel
theorem dX4_adjusts_87 : decode cX4_adjusts 87 = .ok (.istore_n 1, 1) := by decide +kernel
theorem dX4_adjusts_88 : decode cX4_adjusts 88 = .ok (.aload_n 0, 1) := by decide +kernel
theorem dX4_adjusts_89 : decode cX4_adjusts 89 = .ok (.getfield 14, 3) := by decide +kernel
theorem dX4_adjusts_92 : decode cX4_adjusts 92 = .ok (.bipush 7, 2) := by decide +kernel
theorem dX4_adjusts_94 : decode cX4_adjusts 94 = .ok (.iload_n 1, 1) := by decide +kernel
theorem dX4_adjusts_95 : decode cX4_adjusts 95 = .ok (.iastore, 1) := by decide +kernel
theorem dX4_adjusts_96 : decode cX4_adjusts 96 = .ok (.aload_n 0, 1) := by decide +kernel
theorem dX4_adjusts_97 : decode cX4_adjusts 97 = .ok (.iload_n 1, 1) := by decide +kernel
theorem dX4_adjusts_98 : decode cX4_adjusts 98 = .ok (.ifCond .ne 7, 3) := by decide +kernel
theorem dX4_adjusts_101 : decode cX4_adjusts 101 = .ok (.iconst 1, 1) := by decide +kernel
theorem dX4_adjusts_102 : decode cX4_adjusts 102 = .ok (.goto 4, 3) := by decide +kernel
theorem dX4_adjusts_105 : decode cX4_adjusts 105 = .ok (.iconst 0, 1) := by decide +kernel
theorem dX4_adjusts_106 : decode cX4_adjusts 106 = .ok (.aload_n 0, 1) := by decide +kernel
theorem dX4_adjusts_107 : decode cX4_adjusts 107 = .ok (.getfield 58, 3) := by decide +kernel
theorem dX4_adjusts_110 : decode cX4_adjusts 110 = .ok (.iconst 0, 1) := by decide +kernel
theorem dX4_adjusts_111 : decode cX4_adjusts 111 = .ok (.aload_n 0, 1) := by decide +kernel
theorem dX4_adjusts_112 : decode cX4_adjusts 112 = .ok (.getfield 58, 3) := by decide +kernel
theorem dX4_adjusts_115 : decode cX4_adjusts 115 = .ok (.ifCond .eq 10, 3) := by decide +kernel
theorem dX4_adjusts_118 : decode cX4_adjusts 118 = .ok (.aload_n 0, 1) := by decide +kernel
theorem dX4_adjusts_119 : decode cX4_adjusts 119 = .ok (.getfield 64, 3) := by decide +kernel
theorem dX4_adjusts_122 : decode cX4_adjusts 122 = .ok (.goto 4, 3) := by decide +kernel
theorem dX4_adjusts_125 : decode cX4_adjusts 125 = .ok (.iload_n 3, 1) := by decide +kernel
theorem dX4_adjusts_126 : decode cX4_adjusts 126 = .ok (.invokevirtual 70, 3) := by decide +kernel
theorem dX4_adjusts_129 : decode cX4_adjusts 129 = .ok (.return_, 1) := by decide +kernel
theorem dX4_moved_0 : decode cX4_moved 0 = .ok (.aload_n 0, 1) := by decide +kernel
theorem dX4_moved_1 : decode cX4_moved 1 = .ok (.getfield 48, 3) := by decide +kernel
theorem dX4_moved_4 : decode cX4_moved 4 = .ok (.sipush 255, 3) := by decide +kernel
theorem dX4_moved_7 : decode cX4_moved 7 = .ok (.iand, 1) := by decide +kernel
theorem dX4_moved_8 : decode cX4_moved 8 = .ok (.istore_n 2, 1) := by decide +kernel
theorem dX4_moved_9 : decode cX4_moved 9 = .ok (.aload_n 0, 1) := by decide +kernel
theorem dX4_moved_10 : decode cX4_moved 10 = .ok (.iconst 0, 1) := by decide +kernel
theorem dX4_moved_11 : decode cX4_moved 11 = .ok (.iconst 0, 1) := by decide +kernel
theorem dX4_moved_12 : decode cX4_moved 12 = .ok (.iload_n 2, 1) := by decide +kernel
theorem dX4_moved_13 : decode cX4_moved 13 = .ok (.bipush 15, 2) := by decide +kernel
theorem dX4_moved_15 : decode cX4_moved 15 = .ok (.iand, 1) := by decide +kernel
theorem dX4_moved_16 : decode cX4_moved 16 = .ok (.iload_n 1, 1) := by decide +kernel
theorem dX4_moved_17 : decode cX4_moved 17 = .ok (.bipush 15, 2) := by decide +kernel
theorem dX4_moved_19 : decode cX4_moved 19 = .ok (.iand, 1) := by decide +kernel
theorem dX4_moved_20 : decode cX4_moved 20 = .ok (.iadd, 1) := by decide +kernel
theorem dX4_moved_21 : decode cX4_moved 21 = .ok (.bipush 15, 2) := by decide +kernel
theorem dX4_moved_23 : decode cX4_moved 23 = .ok (.if_icmp .le 7, 3) := by decide +kernel
theorem dX4_moved_26 : decode cX4_moved 26 = .ok (.iconst 1, 1) := by decide +kernel
theorem dX4_moved_27 : decode cX4_moved 27 = .ok (.goto 4, 3) := by decide +kernel
theorem dX4_moved_30 : decode cX4_moved 30 = .ok (.iconst 0, 1) := by decide +kernel
theorem dX4_moved_31 : decode cX4_moved 31 = .ok (.iload_n 2, 1) := by decide +kernel
theorem dX4_moved_32 : decode cX4_moved 32 = .ok (.iload_n 1, 1) := by decide +kernel
theorem dX4_moved_33 : decode cX4_moved 33 = .ok (.iadd, 1) := by decide +kernel
theorem dX4_moved_34 : decode cX4_moved 34 = .ok (.sipush 255, 3) := by decide +kernel
theorem dX4_moved_37 : decode cX4_moved 37 = .ok (.if_icmp .le 7, 3) := by decide +kernel
theorem dX4_moved_40 : decode cX4_moved 40 = .ok (.iconst 1, 1) := by decide +kernel
theorem dX4_moved_41 : decode cX4_moved 41 = .ok (.goto 4, 3) := by decide +kernel
theorem dX4_moved_44 : decode cX4_moved 44 = .ok (.iconst 0, 1) := by decide +kernel
theorem dX4_moved_45 : decode cX4_moved 45 = .ok (.invokevirtual 70, 3) := by decide +kernel
theorem dX4_moved_48 : decode cX4_moved 48 = .ok (.aload_n 0, 1) := by decide +kernel
theorem dX4_moved_49 : decode cX4_moved 49 = .ok (.getfield 48, 3) := by decide +kernel
theorem dX4_moved_52 : decode cX4_moved 52 = .ok (.iload_n 1, 1) := by decide +kernel
theorem dX4_moved_53 : decode cX4_moved 53 = .ok (.i2b, 1) := by decide +kernel
theorem dX4_moved_54 : decode cX4_moved 54 = .ok (.iadd, 1) := by decide +kernel
theorem dX4_moved_55 : decode cX4_moved 55 = .ok (.ldc 22, 2) := by decide +kernel
theorem dX4_moved_57 : decode cX4_moved 57 = .ok (.iand, 1) := by decide +kernel
theorem dX4_moved_58 : decode cX4_moved 58 = .ok (.ireturn, 1) := by decide +kernel
theorem dX4_holds_0 : decode cX4_holds 0 = .ok (.iload_n 1, 1) := by decide +kernel
theorem dX4_holds_1 : decode cX4_holds 1 = .ok (.ifCond .ne 18, 3) := by decide +kernel
theorem dX4_holds_4 : decode cX4_holds 4 = .ok (.aload_n 0, 1) := by decide +kernel
theorem dX4_holds_5 : decode cX4_holds 5 = .ok (.getfield 54, 3) := by decide +kernel
theorem dX4_holds_8 : decode cX4_holds 8 = .ok (.ifCond .ne 7, 3) := by decide +kernel
theorem dX4_holds_11 : decode cX4_holds 11 = .ok (.iconst 1, 1) := by decide +kernel
theorem dX4_holds_12 : decode cX4_holds 12 = .ok (.goto 43, 3) := by decide +kernel
theorem dX4_holds_15 : decode cX4_holds 15 = .ok (.iconst 0, 1) := by decide +kernel
theorem dX4_holds_16 : decode cX4_holds 16 = .ok (.goto 39, 3) := by decide +kernel
theorem dX4_holds_19 : decode cX4_holds 19 = .ok (.iload_n 1, 1) := by decide +kernel
theorem dX4_holds_20 : decode cX4_holds 20 = .ok (.iconst 1, 1) := by decide +kernel
theorem dX4_holds_21 : decode cX4_holds 21 = .ok (.if_icmp .ne 10, 3) := by decide +kernel
theorem dX4_holds_24 : decode cX4_holds 24 = .ok (.aload_n 0, 1) := by decide +kernel
theorem dX4_holds_25 : decode cX4_holds 25 = .ok (.getfield 54, 3) := by decide +kernel
theorem dX4_holds_28 : decode cX4_holds 28 = .ok (.goto 27, 3) := by decide +kernel
theorem dX4_holds_31 : decode cX4_holds 31 = .ok (.iload_n 1, 1) := by decide +kernel
theorem dX4_holds_32 : decode cX4_holds 32 = .ok (.iconst 2, 1) := by decide +kernel
theorem dX4_holds_33 : decode cX4_holds 33 = .ok (.if_icmp .ne 18, 3) := by decide +kernel
theorem dX4_holds_36 : decode cX4_holds 36 = .ok (.aload_n 0, 1) := by decide +kernel
theorem dX4_holds_37 : decode cX4_holds 37 = .ok (.getfield 64, 3) := by decide +kernel
theorem dX4_holds_40 : decode cX4_holds 40 = .ok (.ifCond .ne 7, 3) := by decide +kernel
theorem dX4_holds_43 : decode cX4_holds 43 = .ok (.iconst 1, 1) := by decide +kernel
theorem dX4_holds_44 : decode cX4_holds 44 = .ok (.goto 11, 3) := by decide +kernel
theorem dX4_holds_47 : decode cX4_holds 47 = .ok (.iconst 0, 1) := by decide +kernel
theorem dX4_holds_48 : decode cX4_holds 48 = .ok (.goto 7, 3) := by decide +kernel
theorem dX4_holds_51 : decode cX4_holds 51 = .ok (.aload_n 0, 1) := by decide +kernel
theorem dX4_holds_52 : decode cX4_holds 52 = .ok (.getfield 64, 3) := by decide +kernel
theorem dX4_holds_55 : decode cX4_holds 55 = .ok (.ireturn, 1) := by decide +kernel
theorem dX4_isNone_0 : decode cX4_isNone 0 = .ok (.iload_n 0, 1) := by decide +kernel
theorem dX4_isNone_1 : decode cX4_isNone 1 = .ok (.sipush 211, 3) := by decide +kernel
theorem dX4_isNone_4 : decode cX4_isNone 4 = .ok (.if_icmp .eq 79, 3) := by decide +kernel
theorem dX4_isNone_7 : decode cX4_isNone 7 = .ok (.iload_n 0, 1) := by decide +kernel
theorem dX4_isNone_8 : decode cX4_isNone 8 = .ok (.sipush 219, 3) := by decide +kernel
theorem dX4_isNone_11 : decode cX4_isNone 11 = .ok (.if_icmp .eq 72, 3) := by decide +kernel
theorem dX4_isNone_14 : decode cX4_isNone 14 = .ok (.iload_n 0, 1) := by decide +kernel
theorem dX4_isNone_15 : decode cX4_isNone 15 = .ok (.sipush 221, 3) := by decide +kernel
theorem dX4_isNone_18 : decode cX4_isNone 18 = .ok (.if_icmp .eq 65, 3) := by decide +kernel
theorem dX4_isNone_21 : decode cX4_isNone 21 = .ok (.iload_n 0, 1) := by decide +kernel
theorem dX4_isNone_22 : decode cX4_isNone 22 = .ok (.sipush 227, 3) := by decide +kernel
theorem dX4_isNone_25 : decode cX4_isNone 25 = .ok (.if_icmp .eq 58, 3) := by decide +kernel
theorem dX4_isNone_28 : decode cX4_isNone 28 = .ok (.iload_n 0, 1) := by decide +kernel
theorem dX4_isNone_29 : decode cX4_isNone 29 = .ok (.sipush 228, 3) := by decide +kernel
theorem dX4_isNone_32 : decode cX4_isNone 32 = .ok (.if_icmp .eq 51, 3) := by decide +kernel
theorem dX4_isNone_35 : decode cX4_isNone 35 = .ok (.iload_n 0, 1) := by decide +kernel
theorem dX4_isNone_36 : decode cX4_isNone 36 = .ok (.sipush 235, 3) := by decide +kernel
theorem dX4_isNone_39 : decode cX4_isNone 39 = .ok (.if_icmp .eq 44, 3) := by decide +kernel
theorem dX4_isNone_42 : decode cX4_isNone 42 = .ok (.iload_n 0, 1) := by decide +kernel
theorem dX4_isNone_43 : decode cX4_isNone 43 = .ok (.sipush 236, 3) := by decide +kernel
theorem dX4_isNone_46 : decode cX4_isNone 46 = .ok (.if_icmp .eq 37, 3) := by decide +kernel
theorem dX4_isNone_49 : decode cX4_isNone 49 = .ok (.iload_n 0, 1) := by decide +kernel
theorem dX4_isNone_50 : decode cX4_isNone 50 = .ok (.sipush 237, 3) := by decide +kernel
theorem dX4_isNone_53 : decode cX4_isNone 53 = .ok (.if_icmp .eq 30, 3) := by decide +kernel
theorem dX4_isNone_56 : decode cX4_isNone 56 = .ok (.iload_n 0, 1) := by decide +kernel
theorem dX4_isNone_57 : decode cX4_isNone 57 = .ok (.sipush 244, 3) := by decide +kernel
theorem dX4_isNone_60 : decode cX4_isNone 60 = .ok (.if_icmp .eq 23, 3) := by decide +kernel
theorem dX4_isNone_63 : decode cX4_isNone 63 = .ok (.iload_n 0, 1) := by decide +kernel
theorem dX4_isNone_64 : decode cX4_isNone 64 = .ok (.sipush 252, 3) := by decide +kernel
theorem dX4_isNone_67 : decode cX4_isNone 67 = .ok (.if_icmp .eq 16, 3) := by decide +kernel
theorem dX4_isNone_70 : decode cX4_isNone 70 = .ok (.iload_n 0, 1) := by decide +kernel
theorem dX4_isNone_71 : decode cX4_isNone 71 = .ok (.sipush 253, 3) := by decide +kernel
theorem dX4_isNone_74 : decode cX4_isNone 74 = .ok (.if_icmp .eq 9, 3) := by decide +kernel
theorem dX4_isNone_77 : decode cX4_isNone 77 = .ok (.iload_n 0, 1) := by decide +kernel
theorem dX4_isNone_78 : decode cX4_isNone 78 = .ok (.bipush 16, 2) := by decide +kernel
theorem dX4_isNone_80 : decode cX4_isNone 80 = .ok (.if_icmp .ne 7, 3) := by decide +kernel
theorem dX4_isNone_83 : decode cX4_isNone 83 = .ok (.iconst 1, 1) := by decide +kernel
theorem dX4_isNone_84 : decode cX4_isNone 84 = .ok (.goto 4, 3) := by decide +kernel
theorem dX4_isNone_87 : decode cX4_isNone 87 = .ok (.iconst 0, 1) := by decide +kernel
theorem dX4_isNone_88 : decode cX4_isNone 88 = .ok (.ireturn, 1) := by decide +kernel
theorem dX4_instruction_0 : decode cX4_instruction 0 = .ok (.aload_n 0, 1) := by decide +kernel
theorem dX4_instruction_1 : decode cX4_instruction 1 = .ok (.getfield 38, 3) := by decide +kernel
theorem dX4_instruction_4 : decode cX4_instruction 4 = .ok (.istore_n 1, 1) := by decide +kernel
theorem dX4_instruction_5 : decode cX4_instruction 5 = .ok (.aload_n 0, 1) := by decide +kernel
theorem dX4_instruction_6 : decode cX4_instruction 6 = .ok (.aload_n 0, 1) := by decide +kernel
theorem dX4_instruction_7 : decode cX4_instruction 7 = .ok (.getfield 38, 3) := by decide +kernel
theorem dX4_instruction_10 : decode cX4_instruction 10 = .ok (.invokevirtual 41, 3) := by decide +kernel
theorem dX4_instruction_13 : decode cX4_instruction 13 = .ok (.istore_n 2, 1) := by decide +kernel
theorem dX4_instruction_14 : decode cX4_instruction 14 = .ok (.aload_n 0, 1) := by decide +kernel
theorem dX4_instruction_15 : decode cX4_instruction 15 = .ok (.getfield 81, 3) := by decide +kernel
theorem dX4_instruction_18 : decode cX4_instruction 18 = .ok (.ifCond .ne 16, 3) := by decide +kernel
theorem dX4_instruction_21 : decode cX4_instruction 21 = .ok (.aload_n 0, 1) := by decide +kernel
theorem dX4_instruction_22 : decode cX4_instruction 22 = .ok (.aload_n 0, 1) := by decide +kernel
theorem dX4_instruction_23 : decode cX4_instruction 23 = .ok (.getfield 38, 3) := by decide +kernel
theorem dX4_instruction_26 : decode cX4_instruction 26 = .ok (.iconst 1, 1) := by decide +kernel
theorem dX4_instruction_27 : decode cX4_instruction 27 = .ok (.iadd, 1) := by decide +kernel
theorem dX4_instruction_28 : decode cX4_instruction 28 = .ok (.ldc 22, 2) := by decide +kernel
theorem dX4_instruction_30 : decode cX4_instruction 30 = .ok (.iand, 1) := by decide +kernel
theorem dX4_instruction_31 : decode cX4_instruction 31 = .ok (.putfield 38, 3) := by decide +kernel
theorem dX4_instruction_34 : decode cX4_instruction 34 = .ok (.aload_n 0, 1) := by decide +kernel
theorem dX4_instruction_35 : decode cX4_instruction 35 = .ok (.iconst 0, 1) := by decide +kernel
theorem dX4_instruction_36 : decode cX4_instruction 36 = .ok (.putfield 81, 3) := by decide +kernel
theorem dX4_instruction_39 : decode cX4_instruction 39 = .ok (.iload_n 2, 1) := by decide +kernel
theorem dX4_instruction_40 : decode cX4_instruction 40 = .ok (.iconst 3, 1) := by decide +kernel
theorem dX4_instruction_41 : decode cX4_instruction 41 = .ok (.ishr, 1) := by decide +kernel
theorem dX4_instruction_42 : decode cX4_instruction 42 = .ok (.bipush 7, 2) := by decide +kernel
theorem dX4_instruction_44 : decode cX4_instruction 44 = .ok (.iand, 1) := by decide +kernel
theorem dX4_instruction_45 : decode cX4_instruction 45 = .ok (.istore_n 3, 1) := by decide +kernel
theorem dX4_instruction_46 : decode cX4_instruction 46 = .ok (.iload_n 2, 1) := by decide +kernel
theorem dX4_instruction_47 : decode cX4_instruction 47 = .ok (.bipush 7, 2) := by decide +kernel
theorem dX4_instruction_49 : decode cX4_instruction 49 = .ok (.iand, 1) := by decide +kernel
theorem dX4_instruction_50 : decode cX4_instruction 50 = .ok (.istore 4, 2) := by decide +kernel
theorem dX4_instruction_52 : decode cX4_instruction 52 = .ok (.iload_n 2, 1) := by decide +kernel
theorem dX4_instruction_53 : decode cX4_instruction 53 = .ok (.bipush 6, 2) := by decide +kernel
theorem dX4_instruction_55 : decode cX4_instruction 55 = .ok (.ishr, 1) := by decide +kernel
theorem dX4_instruction_56 : decode cX4_instruction 56 = .ok (.tableswitch 80 0 2 #[28, 38, 66], 28) := by decide +kernel
theorem dX4_instruction_84 : decode cX4_instruction 84 = .ok (.aload_n 0, 1) := by decide +kernel
theorem dX4_instruction_85 : decode cX4_instruction 85 = .ok (.iload_n 3, 1) := by decide +kernel
theorem dX4_instruction_86 : decode cX4_instruction 86 = .ok (.iload 4, 2) := by decide +kernel
theorem dX4_instruction_88 : decode cX4_instruction 88 = .ok (.invokevirtual 84, 3) := by decide +kernel
theorem dX4_instruction_91 : decode cX4_instruction 91 = .ok (.goto 52, 3) := by decide +kernel
theorem dX4_instruction_94 : decode cX4_instruction 94 = .ok (.iload_n 2, 1) := by decide +kernel
theorem dX4_instruction_95 : decode cX4_instruction 95 = .ok (.bipush 118, 2) := by decide +kernel
theorem dX4_instruction_97 : decode cX4_instruction 97 = .ok (.if_icmp .ne 11, 3) := by decide +kernel
theorem dX4_instruction_100 : decode cX4_instruction 100 = .ok (.aload_n 0, 1) := by decide +kernel
theorem dX4_instruction_101 : decode cX4_instruction 101 = .ok (.iload_n 1, 1) := by decide +kernel
theorem dX4_instruction_102 : decode cX4_instruction 102 = .ok (.invokevirtual 87, 3) := by decide +kernel
theorem dX4_instruction_105 : decode cX4_instruction 105 = .ok (.goto 38, 3) := by decide +kernel
theorem dX4_instruction_108 : decode cX4_instruction 108 = .ok (.aload_n 0, 1) := by decide +kernel
theorem dX4_instruction_109 : decode cX4_instruction 109 = .ok (.iload_n 3, 1) := by decide +kernel
theorem dX4_instruction_110 : decode cX4_instruction 110 = .ok (.aload_n 0, 1) := by decide +kernel
theorem dX4_instruction_111 : decode cX4_instruction 111 = .ok (.iload 4, 2) := by decide +kernel
theorem dX4_instruction_113 : decode cX4_instruction 113 = .ok (.invokevirtual 91, 3) := by decide +kernel
theorem dX4_instruction_116 : decode cX4_instruction 116 = .ok (.invokevirtual 94, 3) := by decide +kernel
theorem dX4_instruction_119 : decode cX4_instruction 119 = .ok (.goto 24, 3) := by decide +kernel
theorem dX4_instruction_122 : decode cX4_instruction 122 = .ok (.aload_n 0, 1) := by decide +kernel
theorem dX4_instruction_123 : decode cX4_instruction 123 = .ok (.iload_n 3, 1) := by decide +kernel
theorem dX4_instruction_124 : decode cX4_instruction 124 = .ok (.aload_n 0, 1) := by decide +kernel
theorem dX4_instruction_125 : decode cX4_instruction 125 = .ok (.iload 4, 2) := by decide +kernel
theorem dX4_instruction_127 : decode cX4_instruction 127 = .ok (.invokevirtual 91, 3) := by decide +kernel
theorem dX4_instruction_130 : decode cX4_instruction 130 = .ok (.invokevirtual 97, 3) := by decide +kernel
theorem dX4_instruction_133 : decode cX4_instruction 133 = .ok (.goto 10, 3) := by decide +kernel
theorem dX4_instruction_136 : decode cX4_instruction 136 = .ok (.aload_n 0, 1) := by decide +kernel
theorem dX4_instruction_137 : decode cX4_instruction 137 = .ok (.iload_n 3, 1) := by decide +kernel
theorem dX4_instruction_138 : decode cX4_instruction 138 = .ok (.iload 4, 2) := by decide +kernel
theorem dX4_instruction_140 : decode cX4_instruction 140 = .ok (.invokevirtual 100, 3) := by decide +kernel
theorem dX4_instruction_143 : decode cX4_instruction 143 = .ok (.return_, 1) := by decide +kernel
theorem dX4_halts_0 : decode cX4_halts 0 = .ok (.aload_n 0, 1) := by decide +kernel
theorem dX4_halts_1 : decode cX4_halts 1 = .ok (.ldc 22, 2) := by decide +kernel
theorem dX4_halts_3 : decode cX4_halts 3 = .ok (.invokevirtual 26, 3) := by decide +kernel
theorem dX4_halts_6 : decode cX4_halts 6 = .ok (.aload_n 0, 1) := by decide +kernel
theorem dX4_halts_7 : decode cX4_halts 7 = .ok (.ldc 103, 2) := by decide +kernel
theorem dX4_halts_9 : decode cX4_halts 9 = .ok (.invokevirtual 26, 3) := by decide +kernel
theorem dX4_halts_12 : decode cX4_halts 12 = .ok (.iand, 1) := by decide +kernel
theorem dX4_halts_13 : decode cX4_halts 13 = .ok (.bipush 31, 2) := by decide +kernel
theorem dX4_halts_15 : decode cX4_halts 15 = .ok (.iand, 1) := by decide +kernel
theorem dX4_halts_16 : decode cX4_halts 16 = .ok (.ifCond .eq 10, 3) := by decide +kernel
theorem dX4_halts_19 : decode cX4_halts 19 = .ok (.aload_n 0, 1) := by decide +kernel
theorem dX4_halts_20 : decode cX4_halts 20 = .ok (.getfield 104, 3) := by decide +kernel
theorem dX4_halts_23 : decode cX4_halts 23 = .ok (.ifCond .eq 11, 3) := by decide +kernel
theorem dX4_halts_26 : decode cX4_halts 26 = .ok (.aload_n 0, 1) := by decide +kernel
theorem dX4_halts_27 : decode cX4_halts 27 = .ok (.iconst 1, 1) := by decide +kernel
theorem dX4_halts_28 : decode cX4_halts 28 = .ok (.putfield 107, 3) := by decide +kernel
theorem dX4_halts_31 : decode cX4_halts 31 = .ok (.goto 23, 3) := by decide +kernel
theorem dX4_halts_34 : decode cX4_halts 34 = .ok (.aload_n 0, 1) := by decide +kernel
theorem dX4_halts_35 : decode cX4_halts 35 = .ok (.getfield 110, 3) := by decide +kernel
theorem dX4_halts_38 : decode cX4_halts 38 = .ok (.ifCond .eq 11, 3) := by decide +kernel
theorem dX4_halts_41 : decode cX4_halts 41 = .ok (.aload_n 0, 1) := by decide +kernel
theorem dX4_halts_42 : decode cX4_halts 42 = .ok (.iload_n 1, 1) := by decide +kernel
theorem dX4_halts_43 : decode cX4_halts 43 = .ok (.putfield 38, 3) := by decide +kernel
theorem dX4_halts_46 : decode cX4_halts 46 = .ok (.goto 8, 3) := by decide +kernel
theorem dX4_halts_49 : decode cX4_halts 49 = .ok (.aload_n 0, 1) := by decide +kernel
theorem dX4_halts_50 : decode cX4_halts 50 = .ok (.iconst 1, 1) := by decide +kernel
theorem dX4_halts_51 : decode cX4_halts 51 = .ok (.putfield 81, 3) := by decide +kernel
theorem dX4_halts_54 : decode cX4_halts 54 = .ok (.return_, 1) := by decide +kernel
theorem dX4_first_0 : decode cX4_first 0 = .ok (.iload_n 1, 1) := by decide +kernel
theorem dX4_first_1 : decode cX4_first 1 = .ok (.iconst 1, 1) := by decide +kernel
theorem dX4_first_2 : decode cX4_first 2 = .ok (.ishr, 1) := by decide +kernel
theorem dX4_first_3 : decode cX4_first 3 = .ok (.istore_n 3, 1) := by decide +kernel
theorem dX4_first_4 : decode cX4_first 4 = .ok (.iload_n 1, 1) := by decide +kernel
theorem dX4_first_5 : decode cX4_first 5 = .ok (.iconst 2, 1) := by decide +kernel
theorem dX4_first_6 : decode cX4_first 6 = .ok (.irem, 1) := by decide +kernel
theorem dX4_first_7 : decode cX4_first 7 = .ok (.iconst 1, 1) := by decide +kernel
theorem dX4_first_8 : decode cX4_first 8 = .ok (.if_icmp .ne 7, 3) := by decide +kernel
theorem dX4_first_11 : decode cX4_first 11 = .ok (.iconst 1, 1) := by decide +kernel
theorem dX4_first_12 : decode cX4_first 12 = .ok (.goto 4, 3) := by decide +kernel
theorem dX4_first_15 : decode cX4_first 15 = .ok (.iconst 0, 1) := by decide +kernel
theorem dX4_first_16 : decode cX4_first 16 = .ok (.istore 4, 2) := by decide +kernel
theorem dX4_first_18 : decode cX4_first 18 = .ok (.iload_n 2, 1) := by decide +kernel
theorem dX4_first_19 : decode cX4_first 19 = .ok (.tableswitch 167 0 6 #[41, 49, 74, 84, 121, 138, 155], 41) := by decide +kernel
theorem dX4_first_60 : decode cX4_first 60 = .ok (.aload_n 0, 1) := by decide +kernel
theorem dX4_first_61 : decode cX4_first 61 = .ok (.iload_n 1, 1) := by decide +kernel
theorem dX4_first_62 : decode cX4_first 62 = .ok (.invokevirtual 113, 3) := by decide +kernel
theorem dX4_first_65 : decode cX4_first 65 = .ok (.goto 126, 3) := by decide +kernel
theorem dX4_first_68 : decode cX4_first 68 = .ok (.iload 4, 2) := by decide +kernel
theorem dX4_first_70 : decode cX4_first 70 = .ok (.ifCond .eq 11, 3) := by decide +kernel
theorem dX4_first_73 : decode cX4_first 73 = .ok (.aload_n 0, 1) := by decide +kernel
theorem dX4_first_74 : decode cX4_first 74 = .ok (.iload_n 3, 1) := by decide +kernel
theorem dX4_first_75 : decode cX4_first 75 = .ok (.invokevirtual 116, 3) := by decide +kernel
theorem dX4_first_78 : decode cX4_first 78 = .ok (.goto 113, 3) := by decide +kernel
theorem dX4_first_81 : decode cX4_first 81 = .ok (.aload_n 0, 1) := by decide +kernel
theorem dX4_first_82 : decode cX4_first 82 = .ok (.iload_n 3, 1) := by decide +kernel
theorem dX4_first_83 : decode cX4_first 83 = .ok (.aload_n 0, 1) := by decide +kernel
theorem dX4_first_84 : decode cX4_first 84 = .ok (.invokevirtual 119, 3) := by decide +kernel
theorem dX4_first_87 : decode cX4_first 87 = .ok (.invokevirtual 122, 3) := by decide +kernel
theorem dX4_first_90 : decode cX4_first 90 = .ok (.goto 101, 3) := by decide +kernel
theorem dX4_first_93 : decode cX4_first 93 = .ok (.aload_n 0, 1) := by decide +kernel
theorem dX4_first_94 : decode cX4_first 94 = .ok (.iload_n 3, 1) := by decide +kernel
theorem dX4_first_95 : decode cX4_first 95 = .ok (.iload 4, 2) := by decide +kernel
theorem dX4_first_97 : decode cX4_first 97 = .ok (.invokevirtual 125, 3) := by decide +kernel
theorem dX4_first_100 : decode cX4_first 100 = .ok (.goto 91, 3) := by decide +kernel
theorem dX4_first_103 : decode cX4_first 103 = .ok (.aload_n 0, 1) := by decide +kernel
theorem dX4_first_104 : decode cX4_first 104 = .ok (.dup, 1) := by decide +kernel
theorem dX4_first_105 : decode cX4_first 105 = .ok (.getfield 23, 3) := by decide +kernel
theorem dX4_first_108 : decode cX4_first 108 = .ok (.iconst 1, 1) := by decide +kernel
theorem dX4_first_109 : decode cX4_first 109 = .ok (.iadd, 1) := by decide +kernel
theorem dX4_first_110 : decode cX4_first 110 = .ok (.putfield 23, 3) := by decide +kernel
theorem dX4_first_113 : decode cX4_first 113 = .ok (.aload_n 0, 1) := by decide +kernel
theorem dX4_first_114 : decode cX4_first 114 = .ok (.iload_n 3, 1) := by decide +kernel
theorem dX4_first_115 : decode cX4_first 115 = .ok (.aload_n 0, 1) := by decide +kernel
theorem dX4_first_116 : decode cX4_first 116 = .ok (.iload_n 3, 1) := by decide +kernel
theorem dX4_first_117 : decode cX4_first 117 = .ok (.invokevirtual 129, 3) := by decide +kernel
theorem dX4_first_120 : decode cX4_first 120 = .ok (.iload 4, 2) := by decide +kernel
theorem dX4_first_122 : decode cX4_first 122 = .ok (.ifCond .eq 7, 3) := by decide +kernel
theorem dX4_first_125 : decode cX4_first 125 = .ok (.iconst (-1), 1) := by decide +kernel
theorem dX4_first_126 : decode cX4_first 126 = .ok (.goto 4, 3) := by decide +kernel
theorem dX4_first_129 : decode cX4_first 129 = .ok (.iconst 1, 1) := by decide +kernel
theorem dX4_first_130 : decode cX4_first 130 = .ok (.iadd, 1) := by decide +kernel
theorem dX4_first_131 : decode cX4_first 131 = .ok (.ldc 22, 2) := by decide +kernel
theorem dX4_first_133 : decode cX4_first 133 = .ok (.iand, 1) := by decide +kernel
theorem dX4_first_134 : decode cX4_first 134 = .ok (.invokevirtual 122, 3) := by decide +kernel
theorem dX4_first_137 : decode cX4_first 137 = .ok (.goto 54, 3) := by decide +kernel
theorem dX4_first_140 : decode cX4_first 140 = .ok (.aload_n 0, 1) := by decide +kernel
theorem dX4_first_141 : decode cX4_first 141 = .ok (.iload_n 1, 1) := by decide +kernel
theorem dX4_first_142 : decode cX4_first 142 = .ok (.aload_n 0, 1) := by decide +kernel
theorem dX4_first_143 : decode cX4_first 143 = .ok (.aload_n 0, 1) := by decide +kernel
theorem dX4_first_144 : decode cX4_first 144 = .ok (.iload_n 1, 1) := by decide +kernel
theorem dX4_first_145 : decode cX4_first 145 = .ok (.invokevirtual 91, 3) := by decide +kernel
theorem dX4_first_148 : decode cX4_first 148 = .ok (.invokevirtual 132, 3) := by decide +kernel
theorem dX4_first_151 : decode cX4_first 151 = .ok (.invokevirtual 94, 3) := by decide +kernel
theorem dX4_first_154 : decode cX4_first 154 = .ok (.goto 37, 3) := by decide +kernel
theorem dX4_first_157 : decode cX4_first 157 = .ok (.aload_n 0, 1) := by decide +kernel
theorem dX4_first_158 : decode cX4_first 158 = .ok (.iload_n 1, 1) := by decide +kernel
theorem dX4_first_159 : decode cX4_first 159 = .ok (.aload_n 0, 1) := by decide +kernel
theorem dX4_first_160 : decode cX4_first 160 = .ok (.aload_n 0, 1) := by decide +kernel
theorem dX4_first_161 : decode cX4_first 161 = .ok (.iload_n 1, 1) := by decide +kernel
theorem dX4_first_162 : decode cX4_first 162 = .ok (.invokevirtual 91, 3) := by decide +kernel
theorem dX4_first_165 : decode cX4_first 165 = .ok (.invokevirtual 135, 3) := by decide +kernel
theorem dX4_first_168 : decode cX4_first 168 = .ok (.invokevirtual 94, 3) := by decide +kernel
theorem dX4_first_171 : decode cX4_first 171 = .ok (.goto 20, 3) := by decide +kernel
theorem dX4_first_174 : decode cX4_first 174 = .ok (.aload_n 0, 1) := by decide +kernel
theorem dX4_first_175 : decode cX4_first 175 = .ok (.iload_n 1, 1) := by decide +kernel
theorem dX4_first_176 : decode cX4_first 176 = .ok (.aload_n 0, 1) := by decide +kernel
theorem dX4_first_177 : decode cX4_first 177 = .ok (.invokevirtual 44, 3) := by decide +kernel
theorem dX4_first_180 : decode cX4_first 180 = .ok (.invokevirtual 94, 3) := by decide +kernel
theorem dX4_first_183 : decode cX4_first 183 = .ok (.goto 8, 3) := by decide +kernel
theorem dX4_first_186 : decode cX4_first 186 = .ok (.aload_n 0, 1) := by decide +kernel
theorem dX4_first_187 : decode cX4_first 187 = .ok (.iload_n 1, 1) := by decide +kernel
theorem dX4_first_188 : decode cX4_first 188 = .ok (.invokevirtual 138, 3) := by decide +kernel
theorem dX4_first_191 : decode cX4_first 191 = .ok (.return_, 1) := by decide +kernel
theorem dX4_wide_0 : decode cX4_wide 0 = .ok (.iload_n 1, 1) := by decide +kernel
theorem dX4_wide_1 : decode cX4_wide 1 = .ok (.iconst 3, 1) := by decide +kernel
theorem dX4_wide_2 : decode cX4_wide 2 = .ok (.if_icmp .ne 10, 3) := by decide +kernel
theorem dX4_wide_5 : decode cX4_wide 5 = .ok (.aload_n 0, 1) := by decide +kernel
theorem dX4_wide_6 : decode cX4_wide 6 = .ok (.getfield 48, 3) := by decide +kernel
theorem dX4_wide_9 : decode cX4_wide 9 = .ok (.goto 8, 3) := by decide +kernel
theorem dX4_wide_12 : decode cX4_wide 12 = .ok (.aload_n 0, 1) := by decide +kernel
theorem dX4_wide_13 : decode cX4_wide 13 = .ok (.iload_n 1, 1) := by decide +kernel
theorem dX4_wide_14 : decode cX4_wide 14 = .ok (.invokevirtual 141, 3) := by decide +kernel
theorem dX4_wide_17 : decode cX4_wide 17 = .ok (.ireturn, 1) := by decide +kernel
theorem dX4_setWide_0 : decode cX4_setWide 0 = .ok (.iload_n 1, 1) := by decide +kernel
theorem dX4_setWide_1 : decode cX4_setWide 1 = .ok (.iconst 3, 1) := by decide +kernel
theorem dX4_setWide_2 : decode cX4_setWide 2 = .ok (.if_icmp .ne 11, 3) := by decide +kernel
theorem dX4_setWide_5 : decode cX4_setWide 5 = .ok (.aload_n 0, 1) := by decide +kernel
theorem dX4_setWide_6 : decode cX4_setWide 6 = .ok (.iload_n 2, 1) := by decide +kernel
theorem dX4_setWide_7 : decode cX4_setWide 7 = .ok (.putfield 48, 3) := by decide +kernel
theorem dX4_setWide_10 : decode cX4_setWide 10 = .ok (.goto 9, 3) := by decide +kernel
theorem dX4_setWide_13 : decode cX4_setWide 13 = .ok (.aload_n 0, 1) := by decide +kernel
theorem dX4_setWide_14 : decode cX4_setWide 14 = .ok (.iload_n 1, 1) := by decide +kernel
theorem dX4_setWide_15 : decode cX4_setWide 15 = .ok (.iload_n 2, 1) := by decide +kernel
theorem dX4_setWide_16 : decode cX4_setWide 16 = .ok (.invokevirtual 144, 3) := by decide +kernel
theorem dX4_setWide_19 : decode cX4_setWide 19 = .ok (.return_, 1) := by decide +kernel
theorem dX4_jumpsNear_0 : decode cX4_jumpsNear 0 = .ok (.iload_n 1, 1) := by decide +kernel
theorem dX4_jumpsNear_1 : decode cX4_jumpsNear 1 = .ok (.ifCond .ne 4, 3) := by decide +kernel
theorem dX4_jumpsNear_4 : decode cX4_jumpsNear 4 = .ok (.return_, 1) := by decide +kernel
theorem dX4_jumpsNear_5 : decode cX4_jumpsNear 5 = .ok (.iload_n 1, 1) := by decide +kernel
theorem dX4_jumpsNear_6 : decode cX4_jumpsNear 6 = .ok (.iconst 1, 1) := by decide +kernel
theorem dX4_jumpsNear_7 : decode cX4_jumpsNear 7 = .ok (.if_icmp .ne 36, 3) := by decide +kernel
theorem dX4_jumpsNear_10 : decode cX4_jumpsNear 10 = .ok (.aload_n 0, 1) := by decide +kernel
theorem dX4_jumpsNear_11 : decode cX4_jumpsNear 11 = .ok (.invokevirtual 119, 3) := by decide +kernel
theorem dX4_jumpsNear_14 : decode cX4_jumpsNear 14 = .ok (.istore_n 2, 1) := by decide +kernel
theorem dX4_jumpsNear_15 : decode cX4_jumpsNear 15 = .ok (.aload_n 0, 1) := by decide +kernel
theorem dX4_jumpsNear_16 : decode cX4_jumpsNear 16 = .ok (.iload_n 2, 1) := by decide +kernel
theorem dX4_jumpsNear_17 : decode cX4_jumpsNear 17 = .ok (.aload_n 0, 1) := by decide +kernel
theorem dX4_jumpsNear_18 : decode cX4_jumpsNear 18 = .ok (.getfield 48, 3) := by decide +kernel
theorem dX4_jumpsNear_21 : decode cX4_jumpsNear 21 = .ok (.sipush 255, 3) := by decide +kernel
theorem dX4_jumpsNear_24 : decode cX4_jumpsNear 24 = .ok (.iand, 1) := by decide +kernel
theorem dX4_jumpsNear_25 : decode cX4_jumpsNear 25 = .ok (.invokevirtual 51, 3) := by decide +kernel
theorem dX4_jumpsNear_28 : decode cX4_jumpsNear 28 = .ok (.aload_n 0, 1) := by decide +kernel
theorem dX4_jumpsNear_29 : decode cX4_jumpsNear 29 = .ok (.iload_n 2, 1) := by decide +kernel
theorem dX4_jumpsNear_30 : decode cX4_jumpsNear 30 = .ok (.iconst 1, 1) := by decide +kernel
theorem dX4_jumpsNear_31 : decode cX4_jumpsNear 31 = .ok (.iadd, 1) := by decide +kernel
theorem dX4_jumpsNear_32 : decode cX4_jumpsNear 32 = .ok (.aload_n 0, 1) := by decide +kernel
theorem dX4_jumpsNear_33 : decode cX4_jumpsNear 33 = .ok (.getfield 48, 3) := by decide +kernel
theorem dX4_jumpsNear_36 : decode cX4_jumpsNear 36 = .ok (.bipush 8, 2) := by decide +kernel
theorem dX4_jumpsNear_38 : decode cX4_jumpsNear 38 = .ok (.ishr, 1) := by decide +kernel
theorem dX4_jumpsNear_39 : decode cX4_jumpsNear 39 = .ok (.invokevirtual 51, 3) := by decide +kernel
theorem dX4_jumpsNear_42 : decode cX4_jumpsNear 42 = .ok (.return_, 1) := by decide +kernel
theorem dX4_jumpsNear_43 : decode cX4_jumpsNear 43 = .ok (.aload_n 0, 1) := by decide +kernel
theorem dX4_jumpsNear_44 : decode cX4_jumpsNear 44 = .ok (.invokevirtual 44, 3) := by decide +kernel
theorem dX4_jumpsNear_47 : decode cX4_jumpsNear 47 = .ok (.istore_n 2, 1) := by decide +kernel
theorem dX4_jumpsNear_48 : decode cX4_jumpsNear 48 = .ok (.iload_n 1, 1) := by decide +kernel
theorem dX4_jumpsNear_49 : decode cX4_jumpsNear 49 = .ok (.iconst 3, 1) := by decide +kernel
theorem dX4_jumpsNear_50 : decode cX4_jumpsNear 50 = .ok (.if_icmp .eq 13, 3) := by decide +kernel
theorem dX4_jumpsNear_53 : decode cX4_jumpsNear 53 = .ok (.aload_n 0, 1) := by decide +kernel
theorem dX4_jumpsNear_54 : decode cX4_jumpsNear 54 = .ok (.iload_n 1, 1) := by decide +kernel
theorem dX4_jumpsNear_55 : decode cX4_jumpsNear 55 = .ok (.iconst 4, 1) := by decide +kernel
theorem dX4_jumpsNear_56 : decode cX4_jumpsNear 56 = .ok (.isub, 1) := by decide +kernel
theorem dX4_jumpsNear_57 : decode cX4_jumpsNear 57 = .ok (.invokevirtual 147, 3) := by decide +kernel
theorem dX4_jumpsNear_60 : decode cX4_jumpsNear 60 = .ok (.ifCond .eq 27, 3) := by decide +kernel
theorem dX4_jumpsNear_63 : decode cX4_jumpsNear 63 = .ok (.aload_n 0, 1) := by decide +kernel
theorem dX4_jumpsNear_64 : decode cX4_jumpsNear 64 = .ok (.dup, 1) := by decide +kernel
theorem dX4_jumpsNear_65 : decode cX4_jumpsNear 65 = .ok (.getfield 23, 3) := by decide +kernel
theorem dX4_jumpsNear_68 : decode cX4_jumpsNear 68 = .ok (.iconst 1, 1) := by decide +kernel
theorem dX4_jumpsNear_69 : decode cX4_jumpsNear 69 = .ok (.iadd, 1) := by decide +kernel
theorem dX4_jumpsNear_70 : decode cX4_jumpsNear 70 = .ok (.putfield 23, 3) := by decide +kernel
theorem dX4_jumpsNear_73 : decode cX4_jumpsNear 73 = .ok (.aload_n 0, 1) := by decide +kernel
theorem dX4_jumpsNear_74 : decode cX4_jumpsNear 74 = .ok (.aload_n 0, 1) := by decide +kernel
theorem dX4_jumpsNear_75 : decode cX4_jumpsNear 75 = .ok (.getfield 38, 3) := by decide +kernel
theorem dX4_jumpsNear_78 : decode cX4_jumpsNear 78 = .ok (.iload_n 2, 1) := by decide +kernel
theorem dX4_jumpsNear_79 : decode cX4_jumpsNear 79 = .ok (.i2b, 1) := by decide +kernel
theorem dX4_jumpsNear_80 : decode cX4_jumpsNear 80 = .ok (.iadd, 1) := by decide +kernel
theorem dX4_jumpsNear_81 : decode cX4_jumpsNear 81 = .ok (.ldc 22, 2) := by decide +kernel
theorem dX4_jumpsNear_83 : decode cX4_jumpsNear 83 = .ok (.iand, 1) := by decide +kernel
theorem dX4_jumpsNear_84 : decode cX4_jumpsNear 84 = .ok (.putfield 38, 3) := by decide +kernel
theorem dX4_jumpsNear_87 : decode cX4_jumpsNear 87 = .ok (.return_, 1) := by decide +kernel
theorem dX4_addsPair_0 : decode cX4_addsPair 0 = .ok (.aload_n 0, 1) := by decide +kernel
theorem dX4_addsPair_1 : decode cX4_addsPair 1 = .ok (.dup, 1) := by decide +kernel
theorem dX4_addsPair_2 : decode cX4_addsPair 2 = .ok (.getfield 23, 3) := by decide +kernel
theorem dX4_addsPair_5 : decode cX4_addsPair 5 = .ok (.iconst 1, 1) := by decide +kernel
theorem dX4_addsPair_6 : decode cX4_addsPair 6 = .ok (.iadd, 1) := by decide +kernel
theorem dX4_addsPair_7 : decode cX4_addsPair 7 = .ok (.putfield 23, 3) := by decide +kernel
theorem dX4_addsPair_10 : decode cX4_addsPair 10 = .ok (.aload_n 0, 1) := by decide +kernel
theorem dX4_addsPair_11 : decode cX4_addsPair 11 = .ok (.invokevirtual 67, 3) := by decide +kernel
theorem dX4_addsPair_14 : decode cX4_addsPair 14 = .ok (.istore_n 2, 1) := by decide +kernel
theorem dX4_addsPair_15 : decode cX4_addsPair 15 = .ok (.aload_n 0, 1) := by decide +kernel
theorem dX4_addsPair_16 : decode cX4_addsPair 16 = .ok (.iload_n 1, 1) := by decide +kernel
theorem dX4_addsPair_17 : decode cX4_addsPair 17 = .ok (.invokevirtual 129, 3) := by decide +kernel
theorem dX4_addsPair_20 : decode cX4_addsPair 20 = .ok (.istore_n 3, 1) := by decide +kernel
theorem dX4_addsPair_21 : decode cX4_addsPair 21 = .ok (.aload_n 0, 1) := by decide +kernel
theorem dX4_addsPair_22 : decode cX4_addsPair 22 = .ok (.aload_n 0, 1) := by decide +kernel
theorem dX4_addsPair_23 : decode cX4_addsPair 23 = .ok (.getfield 54, 3) := by decide +kernel
theorem dX4_addsPair_26 : decode cX4_addsPair 26 = .ok (.iconst 0, 1) := by decide +kernel
theorem dX4_addsPair_27 : decode cX4_addsPair 27 = .ok (.iload_n 2, 1) := by decide +kernel
theorem dX4_addsPair_28 : decode cX4_addsPair 28 = .ok (.sipush 4095, 3) := by decide +kernel
theorem dX4_addsPair_31 : decode cX4_addsPair 31 = .ok (.iand, 1) := by decide +kernel
theorem dX4_addsPair_32 : decode cX4_addsPair 32 = .ok (.iload_n 3, 1) := by decide +kernel
theorem dX4_addsPair_33 : decode cX4_addsPair 33 = .ok (.sipush 4095, 3) := by decide +kernel
theorem dX4_addsPair_36 : decode cX4_addsPair 36 = .ok (.iand, 1) := by decide +kernel
theorem dX4_addsPair_37 : decode cX4_addsPair 37 = .ok (.iadd, 1) := by decide +kernel
theorem dX4_addsPair_38 : decode cX4_addsPair 38 = .ok (.sipush 4095, 3) := by decide +kernel
theorem dX4_addsPair_41 : decode cX4_addsPair 41 = .ok (.if_icmp .le 7, 3) := by decide +kernel
theorem dX4_addsPair_44 : decode cX4_addsPair 44 = .ok (.iconst 1, 1) := by decide +kernel
theorem dX4_addsPair_45 : decode cX4_addsPair 45 = .ok (.goto 4, 3) := by decide +kernel
theorem dX4_addsPair_48 : decode cX4_addsPair 48 = .ok (.iconst 0, 1) := by decide +kernel
theorem dX4_addsPair_49 : decode cX4_addsPair 49 = .ok (.iload_n 2, 1) := by decide +kernel
theorem dX4_addsPair_50 : decode cX4_addsPair 50 = .ok (.iload_n 3, 1) := by decide +kernel
theorem dX4_addsPair_51 : decode cX4_addsPair 51 = .ok (.iadd, 1) := by decide +kernel
theorem dX4_addsPair_52 : decode cX4_addsPair 52 = .ok (.ldc 22, 2) := by decide +kernel
theorem dX4_addsPair_54 : decode cX4_addsPair 54 = .ok (.if_icmp .le 7, 3) := by decide +kernel
theorem dX4_addsPair_57 : decode cX4_addsPair 57 = .ok (.iconst 1, 1) := by decide +kernel
theorem dX4_addsPair_58 : decode cX4_addsPair 58 = .ok (.goto 4, 3) := by decide +kernel
theorem dX4_addsPair_61 : decode cX4_addsPair 61 = .ok (.iconst 0, 1) := by decide +kernel
theorem dX4_addsPair_62 : decode cX4_addsPair 62 = .ok (.invokevirtual 70, 3) := by decide +kernel
theorem dX4_addsPair_65 : decode cX4_addsPair 65 = .ok (.aload_n 0, 1) := by decide +kernel
theorem dX4_addsPair_66 : decode cX4_addsPair 66 = .ok (.iconst 2, 1) := by decide +kernel
theorem dX4_addsPair_67 : decode cX4_addsPair 67 = .ok (.iload_n 2, 1) := by decide +kernel
theorem dX4_addsPair_68 : decode cX4_addsPair 68 = .ok (.iload_n 3, 1) := by decide +kernel
theorem dX4_addsPair_69 : decode cX4_addsPair 69 = .ok (.iadd, 1) := by decide +kernel
theorem dX4_addsPair_70 : decode cX4_addsPair 70 = .ok (.ldc 22, 2) := by decide +kernel
theorem dX4_addsPair_72 : decode cX4_addsPair 72 = .ok (.iand, 1) := by decide +kernel
theorem dX4_addsPair_73 : decode cX4_addsPair 73 = .ok (.invokevirtual 144, 3) := by decide +kernel
theorem dX4_addsPair_76 : decode cX4_addsPair 76 = .ok (.return_, 1) := by decide +kernel
theorem dX4_byPair_0 : decode cX4_byPair 0 = .ok (.iload_n 1, 1) := by decide +kernel
theorem dX4_byPair_1 : decode cX4_byPair 1 = .ok (.iconst 2, 1) := by decide +kernel
theorem dX4_byPair_2 : decode cX4_byPair 2 = .ok (.if_icmp .ge 11, 3) := by decide +kernel
theorem dX4_byPair_5 : decode cX4_byPair 5 = .ok (.aload_n 0, 1) := by decide +kernel
theorem dX4_byPair_6 : decode cX4_byPair 6 = .ok (.iload_n 1, 1) := by decide +kernel
theorem dX4_byPair_7 : decode cX4_byPair 7 = .ok (.invokevirtual 141, 3) := by decide +kernel
theorem dX4_byPair_10 : decode cX4_byPair 10 = .ok (.goto 7, 3) := by decide +kernel
theorem dX4_byPair_13 : decode cX4_byPair 13 = .ok (.aload_n 0, 1) := by decide +kernel
theorem dX4_byPair_14 : decode cX4_byPair 14 = .ok (.invokevirtual 67, 3) := by decide +kernel
theorem dX4_byPair_17 : decode cX4_byPair 17 = .ok (.istore_n 3, 1) := by decide +kernel
theorem dX4_byPair_18 : decode cX4_byPair 18 = .ok (.iload_n 2, 1) := by decide +kernel
theorem dX4_byPair_19 : decode cX4_byPair 19 = .ok (.ifCond .eq 18, 3) := by decide +kernel
theorem dX4_byPair_22 : decode cX4_byPair 22 = .ok (.aload_n 0, 1) := by decide +kernel
theorem dX4_byPair_23 : decode cX4_byPair 23 = .ok (.getfield 14, 3) := by decide +kernel
theorem dX4_byPair_26 : decode cX4_byPair 26 = .ok (.bipush 7, 2) := by decide +kernel
theorem dX4_byPair_28 : decode cX4_byPair 28 = .ok (.aload_n 0, 1) := by decide +kernel
theorem dX4_byPair_29 : decode cX4_byPair 29 = .ok (.iload_n 3, 1) := by decide +kernel
theorem dX4_byPair_30 : decode cX4_byPair 30 = .ok (.invokevirtual 41, 3) := by decide +kernel
theorem dX4_byPair_33 : decode cX4_byPair 33 = .ok (.iastore, 1) := by decide +kernel
theorem dX4_byPair_34 : decode cX4_byPair 34 = .ok (.goto 15, 3) := by decide +kernel
theorem dX4_byPair_37 : decode cX4_byPair 37 = .ok (.aload_n 0, 1) := by decide +kernel
theorem dX4_byPair_38 : decode cX4_byPair 38 = .ok (.iload_n 3, 1) := by decide +kernel
theorem dX4_byPair_39 : decode cX4_byPair 39 = .ok (.aload_n 0, 1) := by decide +kernel
theorem dX4_byPair_40 : decode cX4_byPair 40 = .ok (.getfield 14, 3) := by decide +kernel
theorem dX4_byPair_43 : decode cX4_byPair 43 = .ok (.bipush 7, 2) := by decide +kernel
theorem dX4_byPair_45 : decode cX4_byPair 45 = .ok (.iaload, 1) := by decide +kernel
theorem dX4_byPair_46 : decode cX4_byPair 46 = .ok (.invokevirtual 51, 3) := by decide +kernel
theorem dX4_byPair_49 : decode cX4_byPair 49 = .ok (.iload_n 1, 1) := by decide +kernel
theorem dX4_byPair_50 : decode cX4_byPair 50 = .ok (.iconst 2, 1) := by decide +kernel
theorem dX4_byPair_51 : decode cX4_byPair 51 = .ok (.if_icmp .ne 14, 3) := by decide +kernel
theorem dX4_byPair_54 : decode cX4_byPair 54 = .ok (.aload_n 0, 1) := by decide +kernel
theorem dX4_byPair_55 : decode cX4_byPair 55 = .ok (.iconst 2, 1) := by decide +kernel
theorem dX4_byPair_56 : decode cX4_byPair 56 = .ok (.iload_n 3, 1) := by decide +kernel
theorem dX4_byPair_57 : decode cX4_byPair 57 = .ok (.iconst 1, 1) := by decide +kernel
theorem dX4_byPair_58 : decode cX4_byPair 58 = .ok (.iadd, 1) := by decide +kernel
theorem dX4_byPair_59 : decode cX4_byPair 59 = .ok (.ldc 22, 2) := by decide +kernel
theorem dX4_byPair_61 : decode cX4_byPair 61 = .ok (.iand, 1) := by decide +kernel
theorem dX4_byPair_62 : decode cX4_byPair 62 = .ok (.invokevirtual 144, 3) := by decide +kernel
theorem dX4_byPair_65 : decode cX4_byPair 65 = .ok (.iload_n 1, 1) := by decide +kernel
theorem dX4_byPair_66 : decode cX4_byPair 66 = .ok (.iconst 3, 1) := by decide +kernel
theorem dX4_byPair_67 : decode cX4_byPair 67 = .ok (.if_icmp .ne 14, 3) := by decide +kernel
theorem dX4_byPair_70 : decode cX4_byPair 70 = .ok (.aload_n 0, 1) := by decide +kernel
theorem dX4_byPair_71 : decode cX4_byPair 71 = .ok (.iconst 2, 1) := by decide +kernel
theorem dX4_byPair_72 : decode cX4_byPair 72 = .ok (.iload_n 3, 1) := by decide +kernel
theorem dX4_byPair_73 : decode cX4_byPair 73 = .ok (.iconst 1, 1) := by decide +kernel
theorem dX4_byPair_74 : decode cX4_byPair 74 = .ok (.isub, 1) := by decide +kernel
theorem dX4_byPair_75 : decode cX4_byPair 75 = .ok (.ldc 22, 2) := by decide +kernel
theorem dX4_byPair_77 : decode cX4_byPair 77 = .ok (.iand, 1) := by decide +kernel
theorem dX4_byPair_78 : decode cX4_byPair 78 = .ok (.invokevirtual 144, 3) := by decide +kernel
theorem dX4_byPair_81 : decode cX4_byPair 81 = .ok (.return_, 1) := by decide +kernel
theorem dX4_onA_0 : decode cX4_onA 0 = .ok (.iload_n 1, 1) := by decide +kernel
theorem dX4_onA_1 : decode cX4_onA 1 = .ok (.iconst 4, 1) := by decide +kernel
theorem dX4_onA_2 : decode cX4_onA 2 = .ok (.if_icmp .ge 30, 3) := by decide +kernel
theorem dX4_onA_5 : decode cX4_onA 5 = .ok (.aload_n 0, 1) := by decide +kernel
theorem dX4_onA_6 : decode cX4_onA 6 = .ok (.getfield 14, 3) := by decide +kernel
theorem dX4_onA_9 : decode cX4_onA 9 = .ok (.bipush 7, 2) := by decide +kernel
theorem dX4_onA_11 : decode cX4_onA 11 = .ok (.aload_n 0, 1) := by decide +kernel
theorem dX4_onA_12 : decode cX4_onA 12 = .ok (.iload_n 1, 1) := by decide +kernel
theorem dX4_onA_13 : decode cX4_onA 13 = .ok (.aload_n 0, 1) := by decide +kernel
theorem dX4_onA_14 : decode cX4_onA 14 = .ok (.getfield 14, 3) := by decide +kernel
theorem dX4_onA_17 : decode cX4_onA 17 = .ok (.bipush 7, 2) := by decide +kernel
theorem dX4_onA_19 : decode cX4_onA 19 = .ok (.iaload, 1) := by decide +kernel
theorem dX4_onA_20 : decode cX4_onA 20 = .ok (.invokevirtual 151, 3) := by decide +kernel
theorem dX4_onA_23 : decode cX4_onA 23 = .ok (.iastore, 1) := by decide +kernel
theorem dX4_onA_24 : decode cX4_onA 24 = .ok (.aload_n 0, 1) := by decide +kernel
theorem dX4_onA_25 : decode cX4_onA 25 = .ok (.iconst 0, 1) := by decide +kernel
theorem dX4_onA_26 : decode cX4_onA 26 = .ok (.putfield 54, 3) := by decide +kernel
theorem dX4_onA_29 : decode cX4_onA 29 = .ok (.goto 74, 3) := by decide +kernel
theorem dX4_onA_32 : decode cX4_onA 32 = .ok (.iload_n 1, 1) := by decide +kernel
theorem dX4_onA_33 : decode cX4_onA 33 = .ok (.iconst 4, 1) := by decide +kernel
theorem dX4_onA_34 : decode cX4_onA 34 = .ok (.if_icmp .ne 10, 3) := by decide +kernel
theorem dX4_onA_37 : decode cX4_onA 37 = .ok (.aload_n 0, 1) := by decide +kernel
theorem dX4_onA_38 : decode cX4_onA 38 = .ok (.invokevirtual 154, 3) := by decide +kernel
theorem dX4_onA_41 : decode cX4_onA 41 = .ok (.goto 62, 3) := by decide +kernel
theorem dX4_onA_44 : decode cX4_onA 44 = .ok (.iload_n 1, 1) := by decide +kernel
theorem dX4_onA_45 : decode cX4_onA 45 = .ok (.iconst 5, 1) := by decide +kernel
theorem dX4_onA_46 : decode cX4_onA 46 = .ok (.if_icmp .ne 29, 3) := by decide +kernel
theorem dX4_onA_49 : decode cX4_onA 49 = .ok (.aload_n 0, 1) := by decide +kernel
theorem dX4_onA_50 : decode cX4_onA 50 = .ok (.getfield 14, 3) := by decide +kernel
theorem dX4_onA_53 : decode cX4_onA 53 = .ok (.bipush 7, 2) := by decide +kernel
theorem dX4_onA_55 : decode cX4_onA 55 = .ok (.dup2, 1) := by decide +kernel
theorem dX4_onA_56 : decode cX4_onA 56 = .ok (.iaload, 1) := by decide +kernel
theorem dX4_onA_57 : decode cX4_onA 57 = .ok (.sipush 255, 3) := by decide +kernel
theorem dX4_onA_60 : decode cX4_onA 60 = .ok (.ixor, 1) := by decide +kernel
theorem dX4_onA_61 : decode cX4_onA 61 = .ok (.iastore, 1) := by decide +kernel
theorem dX4_onA_62 : decode cX4_onA 62 = .ok (.aload_n 0, 1) := by decide +kernel
theorem dX4_onA_63 : decode cX4_onA 63 = .ok (.iconst 1, 1) := by decide +kernel
theorem dX4_onA_64 : decode cX4_onA 64 = .ok (.putfield 58, 3) := by decide +kernel
theorem dX4_onA_67 : decode cX4_onA 67 = .ok (.aload_n 0, 1) := by decide +kernel
theorem dX4_onA_68 : decode cX4_onA 68 = .ok (.iconst 1, 1) := by decide +kernel
theorem dX4_onA_69 : decode cX4_onA 69 = .ok (.putfield 61, 3) := by decide +kernel
theorem dX4_onA_72 : decode cX4_onA 72 = .ok (.goto 31, 3) := by decide +kernel
theorem dX4_onA_75 : decode cX4_onA 75 = .ok (.aload_n 0, 1) := by decide +kernel
theorem dX4_onA_76 : decode cX4_onA 76 = .ok (.aload_n 0, 1) := by decide +kernel
theorem dX4_onA_77 : decode cX4_onA 77 = .ok (.getfield 54, 3) := by decide +kernel
theorem dX4_onA_80 : decode cX4_onA 80 = .ok (.iconst 0, 1) := by decide +kernel
theorem dX4_onA_81 : decode cX4_onA 81 = .ok (.iconst 0, 1) := by decide +kernel
theorem dX4_onA_82 : decode cX4_onA 82 = .ok (.iload_n 1, 1) := by decide +kernel
theorem dX4_onA_83 : decode cX4_onA 83 = .ok (.bipush 6, 2) := by decide +kernel
theorem dX4_onA_85 : decode cX4_onA 85 = .ok (.if_icmp .eq 10, 3) := by decide +kernel
theorem dX4_onA_88 : decode cX4_onA 88 = .ok (.aload_n 0, 1) := by decide +kernel
theorem dX4_onA_89 : decode cX4_onA 89 = .ok (.getfield 64, 3) := by decide +kernel
theorem dX4_onA_92 : decode cX4_onA 92 = .ok (.ifCond .ne 7, 3) := by decide +kernel
theorem dX4_onA_95 : decode cX4_onA 95 = .ok (.iconst 1, 1) := by decide +kernel
theorem dX4_onA_96 : decode cX4_onA 96 = .ok (.goto 4, 3) := by decide +kernel
theorem dX4_onA_99 : decode cX4_onA 99 = .ok (.iconst 0, 1) := by decide +kernel
theorem dX4_onA_100 : decode cX4_onA 100 = .ok (.invokevirtual 70, 3) := by decide +kernel
theorem dX4_onA_103 : decode cX4_onA 103 = .ok (.return_, 1) := by decide +kernel
theorem dX4_last_0 : decode cX4_last 0 = .ok (.iload_n 2, 1) := by decide +kernel
theorem dX4_last_1 : decode cX4_last 1 = .ok (.tableswitch 186 0 6 #[43, 64, 72, 93, 101, 109, 174], 43) := by decide +kernel
theorem dX4_last_44 : decode cX4_last 44 = .ok (.iload_n 1, 1) := by decide +kernel
theorem dX4_last_45 : decode cX4_last 45 = .ok (.iconst 4, 1) := by decide +kernel
theorem dX4_last_46 : decode cX4_last 46 = .ok (.if_icmp .ge 11, 3) := by decide +kernel
theorem dX4_last_49 : decode cX4_last 49 = .ok (.aload_n 0, 1) := by decide +kernel
theorem dX4_last_50 : decode cX4_last 50 = .ok (.iload_n 1, 1) := by decide +kernel
theorem dX4_last_51 : decode cX4_last 51 = .ok (.invokevirtual 157, 3) := by decide +kernel
theorem dX4_last_54 : decode cX4_last 54 = .ok (.goto 141, 3) := by decide +kernel
theorem dX4_last_57 : decode cX4_last 57 = .ok (.aload_n 0, 1) := by decide +kernel
theorem dX4_last_58 : decode cX4_last 58 = .ok (.iload_n 1, 1) := by decide +kernel
theorem dX4_last_59 : decode cX4_last 59 = .ok (.invokevirtual 160, 3) := by decide +kernel
theorem dX4_last_62 : decode cX4_last 62 = .ok (.goto 133, 3) := by decide +kernel
theorem dX4_last_65 : decode cX4_last 65 = .ok (.aload_n 0, 1) := by decide +kernel
theorem dX4_last_66 : decode cX4_last 66 = .ok (.iload_n 1, 1) := by decide +kernel
theorem dX4_last_67 : decode cX4_last 67 = .ok (.invokevirtual 163, 3) := by decide +kernel
theorem dX4_last_70 : decode cX4_last 70 = .ok (.goto 125, 3) := by decide +kernel
theorem dX4_last_73 : decode cX4_last 73 = .ok (.iload_n 1, 1) := by decide +kernel
theorem dX4_last_74 : decode cX4_last 74 = .ok (.iconst 4, 1) := by decide +kernel
theorem dX4_last_75 : decode cX4_last 75 = .ok (.if_icmp .ge 11, 3) := by decide +kernel
theorem dX4_last_78 : decode cX4_last 78 = .ok (.aload_n 0, 1) := by decide +kernel
theorem dX4_last_79 : decode cX4_last 79 = .ok (.iload_n 1, 1) := by decide +kernel
theorem dX4_last_80 : decode cX4_last 80 = .ok (.invokevirtual 166, 3) := by decide +kernel
theorem dX4_last_83 : decode cX4_last 83 = .ok (.goto 112, 3) := by decide +kernel
theorem dX4_last_86 : decode cX4_last 86 = .ok (.aload_n 0, 1) := by decide +kernel
theorem dX4_last_87 : decode cX4_last 87 = .ok (.iload_n 1, 1) := by decide +kernel
theorem dX4_last_88 : decode cX4_last 88 = .ok (.invokevirtual 169, 3) := by decide +kernel
theorem dX4_last_91 : decode cX4_last 91 = .ok (.goto 104, 3) := by decide +kernel
theorem dX4_last_94 : decode cX4_last 94 = .ok (.aload_n 0, 1) := by decide +kernel
theorem dX4_last_95 : decode cX4_last 95 = .ok (.iload_n 1, 1) := by decide +kernel
theorem dX4_last_96 : decode cX4_last 96 = .ok (.invokevirtual 172, 3) := by decide +kernel
theorem dX4_last_99 : decode cX4_last 99 = .ok (.goto 96, 3) := by decide +kernel
theorem dX4_last_102 : decode cX4_last 102 = .ok (.aload_n 0, 1) := by decide +kernel
theorem dX4_last_103 : decode cX4_last 103 = .ok (.iload_n 1, 1) := by decide +kernel
theorem dX4_last_104 : decode cX4_last 104 = .ok (.invokevirtual 175, 3) := by decide +kernel
theorem dX4_last_107 : decode cX4_last 107 = .ok (.goto 88, 3) := by decide +kernel
theorem dX4_last_110 : decode cX4_last 110 = .ok (.iload_n 1, 1) := by decide +kernel
theorem dX4_last_111 : decode cX4_last 111 = .ok (.iconst 2, 1) := by decide +kernel
theorem dX4_last_112 : decode cX4_last 112 = .ok (.irem, 1) := by decide +kernel
theorem dX4_last_113 : decode cX4_last 113 = .ok (.ifCond .ne 51, 3) := by decide +kernel
theorem dX4_last_116 : decode cX4_last 116 = .ok (.aload_n 0, 1) := by decide +kernel
theorem dX4_last_117 : decode cX4_last 117 = .ok (.dup, 1) := by decide +kernel
theorem dX4_last_118 : decode cX4_last 118 = .ok (.getfield 23, 3) := by decide +kernel
theorem dX4_last_121 : decode cX4_last 121 = .ok (.iconst 1, 1) := by decide +kernel
theorem dX4_last_122 : decode cX4_last 122 = .ok (.iadd, 1) := by decide +kernel
theorem dX4_last_123 : decode cX4_last 123 = .ok (.putfield 23, 3) := by decide +kernel
theorem dX4_last_126 : decode cX4_last 126 = .ok (.aload_n 0, 1) := by decide +kernel
theorem dX4_last_127 : decode cX4_last 127 = .ok (.iload_n 1, 1) := by decide +kernel
theorem dX4_last_128 : decode cX4_last 128 = .ok (.bipush 6, 2) := by decide +kernel
theorem dX4_last_130 : decode cX4_last 130 = .ok (.if_icmp .ne 21, 3) := by decide +kernel
theorem dX4_last_133 : decode cX4_last 133 = .ok (.aload_n 0, 1) := by decide +kernel
theorem dX4_last_134 : decode cX4_last 134 = .ok (.getfield 14, 3) := by decide +kernel
theorem dX4_last_137 : decode cX4_last 137 = .ok (.bipush 7, 2) := by decide +kernel
theorem dX4_last_139 : decode cX4_last 139 = .ok (.iaload, 1) := by decide +kernel
theorem dX4_last_140 : decode cX4_last 140 = .ok (.bipush 8, 2) := by decide +kernel
theorem dX4_last_142 : decode cX4_last 142 = .ok (.ishl, 1) := by decide +kernel
theorem dX4_last_143 : decode cX4_last 143 = .ok (.aload_n 0, 1) := by decide +kernel
theorem dX4_last_144 : decode cX4_last 144 = .ok (.invokevirtual 178, 3) := by decide +kernel
theorem dX4_last_147 : decode cX4_last 147 = .ok (.ior, 1) := by decide +kernel
theorem dX4_last_148 : decode cX4_last 148 = .ok (.goto 10, 3) := by decide +kernel
theorem dX4_last_151 : decode cX4_last 151 = .ok (.aload_n 0, 1) := by decide +kernel
theorem dX4_last_152 : decode cX4_last 152 = .ok (.iload_n 1, 1) := by decide +kernel
theorem dX4_last_153 : decode cX4_last 153 = .ok (.iconst 1, 1) := by decide +kernel
theorem dX4_last_154 : decode cX4_last 154 = .ok (.ishr, 1) := by decide +kernel
theorem dX4_last_155 : decode cX4_last 155 = .ok (.invokevirtual 141, 3) := by decide +kernel
theorem dX4_last_158 : decode cX4_last 158 = .ok (.invokevirtual 181, 3) := by decide +kernel
theorem dX4_last_161 : decode cX4_last 161 = .ok (.goto 34, 3) := by decide +kernel
theorem dX4_last_164 : decode cX4_last 164 = .ok (.aload_n 0, 1) := by decide +kernel
theorem dX4_last_165 : decode cX4_last 165 = .ok (.aload_n 0, 1) := by decide +kernel
theorem dX4_last_166 : decode cX4_last 166 = .ok (.invokevirtual 119, 3) := by decide +kernel
theorem dX4_last_169 : decode cX4_last 169 = .ok (.invokevirtual 184, 3) := by decide +kernel
theorem dX4_last_172 : decode cX4_last 172 = .ok (.goto 23, 3) := by decide +kernel
theorem dX4_last_175 : decode cX4_last 175 = .ok (.aload_n 0, 1) := by decide +kernel
theorem dX4_last_176 : decode cX4_last 176 = .ok (.iload_n 1, 1) := by decide +kernel
theorem dX4_last_177 : decode cX4_last 177 = .ok (.aload_n 0, 1) := by decide +kernel
theorem dX4_last_178 : decode cX4_last 178 = .ok (.invokevirtual 44, 3) := by decide +kernel
theorem dX4_last_181 : decode cX4_last 181 = .ok (.invokevirtual 97, 3) := by decide +kernel
theorem dX4_last_184 : decode cX4_last 184 = .ok (.goto 11, 3) := by decide +kernel
theorem dX4_last_187 : decode cX4_last 187 = .ok (.aload_n 0, 1) := by decide +kernel
theorem dX4_last_188 : decode cX4_last 188 = .ok (.bipush 8, 2) := by decide +kernel
theorem dX4_last_190 : decode cX4_last 190 = .ok (.iload_n 1, 1) := by decide +kernel
theorem dX4_last_191 : decode cX4_last 191 = .ok (.imul, 1) := by decide +kernel
theorem dX4_last_192 : decode cX4_last 192 = .ok (.invokevirtual 184, 3) := by decide +kernel
theorem dX4_last_195 : decode cX4_last 195 = .ok (.return_, 1) := by decide +kernel
theorem dX4_calls_0 : decode cX4_calls 0 = .ok (.aload_n 0, 1) := by decide +kernel
theorem dX4_calls_1 : decode cX4_calls 1 = .ok (.dup, 1) := by decide +kernel
theorem dX4_calls_2 : decode cX4_calls 2 = .ok (.getfield 23, 3) := by decide +kernel
theorem dX4_calls_5 : decode cX4_calls 5 = .ok (.iconst 1, 1) := by decide +kernel
theorem dX4_calls_6 : decode cX4_calls 6 = .ok (.iadd, 1) := by decide +kernel
theorem dX4_calls_7 : decode cX4_calls 7 = .ok (.putfield 23, 3) := by decide +kernel
theorem dX4_calls_10 : decode cX4_calls 10 = .ok (.aload_n 0, 1) := by decide +kernel
theorem dX4_calls_11 : decode cX4_calls 11 = .ok (.aload_n 0, 1) := by decide +kernel
theorem dX4_calls_12 : decode cX4_calls 12 = .ok (.getfield 38, 3) := by decide +kernel
theorem dX4_calls_15 : decode cX4_calls 15 = .ok (.invokevirtual 181, 3) := by decide +kernel
theorem dX4_calls_18 : decode cX4_calls 18 = .ok (.aload_n 0, 1) := by decide +kernel
theorem dX4_calls_19 : decode cX4_calls 19 = .ok (.iload_n 1, 1) := by decide +kernel
theorem dX4_calls_20 : decode cX4_calls 20 = .ok (.putfield 38, 3) := by decide +kernel
theorem dX4_calls_23 : decode cX4_calls 23 = .ok (.return_, 1) := by decide +kernel
theorem dX4_callsIf_0 : decode cX4_callsIf 0 = .ok (.aload_n 0, 1) := by decide +kernel
theorem dX4_callsIf_1 : decode cX4_callsIf 1 = .ok (.invokevirtual 119, 3) := by decide +kernel
theorem dX4_callsIf_4 : decode cX4_callsIf 4 = .ok (.istore_n 2, 1) := by decide +kernel
theorem dX4_callsIf_5 : decode cX4_callsIf 5 = .ok (.aload_n 0, 1) := by decide +kernel
theorem dX4_callsIf_6 : decode cX4_callsIf 6 = .ok (.iload_n 1, 1) := by decide +kernel
theorem dX4_callsIf_7 : decode cX4_callsIf 7 = .ok (.invokevirtual 147, 3) := by decide +kernel
theorem dX4_callsIf_10 : decode cX4_callsIf 10 = .ok (.ifCond .eq 8, 3) := by decide +kernel
theorem dX4_callsIf_13 : decode cX4_callsIf 13 = .ok (.aload_n 0, 1) := by decide +kernel
theorem dX4_callsIf_14 : decode cX4_callsIf 14 = .ok (.iload_n 2, 1) := by decide +kernel
theorem dX4_callsIf_15 : decode cX4_callsIf 15 = .ok (.invokevirtual 184, 3) := by decide +kernel
theorem dX4_callsIf_18 : decode cX4_callsIf 18 = .ok (.return_, 1) := by decide +kernel
theorem dX4_returnsIf_0 : decode cX4_returnsIf 0 = .ok (.aload_n 0, 1) := by decide +kernel
theorem dX4_returnsIf_1 : decode cX4_returnsIf 1 = .ok (.dup, 1) := by decide +kernel
theorem dX4_returnsIf_2 : decode cX4_returnsIf 2 = .ok (.getfield 23, 3) := by decide +kernel
theorem dX4_returnsIf_5 : decode cX4_returnsIf 5 = .ok (.iconst 1, 1) := by decide +kernel
theorem dX4_returnsIf_6 : decode cX4_returnsIf 6 = .ok (.iadd, 1) := by decide +kernel
theorem dX4_returnsIf_7 : decode cX4_returnsIf 7 = .ok (.putfield 23, 3) := by decide +kernel
theorem dX4_returnsIf_10 : decode cX4_returnsIf 10 = .ok (.aload_n 0, 1) := by decide +kernel
theorem dX4_returnsIf_11 : decode cX4_returnsIf 11 = .ok (.iload_n 1, 1) := by decide +kernel
theorem dX4_returnsIf_12 : decode cX4_returnsIf 12 = .ok (.invokevirtual 147, 3) := by decide +kernel
theorem dX4_returnsIf_15 : decode cX4_returnsIf 15 = .ok (.ifCond .ne 4, 3) := by decide +kernel
theorem dX4_returnsIf_18 : decode cX4_returnsIf 18 = .ok (.return_, 1) := by decide +kernel
theorem dX4_returnsIf_19 : decode cX4_returnsIf 19 = .ok (.aload_n 0, 1) := by decide +kernel
theorem dX4_returnsIf_20 : decode cX4_returnsIf 20 = .ok (.aload_n 0, 1) := by decide +kernel
theorem dX4_returnsIf_21 : decode cX4_returnsIf 21 = .ok (.invokevirtual 187, 3) := by decide +kernel
theorem dX4_returnsIf_24 : decode cX4_returnsIf 24 = .ok (.putfield 38, 3) := by decide +kernel
theorem dX4_returnsIf_27 : decode cX4_returnsIf 27 = .ok (.aload_n 0, 1) := by decide +kernel
theorem dX4_returnsIf_28 : decode cX4_returnsIf 28 = .ok (.dup, 1) := by decide +kernel
theorem dX4_returnsIf_29 : decode cX4_returnsIf 29 = .ok (.getfield 23, 3) := by decide +kernel
theorem dX4_returnsIf_32 : decode cX4_returnsIf 32 = .ok (.iconst 1, 1) := by decide +kernel
theorem dX4_returnsIf_33 : decode cX4_returnsIf 33 = .ok (.iadd, 1) := by decide +kernel
theorem dX4_returnsIf_34 : decode cX4_returnsIf 34 = .ok (.putfield 23, 3) := by decide +kernel
theorem dX4_returnsIf_37 : decode cX4_returnsIf 37 = .ok (.return_, 1) := by decide +kernel
theorem dX4_jumpsIf_0 : decode cX4_jumpsIf 0 = .ok (.aload_n 0, 1) := by decide +kernel
theorem dX4_jumpsIf_1 : decode cX4_jumpsIf 1 = .ok (.invokevirtual 119, 3) := by decide +kernel
theorem dX4_jumpsIf_4 : decode cX4_jumpsIf 4 = .ok (.istore_n 2, 1) := by decide +kernel
theorem dX4_jumpsIf_5 : decode cX4_jumpsIf 5 = .ok (.aload_n 0, 1) := by decide +kernel
theorem dX4_jumpsIf_6 : decode cX4_jumpsIf 6 = .ok (.iload_n 1, 1) := by decide +kernel
theorem dX4_jumpsIf_7 : decode cX4_jumpsIf 7 = .ok (.invokevirtual 147, 3) := by decide +kernel
theorem dX4_jumpsIf_10 : decode cX4_jumpsIf 10 = .ok (.ifCond .ne 4, 3) := by decide +kernel
theorem dX4_jumpsIf_13 : decode cX4_jumpsIf 13 = .ok (.return_, 1) := by decide +kernel
theorem dX4_jumpsIf_14 : decode cX4_jumpsIf 14 = .ok (.aload_n 0, 1) := by decide +kernel
theorem dX4_jumpsIf_15 : decode cX4_jumpsIf 15 = .ok (.dup, 1) := by decide +kernel
theorem dX4_jumpsIf_16 : decode cX4_jumpsIf 16 = .ok (.getfield 23, 3) := by decide +kernel
theorem dX4_jumpsIf_19 : decode cX4_jumpsIf 19 = .ok (.iconst 1, 1) := by decide +kernel
theorem dX4_jumpsIf_20 : decode cX4_jumpsIf 20 = .ok (.iadd, 1) := by decide +kernel
theorem dX4_jumpsIf_21 : decode cX4_jumpsIf 21 = .ok (.putfield 23, 3) := by decide +kernel
theorem dX4_jumpsIf_24 : decode cX4_jumpsIf 24 = .ok (.aload_n 0, 1) := by decide +kernel
theorem dX4_jumpsIf_25 : decode cX4_jumpsIf 25 = .ok (.iload_n 2, 1) := by decide +kernel
theorem dX4_jumpsIf_26 : decode cX4_jumpsIf 26 = .ok (.putfield 38, 3) := by decide +kernel
theorem dX4_jumpsIf_29 : decode cX4_jumpsIf 29 = .ok (.return_, 1) := by decide +kernel
theorem dX4_high_0 : decode cX4_high 0 = .ok (.aload_n 0, 1) := by decide +kernel
theorem dX4_high_1 : decode cX4_high 1 = .ok (.invokevirtual 44, 3) := by decide +kernel
theorem dX4_high_4 : decode cX4_high 4 = .ok (.istore_n 2, 1) := by decide +kernel
theorem dX4_high_5 : decode cX4_high 5 = .ok (.iload_n 1, 1) := by decide +kernel
theorem dX4_high_6 : decode cX4_high 6 = .ok (.iconst 4, 1) := by decide +kernel
theorem dX4_high_7 : decode cX4_high 7 = .ok (.if_icmp .ne 21, 3) := by decide +kernel
theorem dX4_high_10 : decode cX4_high 10 = .ok (.aload_n 0, 1) := by decide +kernel
theorem dX4_high_11 : decode cX4_high 11 = .ok (.ldc 190, 2) := by decide +kernel
theorem dX4_high_13 : decode cX4_high 13 = .ok (.iload_n 2, 1) := by decide +kernel
theorem dX4_high_14 : decode cX4_high 14 = .ok (.iadd, 1) := by decide +kernel
theorem dX4_high_15 : decode cX4_high 15 = .ok (.aload_n 0, 1) := by decide +kernel
theorem dX4_high_16 : decode cX4_high 16 = .ok (.getfield 14, 3) := by decide +kernel
theorem dX4_high_19 : decode cX4_high 19 = .ok (.bipush 7, 2) := by decide +kernel
theorem dX4_high_21 : decode cX4_high 21 = .ok (.iaload, 1) := by decide +kernel
theorem dX4_high_22 : decode cX4_high 22 = .ok (.invokevirtual 51, 3) := by decide +kernel
theorem dX4_high_25 : decode cX4_high 25 = .ok (.goto 74, 3) := by decide +kernel
theorem dX4_high_28 : decode cX4_high 28 = .ok (.iload_n 1, 1) := by decide +kernel
theorem dX4_high_29 : decode cX4_high 29 = .ok (.bipush 6, 2) := by decide +kernel
theorem dX4_high_31 : decode cX4_high 31 = .ok (.if_icmp .ne 21, 3) := by decide +kernel
theorem dX4_high_34 : decode cX4_high 34 = .ok (.aload_n 0, 1) := by decide +kernel
theorem dX4_high_35 : decode cX4_high 35 = .ok (.getfield 14, 3) := by decide +kernel
theorem dX4_high_38 : decode cX4_high 38 = .ok (.bipush 7, 2) := by decide +kernel
theorem dX4_high_40 : decode cX4_high 40 = .ok (.aload_n 0, 1) := by decide +kernel
theorem dX4_high_41 : decode cX4_high 41 = .ok (.ldc 190, 2) := by decide +kernel
theorem dX4_high_43 : decode cX4_high 43 = .ok (.iload_n 2, 1) := by decide +kernel
theorem dX4_high_44 : decode cX4_high 44 = .ok (.iadd, 1) := by decide +kernel
theorem dX4_high_45 : decode cX4_high 45 = .ok (.invokevirtual 41, 3) := by decide +kernel
theorem dX4_high_48 : decode cX4_high 48 = .ok (.iastore, 1) := by decide +kernel
theorem dX4_high_49 : decode cX4_high 49 = .ok (.goto 50, 3) := by decide +kernel
theorem dX4_high_52 : decode cX4_high 52 = .ok (.iload_n 1, 1) := by decide +kernel
theorem dX4_high_53 : decode cX4_high 53 = .ok (.iconst 5, 1) := by decide +kernel
theorem dX4_high_54 : decode cX4_high 54 = .ok (.if_icmp .ne 25, 3) := by decide +kernel
theorem dX4_high_57 : decode cX4_high 57 = .ok (.aload_n 0, 1) := by decide +kernel
theorem dX4_high_58 : decode cX4_high 58 = .ok (.dup, 1) := by decide +kernel
theorem dX4_high_59 : decode cX4_high 59 = .ok (.getfield 23, 3) := by decide +kernel
theorem dX4_high_62 : decode cX4_high 62 = .ok (.iconst 2, 1) := by decide +kernel
theorem dX4_high_63 : decode cX4_high 63 = .ok (.iadd, 1) := by decide +kernel
theorem dX4_high_64 : decode cX4_high 64 = .ok (.putfield 23, 3) := by decide +kernel
theorem dX4_high_67 : decode cX4_high 67 = .ok (.aload_n 0, 1) := by decide +kernel
theorem dX4_high_68 : decode cX4_high 68 = .ok (.aload_n 0, 1) := by decide +kernel
theorem dX4_high_69 : decode cX4_high 69 = .ok (.iload_n 2, 1) := by decide +kernel
theorem dX4_high_70 : decode cX4_high 70 = .ok (.invokevirtual 191, 3) := by decide +kernel
theorem dX4_high_73 : decode cX4_high 73 = .ok (.putfield 48, 3) := by decide +kernel
theorem dX4_high_76 : decode cX4_high 76 = .ok (.goto 23, 3) := by decide +kernel
theorem dX4_high_79 : decode cX4_high 79 = .ok (.aload_n 0, 1) := by decide +kernel
theorem dX4_high_80 : decode cX4_high 80 = .ok (.dup, 1) := by decide +kernel
theorem dX4_high_81 : decode cX4_high 81 = .ok (.getfield 23, 3) := by decide +kernel
theorem dX4_high_84 : decode cX4_high 84 = .ok (.iconst 1, 1) := by decide +kernel
theorem dX4_high_85 : decode cX4_high 85 = .ok (.iadd, 1) := by decide +kernel
theorem dX4_high_86 : decode cX4_high 86 = .ok (.putfield 23, 3) := by decide +kernel
theorem dX4_high_89 : decode cX4_high 89 = .ok (.aload_n 0, 1) := by decide +kernel
theorem dX4_high_90 : decode cX4_high 90 = .ok (.iconst 2, 1) := by decide +kernel
theorem dX4_high_91 : decode cX4_high 91 = .ok (.aload_n 0, 1) := by decide +kernel
theorem dX4_high_92 : decode cX4_high 92 = .ok (.iload_n 2, 1) := by decide +kernel
theorem dX4_high_93 : decode cX4_high 93 = .ok (.invokevirtual 191, 3) := by decide +kernel
theorem dX4_high_96 : decode cX4_high 96 = .ok (.invokevirtual 144, 3) := by decide +kernel
theorem dX4_high_99 : decode cX4_high 99 = .ok (.return_, 1) := by decide +kernel
theorem dX4_popsOr_0 : decode cX4_popsOr 0 = .ok (.iload_n 1, 1) := by decide +kernel
theorem dX4_popsOr_1 : decode cX4_popsOr 1 = .ok (.iconst 2, 1) := by decide +kernel
theorem dX4_popsOr_2 : decode cX4_popsOr 2 = .ok (.irem, 1) := by decide +kernel
theorem dX4_popsOr_3 : decode cX4_popsOr 3 = .ok (.ifCond .ne 44, 3) := by decide +kernel
theorem dX4_popsOr_6 : decode cX4_popsOr 6 = .ok (.aload_n 0, 1) := by decide +kernel
theorem dX4_popsOr_7 : decode cX4_popsOr 7 = .ok (.invokevirtual 187, 3) := by decide +kernel
theorem dX4_popsOr_10 : decode cX4_popsOr 10 = .ok (.istore_n 2, 1) := by decide +kernel
theorem dX4_popsOr_11 : decode cX4_popsOr 11 = .ok (.iload_n 1, 1) := by decide +kernel
theorem dX4_popsOr_12 : decode cX4_popsOr 12 = .ok (.bipush 6, 2) := by decide +kernel
theorem dX4_popsOr_14 : decode cX4_popsOr 14 = .ok (.if_icmp .ne 22, 3) := by decide +kernel
theorem dX4_popsOr_17 : decode cX4_popsOr 17 = .ok (.aload_n 0, 1) := by decide +kernel
theorem dX4_popsOr_18 : decode cX4_popsOr 18 = .ok (.getfield 14, 3) := by decide +kernel
theorem dX4_popsOr_21 : decode cX4_popsOr 21 = .ok (.bipush 7, 2) := by decide +kernel
theorem dX4_popsOr_23 : decode cX4_popsOr 23 = .ok (.iload_n 2, 1) := by decide +kernel
theorem dX4_popsOr_24 : decode cX4_popsOr 24 = .ok (.bipush 8, 2) := by decide +kernel
theorem dX4_popsOr_26 : decode cX4_popsOr 26 = .ok (.ishr, 1) := by decide +kernel
theorem dX4_popsOr_27 : decode cX4_popsOr 27 = .ok (.iastore, 1) := by decide +kernel
theorem dX4_popsOr_28 : decode cX4_popsOr 28 = .ok (.aload_n 0, 1) := by decide +kernel
theorem dX4_popsOr_29 : decode cX4_popsOr 29 = .ok (.iload_n 2, 1) := by decide +kernel
theorem dX4_popsOr_30 : decode cX4_popsOr 30 = .ok (.invokevirtual 194, 3) := by decide +kernel
theorem dX4_popsOr_33 : decode cX4_popsOr 33 = .ok (.goto 11, 3) := by decide +kernel
theorem dX4_popsOr_36 : decode cX4_popsOr 36 = .ok (.aload_n 0, 1) := by decide +kernel
theorem dX4_popsOr_37 : decode cX4_popsOr 37 = .ok (.iload_n 1, 1) := by decide +kernel
theorem dX4_popsOr_38 : decode cX4_popsOr 38 = .ok (.iconst 1, 1) := by decide +kernel
theorem dX4_popsOr_39 : decode cX4_popsOr 39 = .ok (.ishr, 1) := by decide +kernel
theorem dX4_popsOr_40 : decode cX4_popsOr 40 = .ok (.iload_n 2, 1) := by decide +kernel
theorem dX4_popsOr_41 : decode cX4_popsOr 41 = .ok (.invokevirtual 144, 3) := by decide +kernel
theorem dX4_popsOr_44 : decode cX4_popsOr 44 = .ok (.goto 79, 3) := by decide +kernel
theorem dX4_popsOr_47 : decode cX4_popsOr 47 = .ok (.iload_n 1, 1) := by decide +kernel
theorem dX4_popsOr_48 : decode cX4_popsOr 48 = .ok (.iconst 5, 1) := by decide +kernel
theorem dX4_popsOr_49 : decode cX4_popsOr 49 = .ok (.if_icmp .ne 14, 3) := by decide +kernel
theorem dX4_popsOr_52 : decode cX4_popsOr 52 = .ok (.aload_n 0, 1) := by decide +kernel
theorem dX4_popsOr_53 : decode cX4_popsOr 53 = .ok (.aload_n 0, 1) := by decide +kernel
theorem dX4_popsOr_54 : decode cX4_popsOr 54 = .ok (.invokevirtual 67, 3) := by decide +kernel
theorem dX4_popsOr_57 : decode cX4_popsOr 57 = .ok (.putfield 38, 3) := by decide +kernel
theorem dX4_popsOr_60 : decode cX4_popsOr 60 = .ok (.goto 63, 3) := by decide +kernel
theorem dX4_popsOr_63 : decode cX4_popsOr 63 = .ok (.iload_n 1, 1) := by decide +kernel
theorem dX4_popsOr_64 : decode cX4_popsOr 64 = .ok (.bipush 7, 2) := by decide +kernel
theorem dX4_popsOr_66 : decode cX4_popsOr 66 = .ok (.if_icmp .ne 24, 3) := by decide +kernel
theorem dX4_popsOr_69 : decode cX4_popsOr 69 = .ok (.aload_n 0, 1) := by decide +kernel
theorem dX4_popsOr_70 : decode cX4_popsOr 70 = .ok (.dup, 1) := by decide +kernel
theorem dX4_popsOr_71 : decode cX4_popsOr 71 = .ok (.getfield 23, 3) := by decide +kernel
theorem dX4_popsOr_74 : decode cX4_popsOr 74 = .ok (.iconst 1, 1) := by decide +kernel
theorem dX4_popsOr_75 : decode cX4_popsOr 75 = .ok (.iadd, 1) := by decide +kernel
theorem dX4_popsOr_76 : decode cX4_popsOr 76 = .ok (.putfield 23, 3) := by decide +kernel
theorem dX4_popsOr_79 : decode cX4_popsOr 79 = .ok (.aload_n 0, 1) := by decide +kernel
theorem dX4_popsOr_80 : decode cX4_popsOr 80 = .ok (.aload_n 0, 1) := by decide +kernel
theorem dX4_popsOr_81 : decode cX4_popsOr 81 = .ok (.invokevirtual 67, 3) := by decide +kernel
theorem dX4_popsOr_84 : decode cX4_popsOr 84 = .ok (.putfield 48, 3) := by decide +kernel
theorem dX4_popsOr_87 : decode cX4_popsOr 87 = .ok (.goto 36, 3) := by decide +kernel
theorem dX4_popsOr_90 : decode cX4_popsOr 90 = .ok (.aload_n 0, 1) := by decide +kernel
theorem dX4_popsOr_91 : decode cX4_popsOr 91 = .ok (.aload_n 0, 1) := by decide +kernel
theorem dX4_popsOr_92 : decode cX4_popsOr 92 = .ok (.invokevirtual 187, 3) := by decide +kernel
theorem dX4_popsOr_95 : decode cX4_popsOr 95 = .ok (.putfield 38, 3) := by decide +kernel
theorem dX4_popsOr_98 : decode cX4_popsOr 98 = .ok (.aload_n 0, 1) := by decide +kernel
theorem dX4_popsOr_99 : decode cX4_popsOr 99 = .ok (.dup, 1) := by decide +kernel
theorem dX4_popsOr_100 : decode cX4_popsOr 100 = .ok (.getfield 23, 3) := by decide +kernel
theorem dX4_popsOr_103 : decode cX4_popsOr 103 = .ok (.iconst 1, 1) := by decide +kernel
theorem dX4_popsOr_104 : decode cX4_popsOr 104 = .ok (.iadd, 1) := by decide +kernel
theorem dX4_popsOr_105 : decode cX4_popsOr 105 = .ok (.putfield 23, 3) := by decide +kernel
theorem dX4_popsOr_108 : decode cX4_popsOr 108 = .ok (.iload_n 1, 1) := by decide +kernel
theorem dX4_popsOr_109 : decode cX4_popsOr 109 = .ok (.iconst 3, 1) := by decide +kernel
theorem dX4_popsOr_110 : decode cX4_popsOr 110 = .ok (.if_icmp .ne 13, 3) := by decide +kernel
theorem dX4_popsOr_113 : decode cX4_popsOr 113 = .ok (.aload_n 0, 1) := by decide +kernel
theorem dX4_popsOr_114 : decode cX4_popsOr 114 = .ok (.iconst 1, 1) := by decide +kernel
theorem dX4_popsOr_115 : decode cX4_popsOr 115 = .ok (.putfield 104, 3) := by decide +kernel
theorem dX4_popsOr_118 : decode cX4_popsOr 118 = .ok (.aload_n 0, 1) := by decide +kernel
theorem dX4_popsOr_119 : decode cX4_popsOr 119 = .ok (.iconst 0, 1) := by decide +kernel
theorem dX4_popsOr_120 : decode cX4_popsOr 120 = .ok (.putfield 197, 3) := by decide +kernel
theorem dX4_popsOr_123 : decode cX4_popsOr 123 = .ok (.return_, 1) := by decide +kernel
theorem dX4_far_0 : decode cX4_far 0 = .ok (.iload_n 1, 1) := by decide +kernel
theorem dX4_far_1 : decode cX4_far 1 = .ok (.iconst 2, 1) := by decide +kernel
theorem dX4_far_2 : decode cX4_far 2 = .ok (.irem, 1) := by decide +kernel
theorem dX4_far_3 : decode cX4_far 3 = .ok (.ifCond .ne 15, 3) := by decide +kernel
theorem dX4_far_6 : decode cX4_far 6 = .ok (.ldc 190, 2) := by decide +kernel
theorem dX4_far_8 : decode cX4_far 8 = .ok (.aload_n 0, 1) := by decide +kernel
theorem dX4_far_9 : decode cX4_far 9 = .ok (.getfield 14, 3) := by decide +kernel
theorem dX4_far_12 : decode cX4_far 12 = .ok (.iconst 1, 1) := by decide +kernel
theorem dX4_far_13 : decode cX4_far 13 = .ok (.iaload, 1) := by decide +kernel
theorem dX4_far_14 : decode cX4_far 14 = .ok (.iadd, 1) := by decide +kernel
theorem dX4_far_15 : decode cX4_far 15 = .ok (.goto 7, 3) := by decide +kernel
theorem dX4_far_18 : decode cX4_far 18 = .ok (.aload_n 0, 1) := by decide +kernel
theorem dX4_far_19 : decode cX4_far 19 = .ok (.invokevirtual 119, 3) := by decide +kernel
theorem dX4_far_22 : decode cX4_far 22 = .ok (.istore_n 2, 1) := by decide +kernel
theorem dX4_far_23 : decode cX4_far 23 = .ok (.iload_n 1, 1) := by decide +kernel
theorem dX4_far_24 : decode cX4_far 24 = .ok (.bipush 6, 2) := by decide +kernel
theorem dX4_far_26 : decode cX4_far 26 = .ok (.if_icmp .ge 18, 3) := by decide +kernel
theorem dX4_far_29 : decode cX4_far 29 = .ok (.aload_n 0, 1) := by decide +kernel
theorem dX4_far_30 : decode cX4_far 30 = .ok (.iload_n 2, 1) := by decide +kernel
theorem dX4_far_31 : decode cX4_far 31 = .ok (.aload_n 0, 1) := by decide +kernel
theorem dX4_far_32 : decode cX4_far 32 = .ok (.getfield 14, 3) := by decide +kernel
theorem dX4_far_35 : decode cX4_far 35 = .ok (.bipush 7, 2) := by decide +kernel
theorem dX4_far_37 : decode cX4_far 37 = .ok (.iaload, 1) := by decide +kernel
theorem dX4_far_38 : decode cX4_far 38 = .ok (.invokevirtual 51, 3) := by decide +kernel
theorem dX4_far_41 : decode cX4_far 41 = .ok (.goto 15, 3) := by decide +kernel
theorem dX4_far_44 : decode cX4_far 44 = .ok (.aload_n 0, 1) := by decide +kernel
theorem dX4_far_45 : decode cX4_far 45 = .ok (.getfield 14, 3) := by decide +kernel
theorem dX4_far_48 : decode cX4_far 48 = .ok (.bipush 7, 2) := by decide +kernel
theorem dX4_far_50 : decode cX4_far 50 = .ok (.aload_n 0, 1) := by decide +kernel
theorem dX4_far_51 : decode cX4_far 51 = .ok (.iload_n 2, 1) := by decide +kernel
theorem dX4_far_52 : decode cX4_far 52 = .ok (.invokevirtual 41, 3) := by decide +kernel
theorem dX4_far_55 : decode cX4_far 55 = .ok (.iastore, 1) := by decide +kernel
theorem dX4_far_56 : decode cX4_far 56 = .ok (.return_, 1) := by decide +kernel
theorem dX4_others_0 : decode cX4_others 0 = .ok (.iload_n 1, 1) := by decide +kernel
theorem dX4_others_1 : decode cX4_others 1 = .ok (.ifCond .ne 24, 3) := by decide +kernel
theorem dX4_others_4 : decode cX4_others 4 = .ok (.aload_n 0, 1) := by decide +kernel
theorem dX4_others_5 : decode cX4_others 5 = .ok (.dup, 1) := by decide +kernel
theorem dX4_others_6 : decode cX4_others 6 = .ok (.getfield 23, 3) := by decide +kernel
theorem dX4_others_9 : decode cX4_others 9 = .ok (.iconst 1, 1) := by decide +kernel
theorem dX4_others_10 : decode cX4_others 10 = .ok (.iadd, 1) := by decide +kernel
theorem dX4_others_11 : decode cX4_others 11 = .ok (.putfield 23, 3) := by decide +kernel
theorem dX4_others_14 : decode cX4_others 14 = .ok (.aload_n 0, 1) := by decide +kernel
theorem dX4_others_15 : decode cX4_others 15 = .ok (.aload_n 0, 1) := by decide +kernel
theorem dX4_others_16 : decode cX4_others 16 = .ok (.invokevirtual 119, 3) := by decide +kernel
theorem dX4_others_19 : decode cX4_others 19 = .ok (.putfield 38, 3) := by decide +kernel
theorem dX4_others_22 : decode cX4_others 22 = .ok (.goto 54, 3) := by decide +kernel
theorem dX4_others_25 : decode cX4_others 25 = .ok (.iload_n 1, 1) := by decide +kernel
theorem dX4_others_26 : decode cX4_others 26 = .ok (.iconst 1, 1) := by decide +kernel
theorem dX4_others_27 : decode cX4_others 27 = .ok (.if_icmp .ne 14, 3) := by decide +kernel
theorem dX4_others_30 : decode cX4_others 30 = .ok (.aload_n 0, 1) := by decide +kernel
theorem dX4_others_31 : decode cX4_others 31 = .ok (.aload_n 0, 1) := by decide +kernel
theorem dX4_others_32 : decode cX4_others 32 = .ok (.invokevirtual 44, 3) := by decide +kernel
theorem dX4_others_35 : decode cX4_others 35 = .ok (.invokevirtual 200, 3) := by decide +kernel
theorem dX4_others_38 : decode cX4_others 38 = .ok (.goto 38, 3) := by decide +kernel
theorem dX4_others_41 : decode cX4_others 41 = .ok (.iload_n 1, 1) := by decide +kernel
theorem dX4_others_42 : decode cX4_others 42 = .ok (.bipush 6, 2) := by decide +kernel
theorem dX4_others_44 : decode cX4_others 44 = .ok (.if_icmp .ne 16, 3) := by decide +kernel
theorem dX4_others_47 : decode cX4_others 47 = .ok (.aload_n 0, 1) := by decide +kernel
theorem dX4_others_48 : decode cX4_others 48 = .ok (.iconst 0, 1) := by decide +kernel
theorem dX4_others_49 : decode cX4_others 49 = .ok (.putfield 104, 3) := by decide +kernel
theorem dX4_others_52 : decode cX4_others 52 = .ok (.aload_n 0, 1) := by decide +kernel
theorem dX4_others_53 : decode cX4_others 53 = .ok (.iconst 0, 1) := by decide +kernel
theorem dX4_others_54 : decode cX4_others 54 = .ok (.putfield 197, 3) := by decide +kernel
theorem dX4_others_57 : decode cX4_others 57 = .ok (.goto 19, 3) := by decide +kernel
theorem dX4_others_60 : decode cX4_others 60 = .ok (.aload_n 0, 1) := by decide +kernel
theorem dX4_others_61 : decode cX4_others 61 = .ok (.aload_n 0, 1) := by decide +kernel
theorem dX4_others_62 : decode cX4_others 62 = .ok (.getfield 104, 3) := by decide +kernel
theorem dX4_others_65 : decode cX4_others 65 = .ok (.ifCond .ne 7, 3) := by decide +kernel
theorem dX4_others_68 : decode cX4_others 68 = .ok (.iconst 1, 1) := by decide +kernel
theorem dX4_others_69 : decode cX4_others 69 = .ok (.goto 4, 3) := by decide +kernel
theorem dX4_others_72 : decode cX4_others 72 = .ok (.iconst 0, 1) := by decide +kernel
theorem dX4_others_73 : decode cX4_others 73 = .ok (.putfield 203, 3) := by decide +kernel
theorem dX4_others_76 : decode cX4_others 76 = .ok (.return_, 1) := by decide +kernel
theorem dX4_extended_0 : decode cX4_extended 0 = .ok (.iload_n 1, 1) := by decide +kernel
theorem dX4_extended_1 : decode cX4_extended 1 = .ok (.iconst 3, 1) := by decide +kernel
theorem dX4_extended_2 : decode cX4_extended 2 = .ok (.ishr, 1) := by decide +kernel
theorem dX4_extended_3 : decode cX4_extended 3 = .ok (.bipush 7, 2) := by decide +kernel
theorem dX4_extended_5 : decode cX4_extended 5 = .ok (.iand, 1) := by decide +kernel
theorem dX4_extended_6 : decode cX4_extended 6 = .ok (.istore_n 2, 1) := by decide +kernel
theorem dX4_extended_7 : decode cX4_extended 7 = .ok (.iload_n 1, 1) := by decide +kernel
theorem dX4_extended_8 : decode cX4_extended 8 = .ok (.bipush 7, 2) := by decide +kernel
theorem dX4_extended_10 : decode cX4_extended 10 = .ok (.iand, 1) := by decide +kernel
theorem dX4_extended_11 : decode cX4_extended 11 = .ok (.istore_n 3, 1) := by decide +kernel
theorem dX4_extended_12 : decode cX4_extended 12 = .ok (.aload_n 0, 1) := by decide +kernel
theorem dX4_extended_13 : decode cX4_extended 13 = .ok (.iload_n 3, 1) := by decide +kernel
theorem dX4_extended_14 : decode cX4_extended 14 = .ok (.invokevirtual 91, 3) := by decide +kernel
theorem dX4_extended_17 : decode cX4_extended 17 = .ok (.istore 4, 2) := by decide +kernel
theorem dX4_extended_19 : decode cX4_extended 19 = .ok (.iload_n 1, 1) := by decide +kernel
theorem dX4_extended_20 : decode cX4_extended 20 = .ok (.bipush 6, 2) := by decide +kernel
theorem dX4_extended_22 : decode cX4_extended 22 = .ok (.ishr, 1) := by decide +kernel
theorem dX4_extended_23 : decode cX4_extended 23 = .ok (.tableswitch 83 0 2 #[25, 40, 67], 25) := by decide +kernel
theorem dX4_extended_48 : decode cX4_extended 48 = .ok (.aload_n 0, 1) := by decide +kernel
theorem dX4_extended_49 : decode cX4_extended 49 = .ok (.iload_n 3, 1) := by decide +kernel
theorem dX4_extended_50 : decode cX4_extended 50 = .ok (.aload_n 0, 1) := by decide +kernel
theorem dX4_extended_51 : decode cX4_extended 51 = .ok (.iload_n 2, 1) := by decide +kernel
theorem dX4_extended_52 : decode cX4_extended 52 = .ok (.iload 4, 2) := by decide +kernel
theorem dX4_extended_54 : decode cX4_extended 54 = .ok (.invokevirtual 151, 3) := by decide +kernel
theorem dX4_extended_57 : decode cX4_extended 57 = .ok (.invokevirtual 94, 3) := by decide +kernel
theorem dX4_extended_60 : decode cX4_extended 60 = .ok (.goto 57, 3) := by decide +kernel
theorem dX4_extended_63 : decode cX4_extended 63 = .ok (.aload_n 0, 1) := by decide +kernel
theorem dX4_extended_64 : decode cX4_extended 64 = .ok (.iload 4, 2) := by decide +kernel
theorem dX4_extended_66 : decode cX4_extended 66 = .ok (.iload_n 2, 1) := by decide +kernel
theorem dX4_extended_67 : decode cX4_extended 67 = .ok (.ishr, 1) := by decide +kernel
theorem dX4_extended_68 : decode cX4_extended 68 = .ok (.iconst 1, 1) := by decide +kernel
theorem dX4_extended_69 : decode cX4_extended 69 = .ok (.iand, 1) := by decide +kernel
theorem dX4_extended_70 : decode cX4_extended 70 = .ok (.ifCond .ne 7, 3) := by decide +kernel
theorem dX4_extended_73 : decode cX4_extended 73 = .ok (.iconst 1, 1) := by decide +kernel
theorem dX4_extended_74 : decode cX4_extended 74 = .ok (.goto 4, 3) := by decide +kernel
theorem dX4_extended_77 : decode cX4_extended 77 = .ok (.iconst 0, 1) := by decide +kernel
theorem dX4_extended_78 : decode cX4_extended 78 = .ok (.iconst 0, 1) := by decide +kernel
theorem dX4_extended_79 : decode cX4_extended 79 = .ok (.iconst 1, 1) := by decide +kernel
theorem dX4_extended_80 : decode cX4_extended 80 = .ok (.aload_n 0, 1) := by decide +kernel
theorem dX4_extended_81 : decode cX4_extended 81 = .ok (.getfield 64, 3) := by decide +kernel
theorem dX4_extended_84 : decode cX4_extended 84 = .ok (.invokevirtual 70, 3) := by decide +kernel
theorem dX4_extended_87 : decode cX4_extended 87 = .ok (.goto 30, 3) := by decide +kernel
theorem dX4_extended_90 : decode cX4_extended 90 = .ok (.aload_n 0, 1) := by decide +kernel
theorem dX4_extended_91 : decode cX4_extended 91 = .ok (.iload_n 3, 1) := by decide +kernel
theorem dX4_extended_92 : decode cX4_extended 92 = .ok (.iload 4, 2) := by decide +kernel
theorem dX4_extended_94 : decode cX4_extended 94 = .ok (.iconst 1, 1) := by decide +kernel
theorem dX4_extended_95 : decode cX4_extended 95 = .ok (.iload_n 2, 1) := by decide +kernel
theorem dX4_extended_96 : decode cX4_extended 96 = .ok (.ishl, 1) := by decide +kernel
theorem dX4_extended_97 : decode cX4_extended 97 = .ok (.iconst (-1), 1) := by decide +kernel
theorem dX4_extended_98 : decode cX4_extended 98 = .ok (.ixor, 1) := by decide +kernel
theorem dX4_extended_99 : decode cX4_extended 99 = .ok (.iand, 1) := by decide +kernel
theorem dX4_extended_100 : decode cX4_extended 100 = .ok (.invokevirtual 94, 3) := by decide +kernel
theorem dX4_extended_103 : decode cX4_extended 103 = .ok (.goto 14, 3) := by decide +kernel
theorem dX4_extended_106 : decode cX4_extended 106 = .ok (.aload_n 0, 1) := by decide +kernel
theorem dX4_extended_107 : decode cX4_extended 107 = .ok (.iload_n 3, 1) := by decide +kernel
theorem dX4_extended_108 : decode cX4_extended 108 = .ok (.iload 4, 2) := by decide +kernel
theorem dX4_extended_110 : decode cX4_extended 110 = .ok (.iconst 1, 1) := by decide +kernel
theorem dX4_extended_111 : decode cX4_extended 111 = .ok (.iload_n 2, 1) := by decide +kernel
theorem dX4_extended_112 : decode cX4_extended 112 = .ok (.ishl, 1) := by decide +kernel
theorem dX4_extended_113 : decode cX4_extended 113 = .ok (.ior, 1) := by decide +kernel
theorem dX4_extended_114 : decode cX4_extended 114 = .ok (.invokevirtual 94, 3) := by decide +kernel
theorem dX4_extended_117 : decode cX4_extended 117 = .ok (.return_, 1) := by decide +kernel
theorem dX4_dispatch_0 : decode cX4_dispatch 0 = .ok (.iconst 0, 1) := by decide +kernel
theorem dX4_dispatch_1 : decode cX4_dispatch 1 = .ok (.istore_n 2, 1) := by decide +kernel
theorem dX4_dispatch_2 : decode cX4_dispatch 2 = .ok (.iload_n 1, 1) := by decide +kernel
theorem dX4_dispatch_3 : decode cX4_dispatch 3 = .ok (.iload_n 2, 1) := by decide +kernel
theorem dX4_dispatch_4 : decode cX4_dispatch 4 = .ok (.ishr, 1) := by decide +kernel
theorem dX4_dispatch_5 : decode cX4_dispatch 5 = .ok (.iconst 1, 1) := by decide +kernel
theorem dX4_dispatch_6 : decode cX4_dispatch 6 = .ok (.iand, 1) := by decide +kernel
theorem dX4_dispatch_7 : decode cX4_dispatch 7 = .ok (.ifCond .ne 9, 3) := by decide +kernel
theorem dX4_dispatch_10 : decode cX4_dispatch 10 = .ok (.iinc 2 1, 3) := by decide +kernel
theorem dX4_dispatch_13 : decode cX4_dispatch 13 = .ok (.goto (-11), 3) := by decide +kernel
theorem dX4_dispatch_16 : decode cX4_dispatch 16 = .ok (.aload_n 0, 1) := by decide +kernel
theorem dX4_dispatch_17 : decode cX4_dispatch 17 = .ok (.iconst 0, 1) := by decide +kernel
theorem dX4_dispatch_18 : decode cX4_dispatch 18 = .ok (.putfield 104, 3) := by decide +kernel
theorem dX4_dispatch_21 : decode cX4_dispatch 21 = .ok (.aload_n 0, 1) := by decide +kernel
theorem dX4_dispatch_22 : decode cX4_dispatch 22 = .ok (.iconst 0, 1) := by decide +kernel
theorem dX4_dispatch_23 : decode cX4_dispatch 23 = .ok (.putfield 107, 3) := by decide +kernel
theorem dX4_dispatch_26 : decode cX4_dispatch 26 = .ok (.aload_n 0, 1) := by decide +kernel
theorem dX4_dispatch_27 : decode cX4_dispatch 27 = .ok (.ldc 103, 2) := by decide +kernel
theorem dX4_dispatch_29 : decode cX4_dispatch 29 = .ok (.aload_n 0, 1) := by decide +kernel
theorem dX4_dispatch_30 : decode cX4_dispatch 30 = .ok (.ldc 103, 2) := by decide +kernel
theorem dX4_dispatch_32 : decode cX4_dispatch 32 = .ok (.invokevirtual 26, 3) := by decide +kernel
theorem dX4_dispatch_35 : decode cX4_dispatch 35 = .ok (.iconst 1, 1) := by decide +kernel
theorem dX4_dispatch_36 : decode cX4_dispatch 36 = .ok (.iload_n 2, 1) := by decide +kernel
theorem dX4_dispatch_37 : decode cX4_dispatch 37 = .ok (.ishl, 1) := by decide +kernel
theorem dX4_dispatch_38 : decode cX4_dispatch 38 = .ok (.iconst (-1), 1) := by decide +kernel
theorem dX4_dispatch_39 : decode cX4_dispatch 39 = .ok (.ixor, 1) := by decide +kernel
theorem dX4_dispatch_40 : decode cX4_dispatch 40 = .ok (.iand, 1) := by decide +kernel
theorem dX4_dispatch_41 : decode cX4_dispatch 41 = .ok (.invokevirtual 31, 3) := by decide +kernel
theorem dX4_dispatch_44 : decode cX4_dispatch 44 = .ok (.aload_n 0, 1) := by decide +kernel
theorem dX4_dispatch_45 : decode cX4_dispatch 45 = .ok (.iconst 3, 1) := by decide +kernel
theorem dX4_dispatch_46 : decode cX4_dispatch 46 = .ok (.putfield 23, 3) := by decide +kernel
theorem dX4_dispatch_49 : decode cX4_dispatch 49 = .ok (.aload_n 0, 1) := by decide +kernel
theorem dX4_dispatch_50 : decode cX4_dispatch 50 = .ok (.aload_n 0, 1) := by decide +kernel
theorem dX4_dispatch_51 : decode cX4_dispatch 51 = .ok (.getfield 38, 3) := by decide +kernel
theorem dX4_dispatch_54 : decode cX4_dispatch 54 = .ok (.invokevirtual 181, 3) := by decide +kernel
theorem dX4_dispatch_57 : decode cX4_dispatch 57 = .ok (.aload_n 0, 1) := by decide +kernel
theorem dX4_dispatch_58 : decode cX4_dispatch 58 = .ok (.bipush 64, 2) := by decide +kernel
theorem dX4_dispatch_60 : decode cX4_dispatch 60 = .ok (.bipush 8, 2) := by decide +kernel
theorem dX4_dispatch_62 : decode cX4_dispatch 62 = .ok (.iload_n 2, 1) := by decide +kernel
theorem dX4_dispatch_63 : decode cX4_dispatch 63 = .ok (.imul, 1) := by decide +kernel
theorem dX4_dispatch_64 : decode cX4_dispatch 64 = .ok (.iadd, 1) := by decide +kernel
theorem dX4_dispatch_65 : decode cX4_dispatch 65 = .ok (.putfield 38, 3) := by decide +kernel
theorem dX4_dispatch_68 : decode cX4_dispatch 68 = .ok (.return_, 1) := by decide +kernel
theorem dX4_time_0 : decode cX4_time 0 = .ok (.iconst 0, 1) := by decide +kernel
theorem dX4_time_1 : decode cX4_time 1 = .ok (.istore_n 1, 1) := by decide +kernel
theorem dX4_time_2 : decode cX4_time 2 = .ok (.iload_n 1, 1) := by decide +kernel
theorem dX4_time_3 : decode cX4_time 3 = .ok (.aload_n 0, 1) := by decide +kernel
theorem dX4_time_4 : decode cX4_time 4 = .ok (.getfield 23, 3) := by decide +kernel
theorem dX4_time_7 : decode cX4_time 7 = .ok (.if_icmp .ge 159, 3) := by decide +kernel
theorem dX4_time_10 : decode cX4_time 10 = .ok (.aload_n 0, 1) := by decide +kernel
theorem dX4_time_11 : decode cX4_time 11 = .ok (.aload_n 0, 1) := by decide +kernel
theorem dX4_time_12 : decode cX4_time 12 = .ok (.getfield 35, 3) := by decide +kernel
theorem dX4_time_15 : decode cX4_time 15 = .ok (.iconst 1, 1) := by decide +kernel
theorem dX4_time_16 : decode cX4_time 16 = .ok (.iadd, 1) := by decide +kernel
theorem dX4_time_17 : decode cX4_time 17 = .ok (.sipush 255, 3) := by decide +kernel
theorem dX4_time_20 : decode cX4_time 20 = .ok (.iand, 1) := by decide +kernel
theorem dX4_time_21 : decode cX4_time 21 = .ok (.putfield 35, 3) := by decide +kernel
theorem dX4_time_24 : decode cX4_time 24 = .ok (.aload_n 0, 1) := by decide +kernel
theorem dX4_time_25 : decode cX4_time 25 = .ok (.getfield 35, 3) := by decide +kernel
theorem dX4_time_28 : decode cX4_time 28 = .ok (.bipush 64, 2) := by decide +kernel
theorem dX4_time_30 : decode cX4_time 30 = .ok (.irem, 1) := by decide +kernel
theorem dX4_time_31 : decode cX4_time 31 = .ok (.ifCond .ne 17, 3) := by decide +kernel
theorem dX4_time_34 : decode cX4_time 34 = .ok (.aload_n 0, 1) := by decide +kernel
theorem dX4_time_35 : decode cX4_time 35 = .ok (.ldc 30, 2) := by decide +kernel
theorem dX4_time_37 : decode cX4_time 37 = .ok (.aload_n 0, 1) := by decide +kernel
theorem dX4_time_38 : decode cX4_time 38 = .ok (.ldc 30, 2) := by decide +kernel
theorem dX4_time_40 : decode cX4_time 40 = .ok (.invokevirtual 26, 3) := by decide +kernel
theorem dX4_time_43 : decode cX4_time 43 = .ok (.iconst 1, 1) := by decide +kernel
theorem dX4_time_44 : decode cX4_time 44 = .ok (.iadd, 1) := by decide +kernel
theorem dX4_time_45 : decode cX4_time 45 = .ok (.invokevirtual 31, 3) := by decide +kernel
theorem dX4_time_48 : decode cX4_time 48 = .ok (.aload_n 0, 1) := by decide +kernel
theorem dX4_time_49 : decode cX4_time 49 = .ok (.ldc 206, 2) := by decide +kernel
theorem dX4_time_51 : decode cX4_time 51 = .ok (.invokevirtual 26, 3) := by decide +kernel
theorem dX4_time_54 : decode cX4_time 54 = .ok (.istore_n 2, 1) := by decide +kernel
theorem dX4_time_55 : decode cX4_time 55 = .ok (.iload_n 2, 1) := by decide +kernel
theorem dX4_time_56 : decode cX4_time 56 = .ok (.iconst 4, 1) := by decide +kernel
theorem dX4_time_57 : decode cX4_time 57 = .ok (.irem, 1) := by decide +kernel
theorem dX4_time_58 : decode cX4_time 58 = .ok (.ifCond .ne 9, 3) := by decide +kernel
theorem dX4_time_61 : decode cX4_time 61 = .ok (.sipush 256, 3) := by decide +kernel
theorem dX4_time_64 : decode cX4_time 64 = .ok (.goto 28, 3) := by decide +kernel
theorem dX4_time_67 : decode cX4_time 67 = .ok (.iload_n 2, 1) := by decide +kernel
theorem dX4_time_68 : decode cX4_time 68 = .ok (.iconst 4, 1) := by decide +kernel
theorem dX4_time_69 : decode cX4_time 69 = .ok (.irem, 1) := by decide +kernel
theorem dX4_time_70 : decode cX4_time 70 = .ok (.iconst 1, 1) := by decide +kernel
theorem dX4_time_71 : decode cX4_time 71 = .ok (.if_icmp .ne 7, 3) := by decide +kernel
theorem dX4_time_74 : decode cX4_time 74 = .ok (.iconst 4, 1) := by decide +kernel
theorem dX4_time_75 : decode cX4_time 75 = .ok (.goto 17, 3) := by decide +kernel
theorem dX4_time_78 : decode cX4_time 78 = .ok (.iload_n 2, 1) := by decide +kernel
theorem dX4_time_79 : decode cX4_time 79 = .ok (.iconst 4, 1) := by decide +kernel
theorem dX4_time_80 : decode cX4_time 80 = .ok (.irem, 1) := by decide +kernel
theorem dX4_time_81 : decode cX4_time 81 = .ok (.iconst 2, 1) := by decide +kernel
theorem dX4_time_82 : decode cX4_time 82 = .ok (.if_icmp .ne 8, 3) := by decide +kernel
theorem dX4_time_85 : decode cX4_time 85 = .ok (.bipush 16, 2) := by decide +kernel
theorem dX4_time_87 : decode cX4_time 87 = .ok (.goto 5, 3) := by decide +kernel
theorem dX4_time_90 : decode cX4_time 90 = .ok (.bipush 64, 2) := by decide +kernel
theorem dX4_time_92 : decode cX4_time 92 = .ok (.istore_n 3, 1) := by decide +kernel
theorem dX4_time_93 : decode cX4_time 93 = .ok (.iload_n 2, 1) := by decide +kernel
theorem dX4_time_94 : decode cX4_time 94 = .ok (.iconst 4, 1) := by decide +kernel
theorem dX4_time_95 : decode cX4_time 95 = .ok (.iand, 1) := by decide +kernel
theorem dX4_time_96 : decode cX4_time 96 = .ok (.ifCond .eq 64, 3) := by decide +kernel
theorem dX4_time_99 : decode cX4_time 99 = .ok (.aload_n 0, 1) := by decide +kernel
theorem dX4_time_100 : decode cX4_time 100 = .ok (.getfield 35, 3) := by decide +kernel
theorem dX4_time_103 : decode cX4_time 103 = .ok (.iload_n 3, 1) := by decide +kernel
theorem dX4_time_104 : decode cX4_time 104 = .ok (.irem, 1) := by decide +kernel
theorem dX4_time_105 : decode cX4_time 105 = .ok (.ifCond .eq 6, 3) := by decide +kernel
theorem dX4_time_108 : decode cX4_time 108 = .ok (.goto 52, 3) := by decide +kernel
theorem dX4_time_111 : decode cX4_time 111 = .ok (.aload_n 0, 1) := by decide +kernel
theorem dX4_time_112 : decode cX4_time 112 = .ok (.ldc 207, 2) := by decide +kernel
theorem dX4_time_114 : decode cX4_time 114 = .ok (.aload_n 0, 1) := by decide +kernel
theorem dX4_time_115 : decode cX4_time 115 = .ok (.ldc 207, 2) := by decide +kernel
theorem dX4_time_117 : decode cX4_time 117 = .ok (.invokevirtual 26, 3) := by decide +kernel
theorem dX4_time_120 : decode cX4_time 120 = .ok (.iconst 1, 1) := by decide +kernel
theorem dX4_time_121 : decode cX4_time 121 = .ok (.iadd, 1) := by decide +kernel
theorem dX4_time_122 : decode cX4_time 122 = .ok (.invokevirtual 31, 3) := by decide +kernel
theorem dX4_time_125 : decode cX4_time 125 = .ok (.aload_n 0, 1) := by decide +kernel
theorem dX4_time_126 : decode cX4_time 126 = .ok (.ldc 207, 2) := by decide +kernel
theorem dX4_time_128 : decode cX4_time 128 = .ok (.invokevirtual 26, 3) := by decide +kernel
theorem dX4_time_131 : decode cX4_time 131 = .ok (.ifCond .ne 29, 3) := by decide +kernel
theorem dX4_time_134 : decode cX4_time 134 = .ok (.aload_n 0, 1) := by decide +kernel
theorem dX4_time_135 : decode cX4_time 135 = .ok (.ldc 207, 2) := by decide +kernel
theorem dX4_time_137 : decode cX4_time 137 = .ok (.aload_n 0, 1) := by decide +kernel
theorem dX4_time_138 : decode cX4_time 138 = .ok (.ldc 208, 2) := by decide +kernel
theorem dX4_time_140 : decode cX4_time 140 = .ok (.invokevirtual 26, 3) := by decide +kernel
theorem dX4_time_143 : decode cX4_time 143 = .ok (.invokevirtual 31, 3) := by decide +kernel
theorem dX4_time_146 : decode cX4_time 146 = .ok (.aload_n 0, 1) := by decide +kernel
theorem dX4_time_147 : decode cX4_time 147 = .ok (.ldc 103, 2) := by decide +kernel
theorem dX4_time_149 : decode cX4_time 149 = .ok (.aload_n 0, 1) := by decide +kernel
theorem dX4_time_150 : decode cX4_time 150 = .ok (.ldc 103, 2) := by decide +kernel
theorem dX4_time_152 : decode cX4_time 152 = .ok (.invokevirtual 26, 3) := by decide +kernel
theorem dX4_time_155 : decode cX4_time 155 = .ok (.iconst 4, 1) := by decide +kernel
theorem dX4_time_156 : decode cX4_time 156 = .ok (.ior, 1) := by decide +kernel
theorem dX4_time_157 : decode cX4_time 157 = .ok (.invokevirtual 31, 3) := by decide +kernel
theorem dX4_time_160 : decode cX4_time 160 = .ok (.iinc 1 1, 3) := by decide +kernel
theorem dX4_time_163 : decode cX4_time 163 = .ok (.goto (-161), 3) := by decide +kernel
theorem dX4_time_166 : decode cX4_time 166 = .ok (.aload_n 0, 1) := by decide +kernel
theorem dX4_time_167 : decode cX4_time 167 = .ok (.aload_n 0, 1) := by decide +kernel
theorem dX4_time_168 : decode cX4_time 168 = .ok (.getfield 209, 3) := by decide +kernel
theorem dX4_time_171 : decode cX4_time 171 = .ok (.aload_n 0, 1) := by decide +kernel
theorem dX4_time_172 : decode cX4_time 172 = .ok (.getfield 23, 3) := by decide +kernel
theorem dX4_time_175 : decode cX4_time 175 = .ok (.iadd, 1) := by decide +kernel
theorem dX4_time_176 : decode cX4_time 176 = .ok (.ldc 212, 2) := by decide +kernel
theorem dX4_time_178 : decode cX4_time 178 = .ok (.iand, 1) := by decide +kernel
theorem dX4_time_179 : decode cX4_time 179 = .ok (.putfield 209, 3) := by decide +kernel
theorem dX4_time_182 : decode cX4_time 182 = .ok (.return_, 1) := by decide +kernel
theorem dX4_step_0 : decode cX4_step 0 = .ok (.aload_n 0, 1) := by decide +kernel
theorem dX4_step_1 : decode cX4_step 1 = .ok (.iconst 0, 1) := by decide +kernel
theorem dX4_step_2 : decode cX4_step 2 = .ok (.putfield 18, 3) := by decide +kernel
theorem dX4_step_5 : decode cX4_step 5 = .ok (.aload_n 0, 1) := by decide +kernel
theorem dX4_step_6 : decode cX4_step 6 = .ok (.ldc 22, 2) := by decide +kernel
theorem dX4_step_8 : decode cX4_step 8 = .ok (.invokevirtual 26, 3) := by decide +kernel
theorem dX4_step_11 : decode cX4_step 11 = .ok (.aload_n 0, 1) := by decide +kernel
theorem dX4_step_12 : decode cX4_step 12 = .ok (.ldc 103, 2) := by decide +kernel
theorem dX4_step_14 : decode cX4_step 14 = .ok (.invokevirtual 26, 3) := by decide +kernel
theorem dX4_step_17 : decode cX4_step 17 = .ok (.iand, 1) := by decide +kernel
theorem dX4_step_18 : decode cX4_step 18 = .ok (.bipush 31, 2) := by decide +kernel
theorem dX4_step_20 : decode cX4_step 20 = .ok (.iand, 1) := by decide +kernel
theorem dX4_step_21 : decode cX4_step 21 = .ok (.istore_n 1, 1) := by decide +kernel
theorem dX4_step_22 : decode cX4_step 22 = .ok (.aload_n 0, 1) := by decide +kernel
theorem dX4_step_23 : decode cX4_step 23 = .ok (.iconst 0, 1) := by decide +kernel
theorem dX4_step_24 : decode cX4_step 24 = .ok (.putfield 23, 3) := by decide +kernel
theorem dX4_step_27 : decode cX4_step 27 = .ok (.aload_n 0, 1) := by decide +kernel
theorem dX4_step_28 : decode cX4_step 28 = .ok (.getfield 104, 3) := by decide +kernel
theorem dX4_step_31 : decode cX4_step 31 = .ok (.ifCond .eq 15, 3) := by decide +kernel
theorem dX4_step_34 : decode cX4_step 34 = .ok (.iload_n 1, 1) := by decide +kernel
theorem dX4_step_35 : decode cX4_step 35 = .ok (.ifCond .le 11, 3) := by decide +kernel
theorem dX4_step_38 : decode cX4_step 38 = .ok (.aload_n 0, 1) := by decide +kernel
theorem dX4_step_39 : decode cX4_step 39 = .ok (.iload_n 1, 1) := by decide +kernel
theorem dX4_step_40 : decode cX4_step 40 = .ok (.invokevirtual 213, 3) := by decide +kernel
theorem dX4_step_43 : decode cX4_step 43 = .ok (.goto 102, 3) := by decide +kernel
theorem dX4_step_46 : decode cX4_step 46 = .ok (.aload_n 0, 1) := by decide +kernel
theorem dX4_step_47 : decode cX4_step 47 = .ok (.getfield 107, 3) := by decide +kernel
theorem dX4_step_50 : decode cX4_step 50 = .ok (.ifCond .eq 18, 3) := by decide +kernel
theorem dX4_step_53 : decode cX4_step 53 = .ok (.iload_n 1, 1) := by decide +kernel
theorem dX4_step_54 : decode cX4_step 54 = .ok (.ifCond .ne 14, 3) := by decide +kernel
theorem dX4_step_57 : decode cX4_step 57 = .ok (.aload_n 0, 1) := by decide +kernel
theorem dX4_step_58 : decode cX4_step 58 = .ok (.iconst 1, 1) := by decide +kernel
theorem dX4_step_59 : decode cX4_step 59 = .ok (.putfield 23, 3) := by decide +kernel
theorem dX4_step_62 : decode cX4_step 62 = .ok (.aload_n 0, 1) := by decide +kernel
theorem dX4_step_63 : decode cX4_step 63 = .ok (.invokevirtual 216, 3) := by decide +kernel
theorem dX4_step_66 : decode cX4_step 66 = .ok (.iconst 1, 1) := by decide +kernel
theorem dX4_step_67 : decode cX4_step 67 = .ok (.ireturn, 1) := by decide +kernel
theorem dX4_step_68 : decode cX4_step 68 = .ok (.aload_n 0, 1) := by decide +kernel
theorem dX4_step_69 : decode cX4_step 69 = .ok (.aload_n 0, 1) := by decide +kernel
theorem dX4_step_70 : decode cX4_step 70 = .ok (.getfield 38, 3) := by decide +kernel
theorem dX4_step_73 : decode cX4_step 73 = .ok (.invokevirtual 26, 3) := by decide +kernel
theorem dX4_step_76 : decode cX4_step 76 = .ok (.invokestatic 219, 3) := by decide +kernel
theorem dX4_step_79 : decode cX4_step 79 = .ok (.ifCond .eq 5, 3) := by decide +kernel
theorem dX4_step_82 : decode cX4_step 82 = .ok (.iconst 2, 1) := by decide +kernel
theorem dX4_step_83 : decode cX4_step 83 = .ok (.ireturn, 1) := by decide +kernel
theorem dX4_step_84 : decode cX4_step 84 = .ok (.aload_n 0, 1) := by decide +kernel
theorem dX4_step_85 : decode cX4_step 85 = .ok (.iconst 0, 1) := by decide +kernel
theorem dX4_step_86 : decode cX4_step 86 = .ok (.putfield 107, 3) := by decide +kernel
theorem dX4_step_89 : decode cX4_step 89 = .ok (.aload_n 0, 1) := by decide +kernel
theorem dX4_step_90 : decode cX4_step 90 = .ok (.aload_n 0, 1) := by decide +kernel
theorem dX4_step_91 : decode cX4_step 91 = .ok (.getfield 197, 3) := by decide +kernel
theorem dX4_step_94 : decode cX4_step 94 = .ok (.putfield 110, 3) := by decide +kernel
theorem dX4_step_97 : decode cX4_step 97 = .ok (.aload_n 0, 1) := by decide +kernel
theorem dX4_step_98 : decode cX4_step 98 = .ok (.iconst 0, 1) := by decide +kernel
theorem dX4_step_99 : decode cX4_step 99 = .ok (.putfield 203, 3) := by decide +kernel
theorem dX4_step_102 : decode cX4_step 102 = .ok (.aload_n 0, 1) := by decide +kernel
theorem dX4_step_103 : decode cX4_step 103 = .ok (.invokevirtual 222, 3) := by decide +kernel
theorem dX4_step_106 : decode cX4_step 106 = .ok (.aload_n 0, 1) := by decide +kernel
theorem dX4_step_107 : decode cX4_step 107 = .ok (.getfield 110, 3) := by decide +kernel
theorem dX4_step_110 : decode cX4_step 110 = .ok (.ifCond .eq 23, 3) := by decide +kernel
theorem dX4_step_113 : decode cX4_step 113 = .ok (.aload_n 0, 1) := by decide +kernel
theorem dX4_step_114 : decode cX4_step 114 = .ok (.getfield 197, 3) := by decide +kernel
theorem dX4_step_117 : decode cX4_step 117 = .ok (.ifCond .eq 16, 3) := by decide +kernel
theorem dX4_step_120 : decode cX4_step 120 = .ok (.aload_n 0, 1) := by decide +kernel
theorem dX4_step_121 : decode cX4_step 121 = .ok (.iconst 0, 1) := by decide +kernel
theorem dX4_step_122 : decode cX4_step 122 = .ok (.putfield 197, 3) := by decide +kernel
theorem dX4_step_125 : decode cX4_step 125 = .ok (.aload_n 0, 1) := by decide +kernel
theorem dX4_step_126 : decode cX4_step 126 = .ok (.iconst 1, 1) := by decide +kernel
theorem dX4_step_127 : decode cX4_step 127 = .ok (.putfield 104, 3) := by decide +kernel
theorem dX4_step_130 : decode cX4_step 130 = .ok (.goto 15, 3) := by decide +kernel
theorem dX4_step_133 : decode cX4_step 133 = .ok (.aload_n 0, 1) := by decide +kernel
theorem dX4_step_134 : decode cX4_step 134 = .ok (.getfield 203, 3) := by decide +kernel
theorem dX4_step_137 : decode cX4_step 137 = .ok (.ifCond .eq 8, 3) := by decide +kernel
theorem dX4_step_140 : decode cX4_step 140 = .ok (.aload_n 0, 1) := by decide +kernel
theorem dX4_step_141 : decode cX4_step 141 = .ok (.iconst 1, 1) := by decide +kernel
theorem dX4_step_142 : decode cX4_step 142 = .ok (.putfield 197, 3) := by decide +kernel
theorem dX4_step_145 : decode cX4_step 145 = .ok (.aload_n 0, 1) := by decide +kernel
theorem dX4_step_146 : decode cX4_step 146 = .ok (.invokevirtual 216, 3) := by decide +kernel
theorem dX4_step_149 : decode cX4_step 149 = .ok (.iconst 0, 1) := by decide +kernel
theorem dX4_step_150 : decode cX4_step 150 = .ok (.ireturn, 1) := by decide +kernel
theorem dX4_run_0 : decode cX4_run 0 = .ok (.aload_n 0, 1) := by decide +kernel
theorem dX4_run_1 : decode cX4_run 1 = .ok (.iconst 0, 1) := by decide +kernel
theorem dX4_run_2 : decode cX4_run 2 = .ok (.putfield 18, 3) := by decide +kernel
theorem dX4_run_5 : decode cX4_run 5 = .ok (.iload_n 1, 1) := by decide +kernel
theorem dX4_run_6 : decode cX4_run 6 = .ok (.iconst 1, 1) := by decide +kernel
theorem dX4_run_7 : decode cX4_run 7 = .ok (.if_icmp .lt 10, 3) := by decide +kernel
theorem dX4_run_10 : decode cX4_run 10 = .ok (.iload_n 1, 1) := by decide +kernel
theorem dX4_run_11 : decode cX4_run 11 = .ok (.sipush 2000, 3) := by decide +kernel
theorem dX4_run_14 : decode cX4_run 14 = .ok (.if_icmp .le 5, 3) := by decide +kernel
theorem dX4_run_17 : decode cX4_run 17 = .ok (.iconst (-1), 1) := by decide +kernel
theorem dX4_run_18 : decode cX4_run 18 = .ok (.ireturn, 1) := by decide +kernel
theorem dX4_run_19 : decode cX4_run 19 = .ok (.iconst 0, 1) := by decide +kernel
theorem dX4_run_20 : decode cX4_run 20 = .ok (.istore_n 2, 1) := by decide +kernel
theorem dX4_run_21 : decode cX4_run 21 = .ok (.iload_n 2, 1) := by decide +kernel
theorem dX4_run_22 : decode cX4_run 22 = .ok (.iload_n 1, 1) := by decide +kernel
theorem dX4_run_23 : decode cX4_run 23 = .ok (.if_icmp .ge 17, 3) := by decide +kernel
theorem dX4_run_26 : decode cX4_run 26 = .ok (.aload_n 0, 1) := by decide +kernel
theorem dX4_run_27 : decode cX4_run 27 = .ok (.invokevirtual 225, 3) := by decide +kernel
theorem dX4_run_30 : decode cX4_run 30 = .ok (.iconst 2, 1) := by decide +kernel
theorem dX4_run_31 : decode cX4_run 31 = .ok (.if_icmp .ge 9, 3) := by decide +kernel
theorem dX4_run_34 : decode cX4_run 34 = .ok (.iinc 2 1, 3) := by decide +kernel
theorem dX4_run_37 : decode cX4_run 37 = .ok (.goto (-16), 3) := by decide +kernel
theorem dX4_run_40 : decode cX4_run 40 = .ok (.iload_n 2, 1) := by decide +kernel
theorem dX4_run_41 : decode cX4_run 41 = .ok (.ireturn, 1) := by decide +kernel
theorem dX4_poke_0 : decode cX4_poke 0 = .ok (.aload_n 0, 1) := by decide +kernel
theorem dX4_poke_1 : decode cX4_poke 1 = .ok (.iconst 0, 1) := by decide +kernel
theorem dX4_poke_2 : decode cX4_poke 2 = .ok (.putfield 18, 3) := by decide +kernel
theorem dX4_poke_5 : decode cX4_poke 5 = .ok (.iload_n 1, 1) := by decide +kernel
theorem dX4_poke_6 : decode cX4_poke 6 = .ok (.ifCond .lt 9, 3) := by decide +kernel
theorem dX4_poke_9 : decode cX4_poke 9 = .ok (.iload_n 1, 1) := by decide +kernel
theorem dX4_poke_10 : decode cX4_poke 10 = .ok (.ldc 22, 2) := by decide +kernel
theorem dX4_poke_12 : decode cX4_poke 12 = .ok (.if_icmp .le 5, 3) := by decide +kernel
theorem dX4_poke_15 : decode cX4_poke 15 = .ok (.iconst 0, 1) := by decide +kernel
theorem dX4_poke_16 : decode cX4_poke 16 = .ok (.ireturn, 1) := by decide +kernel
theorem dX4_poke_17 : decode cX4_poke 17 = .ok (.aload_n 0, 1) := by decide +kernel
theorem dX4_poke_18 : decode cX4_poke 18 = .ok (.iload_n 1, 1) := by decide +kernel
theorem dX4_poke_19 : decode cX4_poke 19 = .ok (.iload_n 2, 1) := by decide +kernel
theorem dX4_poke_20 : decode cX4_poke 20 = .ok (.invokevirtual 31, 3) := by decide +kernel
theorem dX4_poke_23 : decode cX4_poke 23 = .ok (.iconst 1, 1) := by decide +kernel
theorem dX4_poke_24 : decode cX4_poke 24 = .ok (.ireturn, 1) := by decide +kernel
theorem dX4_feed_0 : decode cX4_feed 0 = .ok (.aload_n 0, 1) := by decide +kernel
theorem dX4_feed_1 : decode cX4_feed 1 = .ok (.iconst 0, 1) := by decide +kernel
theorem dX4_feed_2 : decode cX4_feed 2 = .ok (.putfield 18, 3) := by decide +kernel
theorem dX4_feed_5 : decode cX4_feed 5 = .ok (.iload_n 1, 1) := by decide +kernel
theorem dX4_feed_6 : decode cX4_feed 6 = .ok (.ifCond .lt 9, 3) := by decide +kernel
theorem dX4_feed_9 : decode cX4_feed 9 = .ok (.iload_n 1, 1) := by decide +kernel
theorem dX4_feed_10 : decode cX4_feed 10 = .ok (.ldc 228, 2) := by decide +kernel
theorem dX4_feed_12 : decode cX4_feed 12 = .ok (.if_icmp .le 5, 3) := by decide +kernel
theorem dX4_feed_15 : decode cX4_feed 15 = .ok (.iconst 0, 1) := by decide +kernel
theorem dX4_feed_16 : decode cX4_feed 16 = .ok (.ireturn, 1) := by decide +kernel
theorem dX4_feed_17 : decode cX4_feed 17 = .ok (.iconst 0, 1) := by decide +kernel
theorem dX4_feed_18 : decode cX4_feed 18 = .ok (.istore 6, 2) := by decide +kernel
theorem dX4_feed_20 : decode cX4_feed 20 = .ok (.iload 6, 2) := by decide +kernel
theorem dX4_feed_22 : decode cX4_feed 22 = .ok (.bipush 16, 2) := by decide +kernel
theorem dX4_feed_24 : decode cX4_feed 24 = .ok (.if_icmp .ge 67, 3) := by decide +kernel
theorem dX4_feed_27 : decode cX4_feed 27 = .ok (.iload 6, 2) := by decide +kernel
theorem dX4_feed_29 : decode cX4_feed 29 = .ok (.iconst 4, 1) := by decide +kernel
theorem dX4_feed_30 : decode cX4_feed 30 = .ok (.if_icmp .ge 7, 3) := by decide +kernel
theorem dX4_feed_33 : decode cX4_feed 33 = .ok (.iload_n 2, 1) := by decide +kernel
theorem dX4_feed_34 : decode cX4_feed 34 = .ok (.goto 28, 3) := by decide +kernel
theorem dX4_feed_37 : decode cX4_feed 37 = .ok (.iload 6, 2) := by decide +kernel
theorem dX4_feed_39 : decode cX4_feed 39 = .ok (.bipush 8, 2) := by decide +kernel
theorem dX4_feed_41 : decode cX4_feed 41 = .ok (.if_icmp .ge 7, 3) := by decide +kernel
theorem dX4_feed_44 : decode cX4_feed 44 = .ok (.iload_n 3, 1) := by decide +kernel
theorem dX4_feed_45 : decode cX4_feed 45 = .ok (.goto 17, 3) := by decide +kernel
theorem dX4_feed_48 : decode cX4_feed 48 = .ok (.iload 6, 2) := by decide +kernel
theorem dX4_feed_50 : decode cX4_feed 50 = .ok (.bipush 12, 2) := by decide +kernel
theorem dX4_feed_52 : decode cX4_feed 52 = .ok (.if_icmp .ge 8, 3) := by decide +kernel
theorem dX4_feed_55 : decode cX4_feed 55 = .ok (.iload 4, 2) := by decide +kernel
theorem dX4_feed_57 : decode cX4_feed 57 = .ok (.goto 5, 3) := by decide +kernel
theorem dX4_feed_60 : decode cX4_feed 60 = .ok (.iload 5, 2) := by decide +kernel
theorem dX4_feed_62 : decode cX4_feed 62 = .ok (.istore 7, 2) := by decide +kernel
theorem dX4_feed_64 : decode cX4_feed 64 = .ok (.aload_n 0, 1) := by decide +kernel
theorem dX4_feed_65 : decode cX4_feed 65 = .ok (.iload_n 1, 1) := by decide +kernel
theorem dX4_feed_66 : decode cX4_feed 66 = .ok (.iload 6, 2) := by decide +kernel
theorem dX4_feed_68 : decode cX4_feed 68 = .ok (.iadd, 1) := by decide +kernel
theorem dX4_feed_69 : decode cX4_feed 69 = .ok (.iload 7, 2) := by decide +kernel
theorem dX4_feed_71 : decode cX4_feed 71 = .ok (.bipush 24, 2) := by decide +kernel
theorem dX4_feed_73 : decode cX4_feed 73 = .ok (.bipush 8, 2) := by decide +kernel
theorem dX4_feed_75 : decode cX4_feed 75 = .ok (.iload 6, 2) := by decide +kernel
theorem dX4_feed_77 : decode cX4_feed 77 = .ok (.iconst 4, 1) := by decide +kernel
theorem dX4_feed_78 : decode cX4_feed 78 = .ok (.irem, 1) := by decide +kernel
theorem dX4_feed_79 : decode cX4_feed 79 = .ok (.imul, 1) := by decide +kernel
theorem dX4_feed_80 : decode cX4_feed 80 = .ok (.isub, 1) := by decide +kernel
theorem dX4_feed_81 : decode cX4_feed 81 = .ok (.ishr, 1) := by decide +kernel
theorem dX4_feed_82 : decode cX4_feed 82 = .ok (.invokevirtual 31, 3) := by decide +kernel
theorem dX4_feed_85 : decode cX4_feed 85 = .ok (.iinc 6 1, 3) := by decide +kernel
theorem dX4_feed_88 : decode cX4_feed 88 = .ok (.goto (-68), 3) := by decide +kernel
theorem dX4_feed_91 : decode cX4_feed 91 = .ok (.iconst 1, 1) := by decide +kernel
theorem dX4_feed_92 : decode cX4_feed 92 = .ok (.ireturn, 1) := by decide +kernel
theorem dX4_peek_0 : decode cX4_peek 0 = .ok (.aload_n 0, 1) := by decide +kernel
theorem dX4_peek_1 : decode cX4_peek 1 = .ok (.iconst 0, 1) := by decide +kernel
theorem dX4_peek_2 : decode cX4_peek 2 = .ok (.putfield 18, 3) := by decide +kernel
theorem dX4_peek_5 : decode cX4_peek 5 = .ok (.iload_n 1, 1) := by decide +kernel
theorem dX4_peek_6 : decode cX4_peek 6 = .ok (.ifCond .lt 9, 3) := by decide +kernel
theorem dX4_peek_9 : decode cX4_peek 9 = .ok (.iload_n 1, 1) := by decide +kernel
theorem dX4_peek_10 : decode cX4_peek 10 = .ok (.ldc 22, 2) := by decide +kernel
theorem dX4_peek_12 : decode cX4_peek 12 = .ok (.if_icmp .le 7, 3) := by decide +kernel
theorem dX4_peek_15 : decode cX4_peek 15 = .ok (.iconst (-1), 1) := by decide +kernel
theorem dX4_peek_16 : decode cX4_peek 16 = .ok (.goto 8, 3) := by decide +kernel
theorem dX4_peek_19 : decode cX4_peek 19 = .ok (.aload_n 0, 1) := by decide +kernel
theorem dX4_peek_20 : decode cX4_peek 20 = .ok (.iload_n 1, 1) := by decide +kernel
theorem dX4_peek_21 : decode cX4_peek 21 = .ok (.invokevirtual 26, 3) := by decide +kernel
theorem dX4_peek_24 : decode cX4_peek 24 = .ok (.ireturn, 1) := by decide +kernel
theorem dX4_request_0 : decode cX4_request 0 = .ok (.aload_n 0, 1) := by decide +kernel
theorem dX4_request_1 : decode cX4_request 1 = .ok (.iconst 0, 1) := by decide +kernel
theorem dX4_request_2 : decode cX4_request 2 = .ok (.putfield 18, 3) := by decide +kernel
theorem dX4_request_5 : decode cX4_request 5 = .ok (.iload_n 1, 1) := by decide +kernel
theorem dX4_request_6 : decode cX4_request 6 = .ok (.ifCond .lt 8, 3) := by decide +kernel
theorem dX4_request_9 : decode cX4_request 9 = .ok (.iload_n 1, 1) := by decide +kernel
theorem dX4_request_10 : decode cX4_request 10 = .ok (.iconst 4, 1) := by decide +kernel
theorem dX4_request_11 : decode cX4_request 11 = .ok (.if_icmp .le 5, 3) := by decide +kernel
theorem dX4_request_14 : decode cX4_request 14 = .ok (.iconst 0, 1) := by decide +kernel
theorem dX4_request_15 : decode cX4_request 15 = .ok (.ireturn, 1) := by decide +kernel
theorem dX4_request_16 : decode cX4_request 16 = .ok (.aload_n 0, 1) := by decide +kernel
theorem dX4_request_17 : decode cX4_request 17 = .ok (.ldc 103, 2) := by decide +kernel
theorem dX4_request_19 : decode cX4_request 19 = .ok (.aload_n 0, 1) := by decide +kernel
theorem dX4_request_20 : decode cX4_request 20 = .ok (.ldc 103, 2) := by decide +kernel
theorem dX4_request_22 : decode cX4_request 22 = .ok (.invokevirtual 26, 3) := by decide +kernel
theorem dX4_request_25 : decode cX4_request 25 = .ok (.iconst 1, 1) := by decide +kernel
theorem dX4_request_26 : decode cX4_request 26 = .ok (.iload_n 1, 1) := by decide +kernel
theorem dX4_request_27 : decode cX4_request 27 = .ok (.ishl, 1) := by decide +kernel
theorem dX4_request_28 : decode cX4_request 28 = .ok (.ior, 1) := by decide +kernel
theorem dX4_request_29 : decode cX4_request 29 = .ok (.invokevirtual 31, 3) := by decide +kernel
theorem dX4_request_32 : decode cX4_request 32 = .ok (.iconst 1, 1) := by decide +kernel
theorem dX4_request_33 : decode cX4_request 33 = .ok (.ireturn, 1) := by decide +kernel
theorem dX4_reg_0 : decode cX4_reg 0 = .ok (.aload_n 0, 1) := by decide +kernel
theorem dX4_reg_1 : decode cX4_reg 1 = .ok (.iconst 0, 1) := by decide +kernel
theorem dX4_reg_2 : decode cX4_reg 2 = .ok (.putfield 18, 3) := by decide +kernel
theorem dX4_reg_5 : decode cX4_reg 5 = .ok (.iload_n 1, 1) := by decide +kernel
theorem dX4_reg_6 : decode cX4_reg 6 = .ok (.tableswitch 72 0 5 #[38, 54, 54, 54, 62, 67], 38) := by decide +kernel
theorem dX4_reg_44 : decode cX4_reg 44 = .ok (.aload_n 0, 1) := by decide +kernel
theorem dX4_reg_45 : decode cX4_reg 45 = .ok (.getfield 14, 3) := by decide +kernel
theorem dX4_reg_48 : decode cX4_reg 48 = .ok (.bipush 7, 2) := by decide +kernel
theorem dX4_reg_50 : decode cX4_reg 50 = .ok (.iaload, 1) := by decide +kernel
theorem dX4_reg_51 : decode cX4_reg 51 = .ok (.bipush 8, 2) := by decide +kernel
theorem dX4_reg_53 : decode cX4_reg 53 = .ok (.ishl, 1) := by decide +kernel
theorem dX4_reg_54 : decode cX4_reg 54 = .ok (.aload_n 0, 1) := by decide +kernel
theorem dX4_reg_55 : decode cX4_reg 55 = .ok (.invokevirtual 178, 3) := by decide +kernel
theorem dX4_reg_58 : decode cX4_reg 58 = .ok (.ior, 1) := by decide +kernel
theorem dX4_reg_59 : decode cX4_reg 59 = .ok (.ireturn, 1) := by decide +kernel
theorem dX4_reg_60 : decode cX4_reg 60 = .ok (.aload_n 0, 1) := by decide +kernel
theorem dX4_reg_61 : decode cX4_reg 61 = .ok (.iload_n 1, 1) := by decide +kernel
theorem dX4_reg_62 : decode cX4_reg 62 = .ok (.iconst 1, 1) := by decide +kernel
theorem dX4_reg_63 : decode cX4_reg 63 = .ok (.isub, 1) := by decide +kernel
theorem dX4_reg_64 : decode cX4_reg 64 = .ok (.invokevirtual 141, 3) := by decide +kernel
theorem dX4_reg_67 : decode cX4_reg 67 = .ok (.ireturn, 1) := by decide +kernel
theorem dX4_reg_68 : decode cX4_reg 68 = .ok (.aload_n 0, 1) := by decide +kernel
theorem dX4_reg_69 : decode cX4_reg 69 = .ok (.getfield 48, 3) := by decide +kernel
theorem dX4_reg_72 : decode cX4_reg 72 = .ok (.ireturn, 1) := by decide +kernel
theorem dX4_reg_73 : decode cX4_reg 73 = .ok (.aload_n 0, 1) := by decide +kernel
theorem dX4_reg_74 : decode cX4_reg 74 = .ok (.getfield 38, 3) := by decide +kernel
theorem dX4_reg_77 : decode cX4_reg 77 = .ok (.ireturn, 1) := by decide +kernel
theorem dX4_reg_78 : decode cX4_reg 78 = .ok (.iconst (-1), 1) := by decide +kernel
theorem dX4_reg_79 : decode cX4_reg 79 = .ok (.ireturn, 1) := by decide +kernel
theorem dX4_set_0 : decode cX4_set 0 = .ok (.aload_n 0, 1) := by decide +kernel
theorem dX4_set_1 : decode cX4_set 1 = .ok (.iconst 0, 1) := by decide +kernel
theorem dX4_set_2 : decode cX4_set 2 = .ok (.putfield 18, 3) := by decide +kernel
theorem dX4_set_5 : decode cX4_set 5 = .ok (.iload_n 1, 1) := by decide +kernel
theorem dX4_set_6 : decode cX4_set 6 = .ok (.tableswitch 93 0 5 #[38, 60, 60, 60, 73, 83], 38) := by decide +kernel
theorem dX4_set_44 : decode cX4_set 44 = .ok (.aload_n 0, 1) := by decide +kernel
theorem dX4_set_45 : decode cX4_set 45 = .ok (.getfield 14, 3) := by decide +kernel
theorem dX4_set_48 : decode cX4_set 48 = .ok (.bipush 7, 2) := by decide +kernel
theorem dX4_set_50 : decode cX4_set 50 = .ok (.iload_n 2, 1) := by decide +kernel
theorem dX4_set_51 : decode cX4_set 51 = .ok (.bipush 8, 2) := by decide +kernel
theorem dX4_set_53 : decode cX4_set 53 = .ok (.ishr, 1) := by decide +kernel
theorem dX4_set_54 : decode cX4_set 54 = .ok (.sipush 255, 3) := by decide +kernel
theorem dX4_set_57 : decode cX4_set 57 = .ok (.iand, 1) := by decide +kernel
theorem dX4_set_58 : decode cX4_set 58 = .ok (.iastore, 1) := by decide +kernel
theorem dX4_set_59 : decode cX4_set 59 = .ok (.aload_n 0, 1) := by decide +kernel
theorem dX4_set_60 : decode cX4_set 60 = .ok (.iload_n 2, 1) := by decide +kernel
theorem dX4_set_61 : decode cX4_set 61 = .ok (.invokevirtual 194, 3) := by decide +kernel
theorem dX4_set_64 : decode cX4_set 64 = .ok (.iconst 1, 1) := by decide +kernel
theorem dX4_set_65 : decode cX4_set 65 = .ok (.ireturn, 1) := by decide +kernel
theorem dX4_set_66 : decode cX4_set 66 = .ok (.aload_n 0, 1) := by decide +kernel
theorem dX4_set_67 : decode cX4_set 67 = .ok (.iload_n 1, 1) := by decide +kernel
theorem dX4_set_68 : decode cX4_set 68 = .ok (.iconst 1, 1) := by decide +kernel
theorem dX4_set_69 : decode cX4_set 69 = .ok (.isub, 1) := by decide +kernel
theorem dX4_set_70 : decode cX4_set 70 = .ok (.iload_n 2, 1) := by decide +kernel
theorem dX4_set_71 : decode cX4_set 71 = .ok (.ldc 22, 2) := by decide +kernel
theorem dX4_set_73 : decode cX4_set 73 = .ok (.iand, 1) := by decide +kernel
theorem dX4_set_74 : decode cX4_set 74 = .ok (.invokevirtual 144, 3) := by decide +kernel
theorem dX4_set_77 : decode cX4_set 77 = .ok (.iconst 1, 1) := by decide +kernel
theorem dX4_set_78 : decode cX4_set 78 = .ok (.ireturn, 1) := by decide +kernel
theorem dX4_set_79 : decode cX4_set 79 = .ok (.aload_n 0, 1) := by decide +kernel
theorem dX4_set_80 : decode cX4_set 80 = .ok (.iload_n 2, 1) := by decide +kernel
theorem dX4_set_81 : decode cX4_set 81 = .ok (.ldc 22, 2) := by decide +kernel
theorem dX4_set_83 : decode cX4_set 83 = .ok (.iand, 1) := by decide +kernel
theorem dX4_set_84 : decode cX4_set 84 = .ok (.putfield 48, 3) := by decide +kernel
theorem dX4_set_87 : decode cX4_set 87 = .ok (.iconst 1, 1) := by decide +kernel
theorem dX4_set_88 : decode cX4_set 88 = .ok (.ireturn, 1) := by decide +kernel
theorem dX4_set_89 : decode cX4_set 89 = .ok (.aload_n 0, 1) := by decide +kernel
theorem dX4_set_90 : decode cX4_set 90 = .ok (.iload_n 2, 1) := by decide +kernel
theorem dX4_set_91 : decode cX4_set 91 = .ok (.ldc 22, 2) := by decide +kernel
theorem dX4_set_93 : decode cX4_set 93 = .ok (.iand, 1) := by decide +kernel
theorem dX4_set_94 : decode cX4_set 94 = .ok (.putfield 38, 3) := by decide +kernel
theorem dX4_set_97 : decode cX4_set 97 = .ok (.iconst 1, 1) := by decide +kernel
theorem dX4_set_98 : decode cX4_set 98 = .ok (.ireturn, 1) := by decide +kernel
theorem dX4_set_99 : decode cX4_set 99 = .ok (.iconst 0, 1) := by decide +kernel
theorem dX4_set_100 : decode cX4_set 100 = .ok (.ireturn, 1) := by decide +kernel
theorem dX4_look_0 : decode cX4_look 0 = .ok (.aload_n 0, 1) := by decide +kernel
theorem dX4_look_1 : decode cX4_look 1 = .ok (.iconst 0, 1) := by decide +kernel
theorem dX4_look_2 : decode cX4_look 2 = .ok (.putfield 18, 3) := by decide +kernel
theorem dX4_look_5 : decode cX4_look 5 = .ok (.iload_n 1, 1) := by decide +kernel
theorem dX4_look_6 : decode cX4_look 6 = .ok (.tableswitch 91 0 4 #[34, 47, 60, 73, 86], 34) := by decide +kernel
theorem dX4_look_40 : decode cX4_look 40 = .ok (.aload_n 0, 1) := by decide +kernel
theorem dX4_look_41 : decode cX4_look 41 = .ok (.getfield 104, 3) := by decide +kernel
theorem dX4_look_44 : decode cX4_look 44 = .ok (.ifCond .eq 7, 3) := by decide +kernel
theorem dX4_look_47 : decode cX4_look 47 = .ok (.iconst 1, 1) := by decide +kernel
theorem dX4_look_48 : decode cX4_look 48 = .ok (.goto 4, 3) := by decide +kernel
theorem dX4_look_51 : decode cX4_look 51 = .ok (.iconst 0, 1) := by decide +kernel
theorem dX4_look_52 : decode cX4_look 52 = .ok (.ireturn, 1) := by decide +kernel
theorem dX4_look_53 : decode cX4_look 53 = .ok (.aload_n 0, 1) := by decide +kernel
theorem dX4_look_54 : decode cX4_look 54 = .ok (.getfield 197, 3) := by decide +kernel
theorem dX4_look_57 : decode cX4_look 57 = .ok (.ifCond .eq 7, 3) := by decide +kernel
theorem dX4_look_60 : decode cX4_look 60 = .ok (.iconst 1, 1) := by decide +kernel
theorem dX4_look_61 : decode cX4_look 61 = .ok (.goto 4, 3) := by decide +kernel
theorem dX4_look_64 : decode cX4_look 64 = .ok (.iconst 0, 1) := by decide +kernel
theorem dX4_look_65 : decode cX4_look 65 = .ok (.ireturn, 1) := by decide +kernel
theorem dX4_look_66 : decode cX4_look 66 = .ok (.aload_n 0, 1) := by decide +kernel
theorem dX4_look_67 : decode cX4_look 67 = .ok (.getfield 107, 3) := by decide +kernel
theorem dX4_look_70 : decode cX4_look 70 = .ok (.ifCond .eq 7, 3) := by decide +kernel
theorem dX4_look_73 : decode cX4_look 73 = .ok (.iconst 1, 1) := by decide +kernel
theorem dX4_look_74 : decode cX4_look 74 = .ok (.goto 4, 3) := by decide +kernel
theorem dX4_look_77 : decode cX4_look 77 = .ok (.iconst 0, 1) := by decide +kernel
theorem dX4_look_78 : decode cX4_look 78 = .ok (.ireturn, 1) := by decide +kernel
theorem dX4_look_79 : decode cX4_look 79 = .ok (.aload_n 0, 1) := by decide +kernel
theorem dX4_look_80 : decode cX4_look 80 = .ok (.getfield 81, 3) := by decide +kernel
theorem dX4_look_83 : decode cX4_look 83 = .ok (.ifCond .eq 7, 3) := by decide +kernel
theorem dX4_look_86 : decode cX4_look 86 = .ok (.iconst 1, 1) := by decide +kernel
theorem dX4_look_87 : decode cX4_look 87 = .ok (.goto 4, 3) := by decide +kernel
theorem dX4_look_90 : decode cX4_look 90 = .ok (.iconst 0, 1) := by decide +kernel
theorem dX4_look_91 : decode cX4_look 91 = .ok (.ireturn, 1) := by decide +kernel
theorem dX4_look_92 : decode cX4_look 92 = .ok (.aload_n 0, 1) := by decide +kernel
theorem dX4_look_93 : decode cX4_look 93 = .ok (.getfield 35, 3) := by decide +kernel
theorem dX4_look_96 : decode cX4_look 96 = .ok (.ireturn, 1) := by decide +kernel
theorem dX4_look_97 : decode cX4_look 97 = .ok (.iconst (-1), 1) := by decide +kernel
theorem dX4_look_98 : decode cX4_look 98 = .ok (.ireturn, 1) := by decide +kernel
theorem dX4_mcycles_0 : decode cX4_mcycles 0 = .ok (.aload_n 0, 1) := by decide +kernel
theorem dX4_mcycles_1 : decode cX4_mcycles 1 = .ok (.iconst 0, 1) := by decide +kernel
theorem dX4_mcycles_2 : decode cX4_mcycles 2 = .ok (.putfield 18, 3) := by decide +kernel
theorem dX4_mcycles_5 : decode cX4_mcycles 5 = .ok (.aload_n 0, 1) := by decide +kernel
theorem dX4_mcycles_6 : decode cX4_mcycles 6 = .ok (.getfield 209, 3) := by decide +kernel
theorem dX4_mcycles_9 : decode cX4_mcycles 9 = .ok (.ireturn, 1) := by decide +kernel
theorem dL_law_0 : decode cL_law 0 = .ok (.new 7, 3) := by decide +kernel
theorem dL_law_3 : decode cL_law 3 = .ok (.dup, 1) := by decide +kernel
theorem dL_law_4 : decode cL_law 4 = .ok (.invokespecial 9, 3) := by decide +kernel
theorem dL_law_7 : decode cL_law 7 = .ok (.astore_n 1, 1) := by decide +kernel
theorem dL_law_8 : decode cL_law 8 = .ok (.new 10, 3) := by decide +kernel
theorem dL_law_11 : decode cL_law 11 = .ok (.dup, 1) := by decide +kernel
theorem dL_law_12 : decode cL_law 12 = .ok (.invokespecial 12, 3) := by decide +kernel
theorem dL_law_15 : decode cL_law 15 = .ok (.astore_n 2, 1) := by decide +kernel
theorem dL_law_16 : decode cL_law 16 = .ok (.iconst 0, 1) := by decide +kernel
theorem dL_law_17 : decode cL_law 17 = .ok (.istore_n 3, 1) := by decide +kernel
theorem dL_law_18 : decode cL_law 18 = .ok (.iload_n 3, 1) := by decide +kernel
theorem dL_law_19 : decode cL_law 19 = .ok (.aload_n 0, 1) := by decide +kernel
theorem dL_law_20 : decode cL_law 20 = .ok (.arraylength, 1) := by decide +kernel
theorem dL_law_21 : decode cL_law 21 = .ok (.bipush 6, 2) := by decide +kernel
theorem dL_law_23 : decode cL_law 23 = .ok (.isub, 1) := by decide +kernel
theorem dL_law_24 : decode cL_law 24 = .ok (.if_icmp .gt 340, 3) := by decide +kernel
theorem dL_law_27 : decode cL_law 27 = .ok (.aload_n 0, 1) := by decide +kernel
theorem dL_law_28 : decode cL_law 28 = .ok (.iload_n 3, 1) := by decide +kernel
theorem dL_law_29 : decode cL_law 29 = .ok (.iaload, 1) := by decide +kernel
theorem dL_law_30 : decode cL_law 30 = .ok (.bipush 15, 2) := by decide +kernel
theorem dL_law_32 : decode cL_law 32 = .ok (.iand, 1) := by decide +kernel
theorem dL_law_33 : decode cL_law 33 = .ok (.tableswitch 325 0 9 #[55, 88, 151, 174, 187, 210, 233, 256, 289, 312], 55) := by decide +kernel
theorem dL_law_88 : decode cL_law 88 = .ok (.aload_n 1, 1) := by decide +kernel
theorem dL_law_89 : decode cL_law 89 = .ok (.aload_n 0, 1) := by decide +kernel
theorem dL_law_90 : decode cL_law 90 = .ok (.iload_n 3, 1) := by decide +kernel
theorem dL_law_91 : decode cL_law 91 = .ok (.iconst 1, 1) := by decide +kernel
theorem dL_law_92 : decode cL_law 92 = .ok (.iadd, 1) := by decide +kernel
theorem dL_law_93 : decode cL_law 93 = .ok (.iaload, 1) := by decide +kernel
theorem dL_law_94 : decode cL_law 94 = .ok (.aload_n 0, 1) := by decide +kernel
theorem dL_law_95 : decode cL_law 95 = .ok (.iload_n 3, 1) := by decide +kernel
theorem dL_law_96 : decode cL_law 96 = .ok (.iconst 2, 1) := by decide +kernel
theorem dL_law_97 : decode cL_law 97 = .ok (.iadd, 1) := by decide +kernel
theorem dL_law_98 : decode cL_law 98 = .ok (.iaload, 1) := by decide +kernel
theorem dL_law_99 : decode cL_law 99 = .ok (.invokevirtual 13, 3) := by decide +kernel
theorem dL_law_102 : decode cL_law 102 = .ok (.aload_n 2, 1) := by decide +kernel
theorem dL_law_103 : decode cL_law 103 = .ok (.aload_n 0, 1) := by decide +kernel
theorem dL_law_104 : decode cL_law 104 = .ok (.iload_n 3, 1) := by decide +kernel
theorem dL_law_105 : decode cL_law 105 = .ok (.iconst 1, 1) := by decide +kernel
theorem dL_law_106 : decode cL_law 106 = .ok (.iadd, 1) := by decide +kernel
theorem dL_law_107 : decode cL_law 107 = .ok (.iaload, 1) := by decide +kernel
theorem dL_law_108 : decode cL_law 108 = .ok (.aload_n 0, 1) := by decide +kernel
theorem dL_law_109 : decode cL_law 109 = .ok (.iload_n 3, 1) := by decide +kernel
theorem dL_law_110 : decode cL_law 110 = .ok (.iconst 2, 1) := by decide +kernel
theorem dL_law_111 : decode cL_law 111 = .ok (.iadd, 1) := by decide +kernel
theorem dL_law_112 : decode cL_law 112 = .ok (.iaload, 1) := by decide +kernel
theorem dL_law_113 : decode cL_law 113 = .ok (.invokevirtual 17, 3) := by decide +kernel
theorem dL_law_116 : decode cL_law 116 = .ok (.if_icmp .eq 242, 3) := by decide +kernel
theorem dL_law_119 : decode cL_law 119 = .ok (.iconst 0, 1) := by decide +kernel
theorem dL_law_120 : decode cL_law 120 = .ok (.ireturn, 1) := by decide +kernel
theorem dL_law_121 : decode cL_law 121 = .ok (.aload_n 1, 1) := by decide +kernel
theorem dL_law_122 : decode cL_law 122 = .ok (.aload_n 0, 1) := by decide +kernel
theorem dL_law_123 : decode cL_law 123 = .ok (.iload_n 3, 1) := by decide +kernel
theorem dL_law_124 : decode cL_law 124 = .ok (.iconst 1, 1) := by decide +kernel
theorem dL_law_125 : decode cL_law 125 = .ok (.iadd, 1) := by decide +kernel
theorem dL_law_126 : decode cL_law 126 = .ok (.iaload, 1) := by decide +kernel
theorem dL_law_127 : decode cL_law 127 = .ok (.aload_n 0, 1) := by decide +kernel
theorem dL_law_128 : decode cL_law 128 = .ok (.iload_n 3, 1) := by decide +kernel
theorem dL_law_129 : decode cL_law 129 = .ok (.iconst 2, 1) := by decide +kernel
theorem dL_law_130 : decode cL_law 130 = .ok (.iadd, 1) := by decide +kernel
theorem dL_law_131 : decode cL_law 131 = .ok (.iaload, 1) := by decide +kernel
theorem dL_law_132 : decode cL_law 132 = .ok (.aload_n 0, 1) := by decide +kernel
theorem dL_law_133 : decode cL_law 133 = .ok (.iload_n 3, 1) := by decide +kernel
theorem dL_law_134 : decode cL_law 134 = .ok (.iconst 3, 1) := by decide +kernel
theorem dL_law_135 : decode cL_law 135 = .ok (.iadd, 1) := by decide +kernel
theorem dL_law_136 : decode cL_law 136 = .ok (.iaload, 1) := by decide +kernel
theorem dL_law_137 : decode cL_law 137 = .ok (.aload_n 0, 1) := by decide +kernel
theorem dL_law_138 : decode cL_law 138 = .ok (.iload_n 3, 1) := by decide +kernel
theorem dL_law_139 : decode cL_law 139 = .ok (.iconst 4, 1) := by decide +kernel
theorem dL_law_140 : decode cL_law 140 = .ok (.iadd, 1) := by decide +kernel
theorem dL_law_141 : decode cL_law 141 = .ok (.iaload, 1) := by decide +kernel
theorem dL_law_142 : decode cL_law 142 = .ok (.aload_n 0, 1) := by decide +kernel
theorem dL_law_143 : decode cL_law 143 = .ok (.iload_n 3, 1) := by decide +kernel
theorem dL_law_144 : decode cL_law 144 = .ok (.iconst 5, 1) := by decide +kernel
theorem dL_law_145 : decode cL_law 145 = .ok (.iadd, 1) := by decide +kernel
theorem dL_law_146 : decode cL_law 146 = .ok (.iaload, 1) := by decide +kernel
theorem dL_law_147 : decode cL_law 147 = .ok (.invokevirtual 18, 3) := by decide +kernel
theorem dL_law_150 : decode cL_law 150 = .ok (.aload_n 2, 1) := by decide +kernel
theorem dL_law_151 : decode cL_law 151 = .ok (.aload_n 0, 1) := by decide +kernel
theorem dL_law_152 : decode cL_law 152 = .ok (.iload_n 3, 1) := by decide +kernel
theorem dL_law_153 : decode cL_law 153 = .ok (.iconst 1, 1) := by decide +kernel
theorem dL_law_154 : decode cL_law 154 = .ok (.iadd, 1) := by decide +kernel
theorem dL_law_155 : decode cL_law 155 = .ok (.iaload, 1) := by decide +kernel
theorem dL_law_156 : decode cL_law 156 = .ok (.aload_n 0, 1) := by decide +kernel
theorem dL_law_157 : decode cL_law 157 = .ok (.iload_n 3, 1) := by decide +kernel
theorem dL_law_158 : decode cL_law 158 = .ok (.iconst 2, 1) := by decide +kernel
theorem dL_law_159 : decode cL_law 159 = .ok (.iadd, 1) := by decide +kernel
theorem dL_law_160 : decode cL_law 160 = .ok (.iaload, 1) := by decide +kernel
theorem dL_law_161 : decode cL_law 161 = .ok (.aload_n 0, 1) := by decide +kernel
theorem dL_law_162 : decode cL_law 162 = .ok (.iload_n 3, 1) := by decide +kernel
theorem dL_law_163 : decode cL_law 163 = .ok (.iconst 3, 1) := by decide +kernel
theorem dL_law_164 : decode cL_law 164 = .ok (.iadd, 1) := by decide +kernel
theorem dL_law_165 : decode cL_law 165 = .ok (.iaload, 1) := by decide +kernel
theorem dL_law_166 : decode cL_law 166 = .ok (.aload_n 0, 1) := by decide +kernel
theorem dL_law_167 : decode cL_law 167 = .ok (.iload_n 3, 1) := by decide +kernel
theorem dL_law_168 : decode cL_law 168 = .ok (.iconst 4, 1) := by decide +kernel
theorem dL_law_169 : decode cL_law 169 = .ok (.iadd, 1) := by decide +kernel
theorem dL_law_170 : decode cL_law 170 = .ok (.iaload, 1) := by decide +kernel
theorem dL_law_171 : decode cL_law 171 = .ok (.aload_n 0, 1) := by decide +kernel
theorem dL_law_172 : decode cL_law 172 = .ok (.iload_n 3, 1) := by decide +kernel
theorem dL_law_173 : decode cL_law 173 = .ok (.iconst 5, 1) := by decide +kernel
theorem dL_law_174 : decode cL_law 174 = .ok (.iadd, 1) := by decide +kernel
theorem dL_law_175 : decode cL_law 175 = .ok (.iaload, 1) := by decide +kernel
theorem dL_law_176 : decode cL_law 176 = .ok (.invokevirtual 22, 3) := by decide +kernel
theorem dL_law_179 : decode cL_law 179 = .ok (.if_icmp .eq 179, 3) := by decide +kernel
theorem dL_law_182 : decode cL_law 182 = .ok (.iconst 0, 1) := by decide +kernel
theorem dL_law_183 : decode cL_law 183 = .ok (.ireturn, 1) := by decide +kernel
theorem dL_law_184 : decode cL_law 184 = .ok (.aload_n 1, 1) := by decide +kernel
theorem dL_law_185 : decode cL_law 185 = .ok (.aload_n 0, 1) := by decide +kernel
theorem dL_law_186 : decode cL_law 186 = .ok (.iload_n 3, 1) := by decide +kernel
theorem dL_law_187 : decode cL_law 187 = .ok (.iconst 1, 1) := by decide +kernel
theorem dL_law_188 : decode cL_law 188 = .ok (.iadd, 1) := by decide +kernel
theorem dL_law_189 : decode cL_law 189 = .ok (.iaload, 1) := by decide +kernel
theorem dL_law_190 : decode cL_law 190 = .ok (.invokevirtual 23, 3) := by decide +kernel
theorem dL_law_193 : decode cL_law 193 = .ok (.aload_n 2, 1) := by decide +kernel
theorem dL_law_194 : decode cL_law 194 = .ok (.aload_n 0, 1) := by decide +kernel
theorem dL_law_195 : decode cL_law 195 = .ok (.iload_n 3, 1) := by decide +kernel
theorem dL_law_196 : decode cL_law 196 = .ok (.iconst 1, 1) := by decide +kernel
theorem dL_law_197 : decode cL_law 197 = .ok (.iadd, 1) := by decide +kernel
theorem dL_law_198 : decode cL_law 198 = .ok (.iaload, 1) := by decide +kernel
theorem dL_law_199 : decode cL_law 199 = .ok (.invokevirtual 27, 3) := by decide +kernel
theorem dL_law_202 : decode cL_law 202 = .ok (.if_icmp .eq 156, 3) := by decide +kernel
theorem dL_law_205 : decode cL_law 205 = .ok (.iconst 0, 1) := by decide +kernel
theorem dL_law_206 : decode cL_law 206 = .ok (.ireturn, 1) := by decide +kernel
theorem dL_law_207 : decode cL_law 207 = .ok (.aload_n 1, 1) := by decide +kernel
theorem dL_law_208 : decode cL_law 208 = .ok (.invokevirtual 28, 3) := by decide +kernel
theorem dL_law_211 : decode cL_law 211 = .ok (.aload_n 2, 1) := by decide +kernel
theorem dL_law_212 : decode cL_law 212 = .ok (.invokevirtual 32, 3) := by decide +kernel
theorem dL_law_215 : decode cL_law 215 = .ok (.if_icmp .eq 143, 3) := by decide +kernel
theorem dL_law_218 : decode cL_law 218 = .ok (.iconst 0, 1) := by decide +kernel
theorem dL_law_219 : decode cL_law 219 = .ok (.ireturn, 1) := by decide +kernel
theorem dL_law_220 : decode cL_law 220 = .ok (.aload_n 1, 1) := by decide +kernel
theorem dL_law_221 : decode cL_law 221 = .ok (.aload_n 0, 1) := by decide +kernel
theorem dL_law_222 : decode cL_law 222 = .ok (.iload_n 3, 1) := by decide +kernel
theorem dL_law_223 : decode cL_law 223 = .ok (.iconst 1, 1) := by decide +kernel
theorem dL_law_224 : decode cL_law 224 = .ok (.iadd, 1) := by decide +kernel
theorem dL_law_225 : decode cL_law 225 = .ok (.iaload, 1) := by decide +kernel
theorem dL_law_226 : decode cL_law 226 = .ok (.invokevirtual 33, 3) := by decide +kernel
theorem dL_law_229 : decode cL_law 229 = .ok (.aload_n 2, 1) := by decide +kernel
theorem dL_law_230 : decode cL_law 230 = .ok (.aload_n 0, 1) := by decide +kernel
theorem dL_law_231 : decode cL_law 231 = .ok (.iload_n 3, 1) := by decide +kernel
theorem dL_law_232 : decode cL_law 232 = .ok (.iconst 1, 1) := by decide +kernel
theorem dL_law_233 : decode cL_law 233 = .ok (.iadd, 1) := by decide +kernel
theorem dL_law_234 : decode cL_law 234 = .ok (.iaload, 1) := by decide +kernel
theorem dL_law_235 : decode cL_law 235 = .ok (.invokevirtual 36, 3) := by decide +kernel
theorem dL_law_238 : decode cL_law 238 = .ok (.if_icmp .eq 120, 3) := by decide +kernel
theorem dL_law_241 : decode cL_law 241 = .ok (.iconst 0, 1) := by decide +kernel
theorem dL_law_242 : decode cL_law 242 = .ok (.ireturn, 1) := by decide +kernel
theorem dL_law_243 : decode cL_law 243 = .ok (.aload_n 1, 1) := by decide +kernel
theorem dL_law_244 : decode cL_law 244 = .ok (.aload_n 0, 1) := by decide +kernel
theorem dL_law_245 : decode cL_law 245 = .ok (.iload_n 3, 1) := by decide +kernel
theorem dL_law_246 : decode cL_law 246 = .ok (.iconst 1, 1) := by decide +kernel
theorem dL_law_247 : decode cL_law 247 = .ok (.iadd, 1) := by decide +kernel
theorem dL_law_248 : decode cL_law 248 = .ok (.iaload, 1) := by decide +kernel
theorem dL_law_249 : decode cL_law 249 = .ok (.invokevirtual 37, 3) := by decide +kernel
theorem dL_law_252 : decode cL_law 252 = .ok (.aload_n 2, 1) := by decide +kernel
theorem dL_law_253 : decode cL_law 253 = .ok (.aload_n 0, 1) := by decide +kernel
theorem dL_law_254 : decode cL_law 254 = .ok (.iload_n 3, 1) := by decide +kernel
theorem dL_law_255 : decode cL_law 255 = .ok (.iconst 1, 1) := by decide +kernel
theorem dL_law_256 : decode cL_law 256 = .ok (.iadd, 1) := by decide +kernel
theorem dL_law_257 : decode cL_law 257 = .ok (.iaload, 1) := by decide +kernel
theorem dL_law_258 : decode cL_law 258 = .ok (.invokevirtual 41, 3) := by decide +kernel
theorem dL_law_261 : decode cL_law 261 = .ok (.if_icmp .eq 97, 3) := by decide +kernel
theorem dL_law_264 : decode cL_law 264 = .ok (.iconst 0, 1) := by decide +kernel
theorem dL_law_265 : decode cL_law 265 = .ok (.ireturn, 1) := by decide +kernel
theorem dL_law_266 : decode cL_law 266 = .ok (.aload_n 1, 1) := by decide +kernel
theorem dL_law_267 : decode cL_law 267 = .ok (.aload_n 0, 1) := by decide +kernel
theorem dL_law_268 : decode cL_law 268 = .ok (.iload_n 3, 1) := by decide +kernel
theorem dL_law_269 : decode cL_law 269 = .ok (.iconst 1, 1) := by decide +kernel
theorem dL_law_270 : decode cL_law 270 = .ok (.iadd, 1) := by decide +kernel
theorem dL_law_271 : decode cL_law 271 = .ok (.iaload, 1) := by decide +kernel
theorem dL_law_272 : decode cL_law 272 = .ok (.invokevirtual 42, 3) := by decide +kernel
theorem dL_law_275 : decode cL_law 275 = .ok (.aload_n 2, 1) := by decide +kernel
theorem dL_law_276 : decode cL_law 276 = .ok (.aload_n 0, 1) := by decide +kernel
theorem dL_law_277 : decode cL_law 277 = .ok (.iload_n 3, 1) := by decide +kernel
theorem dL_law_278 : decode cL_law 278 = .ok (.iconst 1, 1) := by decide +kernel
theorem dL_law_279 : decode cL_law 279 = .ok (.iadd, 1) := by decide +kernel
theorem dL_law_280 : decode cL_law 280 = .ok (.iaload, 1) := by decide +kernel
theorem dL_law_281 : decode cL_law 281 = .ok (.invokevirtual 45, 3) := by decide +kernel
theorem dL_law_284 : decode cL_law 284 = .ok (.if_icmp .eq 74, 3) := by decide +kernel
theorem dL_law_287 : decode cL_law 287 = .ok (.iconst 0, 1) := by decide +kernel
theorem dL_law_288 : decode cL_law 288 = .ok (.ireturn, 1) := by decide +kernel
theorem dL_law_289 : decode cL_law 289 = .ok (.aload_n 1, 1) := by decide +kernel
theorem dL_law_290 : decode cL_law 290 = .ok (.aload_n 0, 1) := by decide +kernel
theorem dL_law_291 : decode cL_law 291 = .ok (.iload_n 3, 1) := by decide +kernel
theorem dL_law_292 : decode cL_law 292 = .ok (.iconst 1, 1) := by decide +kernel
theorem dL_law_293 : decode cL_law 293 = .ok (.iadd, 1) := by decide +kernel
theorem dL_law_294 : decode cL_law 294 = .ok (.iaload, 1) := by decide +kernel
theorem dL_law_295 : decode cL_law 295 = .ok (.aload_n 0, 1) := by decide +kernel
theorem dL_law_296 : decode cL_law 296 = .ok (.iload_n 3, 1) := by decide +kernel
theorem dL_law_297 : decode cL_law 297 = .ok (.iconst 2, 1) := by decide +kernel
theorem dL_law_298 : decode cL_law 298 = .ok (.iadd, 1) := by decide +kernel
theorem dL_law_299 : decode cL_law 299 = .ok (.iaload, 1) := by decide +kernel
theorem dL_law_300 : decode cL_law 300 = .ok (.invokevirtual 46, 3) := by decide +kernel
theorem dL_law_303 : decode cL_law 303 = .ok (.aload_n 2, 1) := by decide +kernel
theorem dL_law_304 : decode cL_law 304 = .ok (.aload_n 0, 1) := by decide +kernel
theorem dL_law_305 : decode cL_law 305 = .ok (.iload_n 3, 1) := by decide +kernel
theorem dL_law_306 : decode cL_law 306 = .ok (.iconst 1, 1) := by decide +kernel
theorem dL_law_307 : decode cL_law 307 = .ok (.iadd, 1) := by decide +kernel
theorem dL_law_308 : decode cL_law 308 = .ok (.iaload, 1) := by decide +kernel
theorem dL_law_309 : decode cL_law 309 = .ok (.aload_n 0, 1) := by decide +kernel
theorem dL_law_310 : decode cL_law 310 = .ok (.iload_n 3, 1) := by decide +kernel
theorem dL_law_311 : decode cL_law 311 = .ok (.iconst 2, 1) := by decide +kernel
theorem dL_law_312 : decode cL_law 312 = .ok (.iadd, 1) := by decide +kernel
theorem dL_law_313 : decode cL_law 313 = .ok (.iaload, 1) := by decide +kernel
theorem dL_law_314 : decode cL_law 314 = .ok (.invokevirtual 49, 3) := by decide +kernel
theorem dL_law_317 : decode cL_law 317 = .ok (.if_icmp .eq 41, 3) := by decide +kernel
theorem dL_law_320 : decode cL_law 320 = .ok (.iconst 0, 1) := by decide +kernel
theorem dL_law_321 : decode cL_law 321 = .ok (.ireturn, 1) := by decide +kernel
theorem dL_law_322 : decode cL_law 322 = .ok (.aload_n 1, 1) := by decide +kernel
theorem dL_law_323 : decode cL_law 323 = .ok (.aload_n 0, 1) := by decide +kernel
theorem dL_law_324 : decode cL_law 324 = .ok (.iload_n 3, 1) := by decide +kernel
theorem dL_law_325 : decode cL_law 325 = .ok (.iconst 1, 1) := by decide +kernel
theorem dL_law_326 : decode cL_law 326 = .ok (.iadd, 1) := by decide +kernel
theorem dL_law_327 : decode cL_law 327 = .ok (.iaload, 1) := by decide +kernel
theorem dL_law_328 : decode cL_law 328 = .ok (.invokevirtual 50, 3) := by decide +kernel
theorem dL_law_331 : decode cL_law 331 = .ok (.aload_n 2, 1) := by decide +kernel
theorem dL_law_332 : decode cL_law 332 = .ok (.aload_n 0, 1) := by decide +kernel
theorem dL_law_333 : decode cL_law 333 = .ok (.iload_n 3, 1) := by decide +kernel
theorem dL_law_334 : decode cL_law 334 = .ok (.iconst 1, 1) := by decide +kernel
theorem dL_law_335 : decode cL_law 335 = .ok (.iadd, 1) := by decide +kernel
theorem dL_law_336 : decode cL_law 336 = .ok (.iaload, 1) := by decide +kernel
theorem dL_law_337 : decode cL_law 337 = .ok (.invokevirtual 53, 3) := by decide +kernel
theorem dL_law_340 : decode cL_law 340 = .ok (.if_icmp .eq 18, 3) := by decide +kernel
theorem dL_law_343 : decode cL_law 343 = .ok (.iconst 0, 1) := by decide +kernel
theorem dL_law_344 : decode cL_law 344 = .ok (.ireturn, 1) := by decide +kernel
theorem dL_law_345 : decode cL_law 345 = .ok (.aload_n 1, 1) := by decide +kernel
theorem dL_law_346 : decode cL_law 346 = .ok (.invokevirtual 54, 3) := by decide +kernel
theorem dL_law_349 : decode cL_law 349 = .ok (.aload_n 2, 1) := by decide +kernel
theorem dL_law_350 : decode cL_law 350 = .ok (.invokevirtual 57, 3) := by decide +kernel
theorem dL_law_353 : decode cL_law 353 = .ok (.if_icmp .eq 5, 3) := by decide +kernel
theorem dL_law_356 : decode cL_law 356 = .ok (.iconst 0, 1) := by decide +kernel
theorem dL_law_357 : decode cL_law 357 = .ok (.ireturn, 1) := by decide +kernel
theorem dL_law_358 : decode cL_law 358 = .ok (.iinc 3 6, 3) := by decide +kernel
theorem dL_law_361 : decode cL_law 361 = .ok (.goto (-343), 3) := by decide +kernel
theorem dL_law_364 : decode cL_law 364 = .ok (.iconst 1, 1) := by decide +kernel
theorem dL_law_365 : decode cL_law 365 = .ok (.ireturn, 1) := by decide +kernel
