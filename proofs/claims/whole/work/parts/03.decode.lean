theorem dX0_init_0 : decode cX0_init 0 = .ok (.aload_n 0, 1) := by decide +kernel
theorem dX0_init_1 : decode cX0_init 1 = .ok (.invokespecial 3, 3) := by decide +kernel
theorem dX0_init_4 : decode cX0_init 4 = .ok (.aload_n 0, 1) := by decide +kernel
theorem dX0_init_5 : decode cX0_init 5 = .ok (.iconst 1, 1) := by decide +kernel
theorem dX0_init_6 : decode cX0_init 6 = .ok (.putfield 9, 3) := by decide +kernel
theorem dX0_init_9 : decode cX0_init 9 = .ok (.aload_n 0, 1) := by decide +kernel
theorem dX0_init_10 : decode cX0_init 10 = .ok (.bipush 8, 2) := by decide +kernel
theorem dX0_init_12 : decode cX0_init 12 = .ok (.newarray .int, 2) := by decide +kernel
theorem dX0_init_14 : decode cX0_init 14 = .ok (.putfield 15, 3) := by decide +kernel
theorem dX0_init_17 : decode cX0_init 17 = .ok (.aload_n 0, 1) := by decide +kernel
theorem dX0_init_18 : decode cX0_init 18 = .ok (.bipush 8, 2) := by decide +kernel
theorem dX0_init_20 : decode cX0_init 20 = .ok (.newarray .int, 2) := by decide +kernel
theorem dX0_init_22 : decode cX0_init 22 = .ok (.putfield 19, 3) := by decide +kernel
theorem dX0_init_25 : decode cX0_init 25 = .ok (.aload_n 0, 1) := by decide +kernel
theorem dX0_init_26 : decode cX0_init 26 = .ok (.bipush 8, 2) := by decide +kernel
theorem dX0_init_28 : decode cX0_init 28 = .ok (.newarray .int, 2) := by decide +kernel
theorem dX0_init_30 : decode cX0_init 30 = .ok (.putfield 22, 3) := by decide +kernel
theorem dX0_init_33 : decode cX0_init 33 = .ok (.aload_n 0, 1) := by decide +kernel
theorem dX0_init_34 : decode cX0_init 34 = .ok (.bipush 8, 2) := by decide +kernel
theorem dX0_init_36 : decode cX0_init 36 = .ok (.newarray .int, 2) := by decide +kernel
theorem dX0_init_38 : decode cX0_init 38 = .ok (.putfield 25, 3) := by decide +kernel
theorem dX0_init_41 : decode cX0_init 41 = .ok (.return_, 1) := by decide +kernel
theorem dX0_clear_0 : decode cX0_clear 0 = .ok (.aload_n 0, 1) := by decide +kernel
theorem dX0_clear_1 : decode cX0_clear 1 = .ok (.iconst 0, 1) := by decide +kernel
theorem dX0_clear_2 : decode cX0_clear 2 = .ok (.putfield 28, 3) := by decide +kernel
theorem dX0_clear_5 : decode cX0_clear 5 = .ok (.aload_n 0, 1) := by decide +kernel
theorem dX0_clear_6 : decode cX0_clear 6 = .ok (.iconst 1, 1) := by decide +kernel
theorem dX0_clear_7 : decode cX0_clear 7 = .ok (.putfield 9, 3) := by decide +kernel
theorem dX0_clear_10 : decode cX0_clear 10 = .ok (.aload_n 0, 1) := by decide +kernel
theorem dX0_clear_11 : decode cX0_clear 11 = .ok (.iconst 0, 1) := by decide +kernel
theorem dX0_clear_12 : decode cX0_clear 12 = .ok (.putfield 31, 3) := by decide +kernel
theorem dX0_clear_15 : decode cX0_clear 15 = .ok (.aload_n 0, 1) := by decide +kernel
theorem dX0_clear_16 : decode cX0_clear 16 = .ok (.iconst 0, 1) := by decide +kernel
theorem dX0_clear_17 : decode cX0_clear 17 = .ok (.putfield 34, 3) := by decide +kernel
theorem dX0_clear_20 : decode cX0_clear 20 = .ok (.return_, 1) := by decide +kernel
theorem dX0_hasTown_0 : decode cX0_hasTown 0 = .ok (.iload_n 1, 1) := by decide +kernel
theorem dX0_hasTown_1 : decode cX0_hasTown 1 = .ok (.ifCond .lt 15, 3) := by decide +kernel
theorem dX0_hasTown_4 : decode cX0_hasTown 4 = .ok (.iload_n 1, 1) := by decide +kernel
theorem dX0_hasTown_5 : decode cX0_hasTown 5 = .ok (.aload_n 0, 1) := by decide +kernel
theorem dX0_hasTown_6 : decode cX0_hasTown 6 = .ok (.getfield 9, 3) := by decide +kernel
theorem dX0_hasTown_9 : decode cX0_hasTown 9 = .ok (.if_icmp .ge 7, 3) := by decide +kernel
theorem dX0_hasTown_12 : decode cX0_hasTown 12 = .ok (.iconst 1, 1) := by decide +kernel
theorem dX0_hasTown_13 : decode cX0_hasTown 13 = .ok (.goto 4, 3) := by decide +kernel
theorem dX0_hasTown_16 : decode cX0_hasTown 16 = .ok (.iconst 0, 1) := by decide +kernel
theorem dX0_hasTown_17 : decode cX0_hasTown 17 = .ok (.ireturn, 1) := by decide +kernel
theorem dX0_hasPerson_0 : decode cX0_hasPerson 0 = .ok (.iload_n 1, 1) := by decide +kernel
theorem dX0_hasPerson_1 : decode cX0_hasPerson 1 = .ok (.ifCond .lt 15, 3) := by decide +kernel
theorem dX0_hasPerson_4 : decode cX0_hasPerson 4 = .ok (.iload_n 1, 1) := by decide +kernel
theorem dX0_hasPerson_5 : decode cX0_hasPerson 5 = .ok (.aload_n 0, 1) := by decide +kernel
theorem dX0_hasPerson_6 : decode cX0_hasPerson 6 = .ok (.getfield 31, 3) := by decide +kernel
theorem dX0_hasPerson_9 : decode cX0_hasPerson 9 = .ok (.if_icmp .ge 7, 3) := by decide +kernel
theorem dX0_hasPerson_12 : decode cX0_hasPerson 12 = .ok (.iconst 1, 1) := by decide +kernel
theorem dX0_hasPerson_13 : decode cX0_hasPerson 13 = .ok (.goto 4, 3) := by decide +kernel
theorem dX0_hasPerson_16 : decode cX0_hasPerson 16 = .ok (.iconst 0, 1) := by decide +kernel
theorem dX0_hasPerson_17 : decode cX0_hasPerson 17 = .ok (.ireturn, 1) := by decide +kernel
theorem dX0_mayAddPair_0 : decode cX0_mayAddPair 0 = .ok (.aload_n 0, 1) := by decide +kernel
theorem dX0_mayAddPair_1 : decode cX0_mayAddPair 1 = .ok (.getfield 34, 3) := by decide +kernel
theorem dX0_mayAddPair_4 : decode cX0_mayAddPair 4 = .ok (.bipush 12, 2) := by decide +kernel
theorem dX0_mayAddPair_6 : decode cX0_mayAddPair 6 = .ok (.if_icmp .ge 25, 3) := by decide +kernel
theorem dX0_mayAddPair_9 : decode cX0_mayAddPair 9 = .ok (.aload_n 0, 1) := by decide +kernel
theorem dX0_mayAddPair_10 : decode cX0_mayAddPair 10 = .ok (.getfield 34, 3) := by decide +kernel
theorem dX0_mayAddPair_13 : decode cX0_mayAddPair 13 = .ok (.aload_n 0, 1) := by decide +kernel
theorem dX0_mayAddPair_14 : decode cX0_mayAddPair 14 = .ok (.getfield 31, 3) := by decide +kernel
theorem dX0_mayAddPair_17 : decode cX0_mayAddPair 17 = .ok (.aload_n 0, 1) := by decide +kernel
theorem dX0_mayAddPair_18 : decode cX0_mayAddPair 18 = .ok (.getfield 31, 3) := by decide +kernel
theorem dX0_mayAddPair_21 : decode cX0_mayAddPair 21 = .ok (.iconst 1, 1) := by decide +kernel
theorem dX0_mayAddPair_22 : decode cX0_mayAddPair 22 = .ok (.isub, 1) := by decide +kernel
theorem dX0_mayAddPair_23 : decode cX0_mayAddPair 23 = .ok (.imul, 1) := by decide +kernel
theorem dX0_mayAddPair_24 : decode cX0_mayAddPair 24 = .ok (.if_icmp .ge 7, 3) := by decide +kernel
theorem dX0_mayAddPair_27 : decode cX0_mayAddPair 27 = .ok (.iconst 1, 1) := by decide +kernel
theorem dX0_mayAddPair_28 : decode cX0_mayAddPair 28 = .ok (.goto 4, 3) := by decide +kernel
theorem dX0_mayAddPair_31 : decode cX0_mayAddPair 31 = .ok (.iconst 0, 1) := by decide +kernel
theorem dX0_mayAddPair_32 : decode cX0_mayAddPair 32 = .ok (.ireturn, 1) := by decide +kernel
theorem dX0_mayAskMore_0 : decode cX0_mayAskMore 0 = .ok (.aload_n 0, 1) := by decide +kernel
theorem dX0_mayAskMore_1 : decode cX0_mayAskMore 1 = .ok (.iload_n 1, 1) := by decide +kernel
theorem dX0_mayAskMore_2 : decode cX0_mayAskMore 2 = .ok (.invokevirtual 37, 3) := by decide +kernel
theorem dX0_mayAskMore_5 : decode cX0_mayAskMore 5 = .ok (.ifCond .eq 25, 3) := by decide +kernel
theorem dX0_mayAskMore_8 : decode cX0_mayAskMore 8 = .ok (.aload_n 0, 1) := by decide +kernel
theorem dX0_mayAskMore_9 : decode cX0_mayAskMore 9 = .ok (.getfield 25, 3) := by decide +kernel
theorem dX0_mayAskMore_12 : decode cX0_mayAskMore 12 = .ok (.iload_n 1, 1) := by decide +kernel
theorem dX0_mayAskMore_13 : decode cX0_mayAskMore 13 = .ok (.iaload, 1) := by decide +kernel
theorem dX0_mayAskMore_14 : decode cX0_mayAskMore 14 = .ok (.invokestatic 41, 3) := by decide +kernel
theorem dX0_mayAskMore_17 : decode cX0_mayAskMore 17 = .ok (.aload_n 0, 1) := by decide +kernel
theorem dX0_mayAskMore_18 : decode cX0_mayAskMore 18 = .ok (.getfield 31, 3) := by decide +kernel
theorem dX0_mayAskMore_21 : decode cX0_mayAskMore 21 = .ok (.iconst 1, 1) := by decide +kernel
theorem dX0_mayAskMore_22 : decode cX0_mayAskMore 22 = .ok (.isub, 1) := by decide +kernel
theorem dX0_mayAskMore_23 : decode cX0_mayAskMore 23 = .ok (.if_icmp .ge 7, 3) := by decide +kernel
theorem dX0_mayAskMore_26 : decode cX0_mayAskMore 26 = .ok (.iconst 1, 1) := by decide +kernel
theorem dX0_mayAskMore_27 : decode cX0_mayAskMore 27 = .ok (.goto 4, 3) := by decide +kernel
theorem dX0_mayAskMore_30 : decode cX0_mayAskMore 30 = .ok (.iconst 0, 1) := by decide +kernel
theorem dX0_mayAskMore_31 : decode cX0_mayAskMore 31 = .ok (.ireturn, 1) := by decide +kernel
theorem dX0_mayAsk_0 : decode cX0_mayAsk 0 = .ok (.aload_n 0, 1) := by decide +kernel
theorem dX0_mayAsk_1 : decode cX0_mayAsk 1 = .ok (.iload_n 1, 1) := by decide +kernel
theorem dX0_mayAsk_2 : decode cX0_mayAsk 2 = .ok (.invokevirtual 37, 3) := by decide +kernel
theorem dX0_mayAsk_5 : decode cX0_mayAsk 5 = .ok (.ifCond .eq 33, 3) := by decide +kernel
theorem dX0_mayAsk_8 : decode cX0_mayAsk 8 = .ok (.aload_n 0, 1) := by decide +kernel
theorem dX0_mayAsk_9 : decode cX0_mayAsk 9 = .ok (.iload_n 2, 1) := by decide +kernel
theorem dX0_mayAsk_10 : decode cX0_mayAsk 10 = .ok (.invokevirtual 37, 3) := by decide +kernel
theorem dX0_mayAsk_13 : decode cX0_mayAsk 13 = .ok (.ifCond .eq 25, 3) := by decide +kernel
theorem dX0_mayAsk_16 : decode cX0_mayAsk 16 = .ok (.iload_n 1, 1) := by decide +kernel
theorem dX0_mayAsk_17 : decode cX0_mayAsk 17 = .ok (.iload_n 2, 1) := by decide +kernel
theorem dX0_mayAsk_18 : decode cX0_mayAsk 18 = .ok (.if_icmp .eq 20, 3) := by decide +kernel
theorem dX0_mayAsk_21 : decode cX0_mayAsk 21 = .ok (.aload_n 0, 1) := by decide +kernel
theorem dX0_mayAsk_22 : decode cX0_mayAsk 22 = .ok (.getfield 25, 3) := by decide +kernel
theorem dX0_mayAsk_25 : decode cX0_mayAsk 25 = .ok (.iload_n 1, 1) := by decide +kernel
theorem dX0_mayAsk_26 : decode cX0_mayAsk 26 = .ok (.iaload, 1) := by decide +kernel
theorem dX0_mayAsk_27 : decode cX0_mayAsk 27 = .ok (.iload_n 2, 1) := by decide +kernel
theorem dX0_mayAsk_28 : decode cX0_mayAsk 28 = .ok (.invokestatic 47, 3) := by decide +kernel
theorem dX0_mayAsk_31 : decode cX0_mayAsk 31 = .ok (.ifCond .ne 7, 3) := by decide +kernel
theorem dX0_mayAsk_34 : decode cX0_mayAsk 34 = .ok (.iconst 1, 1) := by decide +kernel
theorem dX0_mayAsk_35 : decode cX0_mayAsk 35 = .ok (.goto 4, 3) := by decide +kernel
theorem dX0_mayAsk_38 : decode cX0_mayAsk 38 = .ok (.iconst 0, 1) := by decide +kernel
theorem dX0_mayAsk_39 : decode cX0_mayAsk 39 = .ok (.ireturn, 1) := by decide +kernel
theorem dX0_ofHome_0 : decode cX0_ofHome 0 = .ok (.iconst 0, 1) := by decide +kernel
theorem dX0_ofHome_1 : decode cX0_ofHome 1 = .ok (.istore_n 2, 1) := by decide +kernel
theorem dX0_ofHome_2 : decode cX0_ofHome 2 = .ok (.iconst 0, 1) := by decide +kernel
theorem dX0_ofHome_3 : decode cX0_ofHome 3 = .ok (.istore_n 3, 1) := by decide +kernel
theorem dX0_ofHome_4 : decode cX0_ofHome 4 = .ok (.iload_n 3, 1) := by decide +kernel
theorem dX0_ofHome_5 : decode cX0_ofHome 5 = .ok (.aload_n 0, 1) := by decide +kernel
theorem dX0_ofHome_6 : decode cX0_ofHome 6 = .ok (.getfield 31, 3) := by decide +kernel
theorem dX0_ofHome_9 : decode cX0_ofHome 9 = .ok (.if_icmp .ge 25, 3) := by decide +kernel
theorem dX0_ofHome_12 : decode cX0_ofHome 12 = .ok (.aload_n 0, 1) := by decide +kernel
theorem dX0_ofHome_13 : decode cX0_ofHome 13 = .ok (.getfield 15, 3) := by decide +kernel
theorem dX0_ofHome_16 : decode cX0_ofHome 16 = .ok (.iload_n 3, 1) := by decide +kernel
theorem dX0_ofHome_17 : decode cX0_ofHome 17 = .ok (.iaload, 1) := by decide +kernel
theorem dX0_ofHome_18 : decode cX0_ofHome 18 = .ok (.iload_n 1, 1) := by decide +kernel
theorem dX0_ofHome_19 : decode cX0_ofHome 19 = .ok (.if_icmp .ne 9, 3) := by decide +kernel
theorem dX0_ofHome_22 : decode cX0_ofHome 22 = .ok (.iload_n 2, 1) := by decide +kernel
theorem dX0_ofHome_23 : decode cX0_ofHome 23 = .ok (.iconst 1, 1) := by decide +kernel
theorem dX0_ofHome_24 : decode cX0_ofHome 24 = .ok (.iload_n 3, 1) := by decide +kernel
theorem dX0_ofHome_25 : decode cX0_ofHome 25 = .ok (.ishl, 1) := by decide +kernel
theorem dX0_ofHome_26 : decode cX0_ofHome 26 = .ok (.ior, 1) := by decide +kernel
theorem dX0_ofHome_27 : decode cX0_ofHome 27 = .ok (.istore_n 2, 1) := by decide +kernel
theorem dX0_ofHome_28 : decode cX0_ofHome 28 = .ok (.iinc 3 1, 3) := by decide +kernel
theorem dX0_ofHome_31 : decode cX0_ofHome 31 = .ok (.goto (-27), 3) := by decide +kernel
theorem dX0_ofHome_34 : decode cX0_ofHome 34 = .ok (.iload_n 2, 1) := by decide +kernel
theorem dX0_ofHome_35 : decode cX0_ofHome 35 = .ok (.ireturn, 1) := by decide +kernel
theorem dX0_namesOf_0 : decode cX0_namesOf 0 = .ok (.iconst 0, 1) := by decide +kernel
theorem dX0_namesOf_1 : decode cX0_namesOf 1 = .ok (.istore_n 2, 1) := by decide +kernel
theorem dX0_namesOf_2 : decode cX0_namesOf 2 = .ok (.iconst 0, 1) := by decide +kernel
theorem dX0_namesOf_3 : decode cX0_namesOf 3 = .ok (.istore_n 3, 1) := by decide +kernel
theorem dX0_namesOf_4 : decode cX0_namesOf 4 = .ok (.iload_n 3, 1) := by decide +kernel
theorem dX0_namesOf_5 : decode cX0_namesOf 5 = .ok (.aload_n 0, 1) := by decide +kernel
theorem dX0_namesOf_6 : decode cX0_namesOf 6 = .ok (.getfield 31, 3) := by decide +kernel
theorem dX0_namesOf_9 : decode cX0_namesOf 9 = .ok (.if_icmp .ge 28, 3) := by decide +kernel
theorem dX0_namesOf_12 : decode cX0_namesOf 12 = .ok (.iload_n 1, 1) := by decide +kernel
theorem dX0_namesOf_13 : decode cX0_namesOf 13 = .ok (.iload_n 3, 1) := by decide +kernel
theorem dX0_namesOf_14 : decode cX0_namesOf 14 = .ok (.invokestatic 47, 3) := by decide +kernel
theorem dX0_namesOf_17 : decode cX0_namesOf 17 = .ok (.ifCond .eq 14, 3) := by decide +kernel
theorem dX0_namesOf_20 : decode cX0_namesOf 20 = .ok (.iload_n 2, 1) := by decide +kernel
theorem dX0_namesOf_21 : decode cX0_namesOf 21 = .ok (.iconst 1, 1) := by decide +kernel
theorem dX0_namesOf_22 : decode cX0_namesOf 22 = .ok (.aload_n 0, 1) := by decide +kernel
theorem dX0_namesOf_23 : decode cX0_namesOf 23 = .ok (.getfield 19, 3) := by decide +kernel
theorem dX0_namesOf_26 : decode cX0_namesOf 26 = .ok (.iload_n 3, 1) := by decide +kernel
theorem dX0_namesOf_27 : decode cX0_namesOf 27 = .ok (.iaload, 1) := by decide +kernel
theorem dX0_namesOf_28 : decode cX0_namesOf 28 = .ok (.ishl, 1) := by decide +kernel
theorem dX0_namesOf_29 : decode cX0_namesOf 29 = .ok (.ior, 1) := by decide +kernel
theorem dX0_namesOf_30 : decode cX0_namesOf 30 = .ok (.istore_n 2, 1) := by decide +kernel
theorem dX0_namesOf_31 : decode cX0_namesOf 31 = .ok (.iinc 3 1, 3) := by decide +kernel
theorem dX0_namesOf_34 : decode cX0_namesOf 34 = .ok (.goto (-30), 3) := by decide +kernel
theorem dX0_namesOf_37 : decode cX0_namesOf 37 = .ok (.iload_n 2, 1) := by decide +kernel
theorem dX0_namesOf_38 : decode cX0_namesOf 38 = .ok (.ireturn, 1) := by decide +kernel
theorem dX1_init_0 : decode cX1_init 0 = .ok (.aload_n 0, 1) := by decide +kernel
theorem dX1_init_1 : decode cX1_init 1 = .ok (.invokespecial 3, 3) := by decide +kernel
theorem dX1_init_4 : decode cX1_init 4 = .ok (.aload_n 0, 1) := by decide +kernel
theorem dX1_init_5 : decode cX1_init 5 = .ok (.bipush 16, 2) := by decide +kernel
theorem dX1_init_7 : decode cX1_init 7 = .ok (.anewarray 9, 3) := by decide +kernel
theorem dX1_init_10 : decode cX1_init 10 = .ok (.putfield 11, 3) := by decide +kernel
theorem dX1_init_13 : decode cX1_init 13 = .ok (.iconst 0, 1) := by decide +kernel
theorem dX1_init_14 : decode cX1_init 14 = .ok (.istore_n 1, 1) := by decide +kernel
theorem dX1_init_15 : decode cX1_init 15 = .ok (.iload_n 1, 1) := by decide +kernel
theorem dX1_init_16 : decode cX1_init 16 = .ok (.bipush 16, 2) := by decide +kernel
theorem dX1_init_18 : decode cX1_init 18 = .ok (.if_icmp .ge 22, 3) := by decide +kernel
theorem dX1_init_21 : decode cX1_init 21 = .ok (.aload_n 0, 1) := by decide +kernel
theorem dX1_init_22 : decode cX1_init 22 = .ok (.getfield 11, 3) := by decide +kernel
theorem dX1_init_25 : decode cX1_init 25 = .ok (.iload_n 1, 1) := by decide +kernel
theorem dX1_init_26 : decode cX1_init 26 = .ok (.new 9, 3) := by decide +kernel
theorem dX1_init_29 : decode cX1_init 29 = .ok (.dup, 1) := by decide +kernel
theorem dX1_init_30 : decode cX1_init 30 = .ok (.invokespecial 17, 3) := by decide +kernel
theorem dX1_init_33 : decode cX1_init 33 = .ok (.aastore, 1) := by decide +kernel
theorem dX1_init_34 : decode cX1_init 34 = .ok (.iinc 1 1, 3) := by decide +kernel
theorem dX1_init_37 : decode cX1_init 37 = .ok (.goto (-22), 3) := by decide +kernel
theorem dX1_init_40 : decode cX1_init 40 = .ok (.return_, 1) := by decide +kernel
theorem dX1_size_0 : decode cX1_size 0 = .ok (.aload_n 0, 1) := by decide +kernel
theorem dX1_size_1 : decode cX1_size 1 = .ok (.getfield 18, 3) := by decide +kernel
theorem dX1_size_4 : decode cX1_size 4 = .ok (.ireturn, 1) := by decide +kernel
theorem dX1_clear_0 : decode cX1_clear 0 = .ok (.aload_n 0, 1) := by decide +kernel
theorem dX1_clear_1 : decode cX1_clear 1 = .ok (.iconst 0, 1) := by decide +kernel
theorem dX1_clear_2 : decode cX1_clear 2 = .ok (.putfield 18, 3) := by decide +kernel
theorem dX1_clear_5 : decode cX1_clear 5 = .ok (.return_, 1) := by decide +kernel
theorem dX1_remember_0 : decode cX1_remember 0 = .ok (.aload_n 0, 1) := by decide +kernel
theorem dX1_remember_1 : decode cX1_remember 1 = .ok (.getfield 18, 3) := by decide +kernel
theorem dX1_remember_4 : decode cX1_remember 4 = .ok (.bipush 16, 2) := by decide +kernel
theorem dX1_remember_6 : decode cX1_remember 6 = .ok (.if_icmp .ne 26, 3) := by decide +kernel
theorem dX1_remember_9 : decode cX1_remember 9 = .ok (.aload_n 0, 1) := by decide +kernel
theorem dX1_remember_10 : decode cX1_remember 10 = .ok (.aload_n 0, 1) := by decide +kernel
theorem dX1_remember_11 : decode cX1_remember 11 = .ok (.getfield 22, 3) := by decide +kernel
theorem dX1_remember_14 : decode cX1_remember 14 = .ok (.iconst 1, 1) := by decide +kernel
theorem dX1_remember_15 : decode cX1_remember 15 = .ok (.iadd, 1) := by decide +kernel
theorem dX1_remember_16 : decode cX1_remember 16 = .ok (.bipush 16, 2) := by decide +kernel
theorem dX1_remember_18 : decode cX1_remember 18 = .ok (.irem, 1) := by decide +kernel
theorem dX1_remember_19 : decode cX1_remember 19 = .ok (.putfield 22, 3) := by decide +kernel
theorem dX1_remember_22 : decode cX1_remember 22 = .ok (.aload_n 0, 1) := by decide +kernel
theorem dX1_remember_23 : decode cX1_remember 23 = .ok (.dup, 1) := by decide +kernel
theorem dX1_remember_24 : decode cX1_remember 24 = .ok (.getfield 18, 3) := by decide +kernel
theorem dX1_remember_27 : decode cX1_remember 27 = .ok (.iconst 1, 1) := by decide +kernel
theorem dX1_remember_28 : decode cX1_remember 28 = .ok (.isub, 1) := by decide +kernel
theorem dX1_remember_29 : decode cX1_remember 29 = .ok (.putfield 18, 3) := by decide +kernel
theorem dX1_remember_32 : decode cX1_remember 32 = .ok (.aload_n 0, 1) := by decide +kernel
theorem dX1_remember_33 : decode cX1_remember 33 = .ok (.getfield 11, 3) := by decide +kernel
theorem dX1_remember_36 : decode cX1_remember 36 = .ok (.aload_n 0, 1) := by decide +kernel
theorem dX1_remember_37 : decode cX1_remember 37 = .ok (.getfield 22, 3) := by decide +kernel
theorem dX1_remember_40 : decode cX1_remember 40 = .ok (.aload_n 0, 1) := by decide +kernel
theorem dX1_remember_41 : decode cX1_remember 41 = .ok (.getfield 18, 3) := by decide +kernel
theorem dX1_remember_44 : decode cX1_remember 44 = .ok (.iadd, 1) := by decide +kernel
theorem dX1_remember_45 : decode cX1_remember 45 = .ok (.bipush 16, 2) := by decide +kernel
theorem dX1_remember_47 : decode cX1_remember 47 = .ok (.irem, 1) := by decide +kernel
theorem dX1_remember_48 : decode cX1_remember 48 = .ok (.aaload, 1) := by decide +kernel
theorem dX1_remember_49 : decode cX1_remember 49 = .ok (.aload_n 1, 1) := by decide +kernel
theorem dX1_remember_50 : decode cX1_remember 50 = .ok (.invokevirtual 25, 3) := by decide +kernel
theorem dX1_remember_53 : decode cX1_remember 53 = .ok (.aload_n 0, 1) := by decide +kernel
theorem dX1_remember_54 : decode cX1_remember 54 = .ok (.dup, 1) := by decide +kernel
theorem dX1_remember_55 : decode cX1_remember 55 = .ok (.getfield 18, 3) := by decide +kernel
theorem dX1_remember_58 : decode cX1_remember 58 = .ok (.iconst 1, 1) := by decide +kernel
theorem dX1_remember_59 : decode cX1_remember 59 = .ok (.iadd, 1) := by decide +kernel
theorem dX1_remember_60 : decode cX1_remember 60 = .ok (.putfield 18, 3) := by decide +kernel
theorem dX1_remember_63 : decode cX1_remember 63 = .ok (.return_, 1) := by decide +kernel
theorem dX1_bringBack_0 : decode cX1_bringBack 0 = .ok (.aload_n 0, 1) := by decide +kernel
theorem dX1_bringBack_1 : decode cX1_bringBack 1 = .ok (.getfield 18, 3) := by decide +kernel
theorem dX1_bringBack_4 : decode cX1_bringBack 4 = .ok (.ifCond .le 34, 3) := by decide +kernel
theorem dX1_bringBack_7 : decode cX1_bringBack 7 = .ok (.aload_n 0, 1) := by decide +kernel
theorem dX1_bringBack_8 : decode cX1_bringBack 8 = .ok (.dup, 1) := by decide +kernel
theorem dX1_bringBack_9 : decode cX1_bringBack 9 = .ok (.getfield 18, 3) := by decide +kernel
theorem dX1_bringBack_12 : decode cX1_bringBack 12 = .ok (.iconst 1, 1) := by decide +kernel
theorem dX1_bringBack_13 : decode cX1_bringBack 13 = .ok (.isub, 1) := by decide +kernel
theorem dX1_bringBack_14 : decode cX1_bringBack 14 = .ok (.putfield 18, 3) := by decide +kernel
theorem dX1_bringBack_17 : decode cX1_bringBack 17 = .ok (.aload_n 1, 1) := by decide +kernel
theorem dX1_bringBack_18 : decode cX1_bringBack 18 = .ok (.aload_n 0, 1) := by decide +kernel
theorem dX1_bringBack_19 : decode cX1_bringBack 19 = .ok (.getfield 11, 3) := by decide +kernel
theorem dX1_bringBack_22 : decode cX1_bringBack 22 = .ok (.aload_n 0, 1) := by decide +kernel
theorem dX1_bringBack_23 : decode cX1_bringBack 23 = .ok (.getfield 22, 3) := by decide +kernel
theorem dX1_bringBack_26 : decode cX1_bringBack 26 = .ok (.aload_n 0, 1) := by decide +kernel
theorem dX1_bringBack_27 : decode cX1_bringBack 27 = .ok (.getfield 18, 3) := by decide +kernel
theorem dX1_bringBack_30 : decode cX1_bringBack 30 = .ok (.iadd, 1) := by decide +kernel
theorem dX1_bringBack_31 : decode cX1_bringBack 31 = .ok (.bipush 16, 2) := by decide +kernel
theorem dX1_bringBack_33 : decode cX1_bringBack 33 = .ok (.irem, 1) := by decide +kernel
theorem dX1_bringBack_34 : decode cX1_bringBack 34 = .ok (.aaload, 1) := by decide +kernel
theorem dX1_bringBack_35 : decode cX1_bringBack 35 = .ok (.invokevirtual 25, 3) := by decide +kernel
theorem dX1_bringBack_38 : decode cX1_bringBack 38 = .ok (.return_, 1) := by decide +kernel
theorem dX2_init_0 : decode cX2_init 0 = .ok (.aload_n 0, 1) := by decide +kernel
theorem dX2_init_1 : decode cX2_init 1 = .ok (.invokespecial 3, 3) := by decide +kernel
theorem dX2_init_4 : decode cX2_init 4 = .ok (.return_, 1) := by decide +kernel
theorem dX2_faultOf_0 : decode cX2_faultOf 0 = .ok (.aload_n 2, 1) := by decide +kernel
theorem dX2_faultOf_1 : decode cX2_faultOf 1 = .ok (.invokevirtual 9, 3) := by decide +kernel
theorem dX2_faultOf_4 : decode cX2_faultOf 4 = .ok (.aload_n 0, 1) := by decide +kernel
theorem dX2_faultOf_5 : decode cX2_faultOf 5 = .ok (.iconst 0, 1) := by decide +kernel
theorem dX2_faultOf_6 : decode cX2_faultOf 6 = .ok (.putfield 16, 3) := by decide +kernel
theorem dX2_faultOf_9 : decode cX2_faultOf 9 = .ok (.iconst 0, 1) := by decide +kernel
theorem dX2_faultOf_10 : decode cX2_faultOf 10 = .ok (.istore_n 3, 1) := by decide +kernel
theorem dX2_faultOf_11 : decode cX2_faultOf 11 = .ok (.iload_n 3, 1) := by decide +kernel
theorem dX2_faultOf_12 : decode cX2_faultOf 12 = .ok (.aload_n 1, 1) := by decide +kernel
theorem dX2_faultOf_13 : decode cX2_faultOf 13 = .ok (.invokevirtual 20, 3) := by decide +kernel
theorem dX2_faultOf_16 : decode cX2_faultOf 16 = .ok (.if_icmp .ge 24, 3) := by decide +kernel
theorem dX2_faultOf_19 : decode cX2_faultOf 19 = .ok (.aload_n 0, 1) := by decide +kernel
theorem dX2_faultOf_20 : decode cX2_faultOf 20 = .ok (.aload_n 1, 1) := by decide +kernel
theorem dX2_faultOf_21 : decode cX2_faultOf 21 = .ok (.iload_n 3, 1) := by decide +kernel
theorem dX2_faultOf_22 : decode cX2_faultOf 22 = .ok (.invokevirtual 26, 3) := by decide +kernel
theorem dX2_faultOf_25 : decode cX2_faultOf 25 = .ok (.aload_n 2, 1) := by decide +kernel
theorem dX2_faultOf_26 : decode cX2_faultOf 26 = .ok (.invokevirtual 30, 3) := by decide +kernel
theorem dX2_faultOf_29 : decode cX2_faultOf 29 = .ok (.ifCond .ne 5, 3) := by decide +kernel
theorem dX2_faultOf_32 : decode cX2_faultOf 32 = .ok (.iload_n 3, 1) := by decide +kernel
theorem dX2_faultOf_33 : decode cX2_faultOf 33 = .ok (.ireturn, 1) := by decide +kernel
theorem dX2_faultOf_34 : decode cX2_faultOf 34 = .ok (.iinc 3 1, 3) := by decide +kernel
theorem dX2_faultOf_37 : decode cX2_faultOf 37 = .ok (.goto (-26), 3) := by decide +kernel
theorem dX2_faultOf_40 : decode cX2_faultOf 40 = .ok (.aload_n 0, 1) := by decide +kernel
theorem dX2_faultOf_41 : decode cX2_faultOf 41 = .ok (.getfield 16, 3) := by decide +kernel
theorem dX2_faultOf_44 : decode cX2_faultOf 44 = .ok (.iconst 3, 1) := by decide +kernel
theorem dX2_faultOf_45 : decode cX2_faultOf 45 = .ok (.if_icmp .ne 8, 3) := by decide +kernel
theorem dX2_faultOf_48 : decode cX2_faultOf 48 = .ok (.bipush (-9), 2) := by decide +kernel
theorem dX2_faultOf_50 : decode cX2_faultOf 50 = .ok (.goto 7, 3) := by decide +kernel
theorem dX2_faultOf_53 : decode cX2_faultOf 53 = .ok (.aload_n 1, 1) := by decide +kernel
theorem dX2_faultOf_54 : decode cX2_faultOf 54 = .ok (.invokevirtual 20, 3) := by decide +kernel
theorem dX2_faultOf_57 : decode cX2_faultOf 57 = .ok (.ireturn, 1) := by decide +kernel
theorem dX2_takes_0 : decode cX2_takes 0 = .ok (.aload_n 0, 1) := by decide +kernel
theorem dX2_takes_1 : decode cX2_takes 1 = .ok (.getfield 16, 3) := by decide +kernel
theorem dX2_takes_4 : decode cX2_takes 4 = .ok (.tableswitch 144 0 6 #[44, 61, 95, 130, 137, 137, 137], 44) := by decide +kernel
theorem dX2_takes_48 : decode cX2_takes 48 = .ok (.aload_n 0, 1) := by decide +kernel
theorem dX2_takes_49 : decode cX2_takes 49 = .ok (.iconst 1, 1) := by decide +kernel
theorem dX2_takes_50 : decode cX2_takes 50 = .ok (.putfield 16, 3) := by decide +kernel
theorem dX2_takes_53 : decode cX2_takes 53 = .ok (.iload_n 1, 1) := by decide +kernel
theorem dX2_takes_54 : decode cX2_takes 54 = .ok (.bipush 90, 2) := by decide +kernel
theorem dX2_takes_56 : decode cX2_takes 56 = .ok (.if_icmp .ne 7, 3) := by decide +kernel
theorem dX2_takes_59 : decode cX2_takes 59 = .ok (.iconst 1, 1) := by decide +kernel
theorem dX2_takes_60 : decode cX2_takes 60 = .ok (.goto 4, 3) := by decide +kernel
theorem dX2_takes_63 : decode cX2_takes 63 = .ok (.iconst 0, 1) := by decide +kernel
theorem dX2_takes_64 : decode cX2_takes 64 = .ok (.ireturn, 1) := by decide +kernel
theorem dX2_takes_65 : decode cX2_takes 65 = .ok (.aload_n 2, 1) := by decide +kernel
theorem dX2_takes_66 : decode cX2_takes 66 = .ok (.iload_n 1, 1) := by decide +kernel
theorem dX2_takes_67 : decode cX2_takes 67 = .ok (.bipush 48, 2) := by decide +kernel
theorem dX2_takes_69 : decode cX2_takes 69 = .ok (.isub, 1) := by decide +kernel
theorem dX2_takes_70 : decode cX2_takes 70 = .ok (.putfield 34, 3) := by decide +kernel
theorem dX2_takes_73 : decode cX2_takes 73 = .ok (.aload_n 0, 1) := by decide +kernel
theorem dX2_takes_74 : decode cX2_takes 74 = .ok (.iconst 2, 1) := by decide +kernel
theorem dX2_takes_75 : decode cX2_takes 75 = .ok (.putfield 16, 3) := by decide +kernel
theorem dX2_takes_78 : decode cX2_takes 78 = .ok (.aload_n 2, 1) := by decide +kernel
theorem dX2_takes_79 : decode cX2_takes 79 = .ok (.getfield 34, 3) := by decide +kernel
theorem dX2_takes_82 : decode cX2_takes 82 = .ok (.ifCond .lt 15, 3) := by decide +kernel
theorem dX2_takes_85 : decode cX2_takes 85 = .ok (.aload_n 2, 1) := by decide +kernel
theorem dX2_takes_86 : decode cX2_takes 86 = .ok (.getfield 34, 3) := by decide +kernel
theorem dX2_takes_89 : decode cX2_takes 89 = .ok (.iconst 3, 1) := by decide +kernel
theorem dX2_takes_90 : decode cX2_takes 90 = .ok (.if_icmp .ge 7, 3) := by decide +kernel
theorem dX2_takes_93 : decode cX2_takes 93 = .ok (.iconst 1, 1) := by decide +kernel
theorem dX2_takes_94 : decode cX2_takes 94 = .ok (.goto 4, 3) := by decide +kernel
theorem dX2_takes_97 : decode cX2_takes 97 = .ok (.iconst 0, 1) := by decide +kernel
theorem dX2_takes_98 : decode cX2_takes 98 = .ok (.ireturn, 1) := by decide +kernel
theorem dX2_takes_99 : decode cX2_takes 99 = .ok (.aload_n 2, 1) := by decide +kernel
theorem dX2_takes_100 : decode cX2_takes 100 = .ok (.iload_n 1, 1) := by decide +kernel
theorem dX2_takes_101 : decode cX2_takes 101 = .ok (.bipush 48, 2) := by decide +kernel
theorem dX2_takes_103 : decode cX2_takes 103 = .ok (.isub, 1) := by decide +kernel
theorem dX2_takes_104 : decode cX2_takes 104 = .ok (.putfield 37, 3) := by decide +kernel
theorem dX2_takes_107 : decode cX2_takes 107 = .ok (.aload_n 0, 1) := by decide +kernel
theorem dX2_takes_108 : decode cX2_takes 108 = .ok (.iconst 3, 1) := by decide +kernel
theorem dX2_takes_109 : decode cX2_takes 109 = .ok (.putfield 16, 3) := by decide +kernel
theorem dX2_takes_112 : decode cX2_takes 112 = .ok (.aload_n 2, 1) := by decide +kernel
theorem dX2_takes_113 : decode cX2_takes 113 = .ok (.getfield 37, 3) := by decide +kernel
theorem dX2_takes_116 : decode cX2_takes 116 = .ok (.iconst 1, 1) := by decide +kernel
theorem dX2_takes_117 : decode cX2_takes 117 = .ok (.if_icmp .lt 15, 3) := by decide +kernel
theorem dX2_takes_120 : decode cX2_takes 120 = .ok (.aload_n 2, 1) := by decide +kernel
theorem dX2_takes_121 : decode cX2_takes 121 = .ok (.getfield 37, 3) := by decide +kernel
theorem dX2_takes_124 : decode cX2_takes 124 = .ok (.iconst 4, 1) := by decide +kernel
theorem dX2_takes_125 : decode cX2_takes 125 = .ok (.if_icmp .gt 7, 3) := by decide +kernel
theorem dX2_takes_128 : decode cX2_takes 128 = .ok (.iconst 1, 1) := by decide +kernel
theorem dX2_takes_129 : decode cX2_takes 129 = .ok (.goto 4, 3) := by decide +kernel
theorem dX2_takes_132 : decode cX2_takes 132 = .ok (.iconst 0, 1) := by decide +kernel
theorem dX2_takes_133 : decode cX2_takes 133 = .ok (.ireturn, 1) := by decide +kernel
theorem dX2_takes_134 : decode cX2_takes 134 = .ok (.aload_n 0, 1) := by decide +kernel
theorem dX2_takes_135 : decode cX2_takes 135 = .ok (.iload_n 1, 1) := by decide +kernel
theorem dX2_takes_136 : decode cX2_takes 136 = .ok (.aload_n 2, 1) := by decide +kernel
theorem dX2_takes_137 : decode cX2_takes 137 = .ok (.invokevirtual 40, 3) := by decide +kernel
theorem dX2_takes_140 : decode cX2_takes 140 = .ok (.ireturn, 1) := by decide +kernel
theorem dX2_takes_141 : decode cX2_takes 141 = .ok (.aload_n 0, 1) := by decide +kernel
theorem dX2_takes_142 : decode cX2_takes 142 = .ok (.iload_n 1, 1) := by decide +kernel
theorem dX2_takes_143 : decode cX2_takes 143 = .ok (.aload_n 2, 1) := by decide +kernel
theorem dX2_takes_144 : decode cX2_takes 144 = .ok (.invokevirtual 43, 3) := by decide +kernel
theorem dX2_takes_147 : decode cX2_takes 147 = .ok (.ireturn, 1) := by decide +kernel
theorem dX2_takes_148 : decode cX2_takes 148 = .ok (.aload_n 0, 1) := by decide +kernel
theorem dX2_takes_149 : decode cX2_takes 149 = .ok (.iload_n 1, 1) := by decide +kernel
theorem dX2_takes_150 : decode cX2_takes 150 = .ok (.bipush 48, 2) := by decide +kernel
theorem dX2_takes_152 : decode cX2_takes 152 = .ok (.isub, 1) := by decide +kernel
theorem dX2_takes_153 : decode cX2_takes 153 = .ok (.aload_n 2, 1) := by decide +kernel
theorem dX2_takes_154 : decode cX2_takes 154 = .ok (.invokevirtual 46, 3) := by decide +kernel
theorem dX2_takes_157 : decode cX2_takes 157 = .ok (.ireturn, 1) := by decide +kernel
theorem dX2_takesPart_0 : decode cX2_takesPart 0 = .ok (.iload_n 1, 1) := by decide +kernel
theorem dX2_takesPart_1 : decode cX2_takesPart 1 = .ok (.bipush 80, 2) := by decide +kernel
theorem dX2_takesPart_3 : decode cX2_takesPart 3 = .ok (.if_icmp .ne 23, 3) := by decide +kernel
theorem dX2_takesPart_6 : decode cX2_takesPart 6 = .ok (.aload_n 0, 1) := by decide +kernel
theorem dX2_takesPart_7 : decode cX2_takesPart 7 = .ok (.iconst 4, 1) := by decide +kernel
theorem dX2_takesPart_8 : decode cX2_takesPart 8 = .ok (.putfield 16, 3) := by decide +kernel
theorem dX2_takesPart_11 : decode cX2_takesPart 11 = .ok (.aload_n 2, 1) := by decide +kernel
theorem dX2_takesPart_12 : decode cX2_takesPart 12 = .ok (.getfield 49, 3) := by decide +kernel
theorem dX2_takesPart_15 : decode cX2_takesPart 15 = .ok (.bipush 8, 2) := by decide +kernel
theorem dX2_takesPart_17 : decode cX2_takesPart 17 = .ok (.if_icmp .ge 7, 3) := by decide +kernel
theorem dX2_takesPart_20 : decode cX2_takesPart 20 = .ok (.iconst 1, 1) := by decide +kernel
theorem dX2_takesPart_21 : decode cX2_takesPart 21 = .ok (.goto 4, 3) := by decide +kernel
theorem dX2_takesPart_24 : decode cX2_takesPart 24 = .ok (.iconst 0, 1) := by decide +kernel
theorem dX2_takesPart_25 : decode cX2_takesPart 25 = .ok (.ireturn, 1) := by decide +kernel
theorem dX2_takesPart_26 : decode cX2_takesPart 26 = .ok (.aload_n 0, 1) := by decide +kernel
theorem dX2_takesPart_27 : decode cX2_takesPart 27 = .ok (.bipush 7, 2) := by decide +kernel
theorem dX2_takesPart_29 : decode cX2_takesPart 29 = .ok (.putfield 16, 3) := by decide +kernel
theorem dX2_takesPart_32 : decode cX2_takesPart 32 = .ok (.iload_n 1, 1) := by decide +kernel
theorem dX2_takesPart_33 : decode cX2_takesPart 33 = .ok (.bipush 65, 2) := by decide +kernel
theorem dX2_takesPart_35 : decode cX2_takesPart 35 = .ok (.if_icmp .ne 14, 3) := by decide +kernel
theorem dX2_takesPart_38 : decode cX2_takesPart 38 = .ok (.aload_n 2, 1) := by decide +kernel
theorem dX2_takesPart_39 : decode cX2_takesPart 39 = .ok (.invokevirtual 52, 3) := by decide +kernel
theorem dX2_takesPart_42 : decode cX2_takesPart 42 = .ok (.ifCond .eq 7, 3) := by decide +kernel
theorem dX2_takesPart_45 : decode cX2_takesPart 45 = .ok (.iconst 1, 1) := by decide +kernel
theorem dX2_takesPart_46 : decode cX2_takesPart 46 = .ok (.goto 4, 3) := by decide +kernel
theorem dX2_takesPart_49 : decode cX2_takesPart 49 = .ok (.iconst 0, 1) := by decide +kernel
theorem dX2_takesPart_50 : decode cX2_takesPart 50 = .ok (.ireturn, 1) := by decide +kernel
theorem dX2_takesOfPerson_0 : decode cX2_takesOfPerson 0 = .ok (.aload_n 2, 1) := by decide +kernel
theorem dX2_takesOfPerson_1 : decode cX2_takesOfPerson 1 = .ok (.getfield 49, 3) := by decide +kernel
theorem dX2_takesOfPerson_4 : decode cX2_takesOfPerson 4 = .ok (.istore_n 3, 1) := by decide +kernel
theorem dX2_takesOfPerson_5 : decode cX2_takesOfPerson 5 = .ok (.iload_n 3, 1) := by decide +kernel
theorem dX2_takesOfPerson_6 : decode cX2_takesOfPerson 6 = .ok (.bipush 8, 2) := by decide +kernel
theorem dX2_takesOfPerson_8 : decode cX2_takesOfPerson 8 = .ok (.if_icmp .lt 5, 3) := by decide +kernel
theorem dX2_takesOfPerson_11 : decode cX2_takesOfPerson 11 = .ok (.iconst 0, 1) := by decide +kernel
theorem dX2_takesOfPerson_12 : decode cX2_takesOfPerson 12 = .ok (.ireturn, 1) := by decide +kernel
theorem dX2_takesOfPerson_13 : decode cX2_takesOfPerson 13 = .ok (.aload_n 0, 1) := by decide +kernel
theorem dX2_takesOfPerson_14 : decode cX2_takesOfPerson 14 = .ok (.getfield 16, 3) := by decide +kernel
theorem dX2_takesOfPerson_17 : decode cX2_takesOfPerson 17 = .ok (.iconst 4, 1) := by decide +kernel
theorem dX2_takesOfPerson_18 : decode cX2_takesOfPerson 18 = .ok (.if_icmp .ne 27, 3) := by decide +kernel
theorem dX2_takesOfPerson_21 : decode cX2_takesOfPerson 21 = .ok (.aload_n 2, 1) := by decide +kernel
theorem dX2_takesOfPerson_22 : decode cX2_takesOfPerson 22 = .ok (.getfield 56, 3) := by decide +kernel
theorem dX2_takesOfPerson_25 : decode cX2_takesOfPerson 25 = .ok (.iload_n 3, 1) := by decide +kernel
theorem dX2_takesOfPerson_26 : decode cX2_takesOfPerson 26 = .ok (.iload_n 1, 1) := by decide +kernel
theorem dX2_takesOfPerson_27 : decode cX2_takesOfPerson 27 = .ok (.bipush 48, 2) := by decide +kernel
theorem dX2_takesOfPerson_29 : decode cX2_takesOfPerson 29 = .ok (.isub, 1) := by decide +kernel
theorem dX2_takesOfPerson_30 : decode cX2_takesOfPerson 30 = .ok (.iastore, 1) := by decide +kernel
theorem dX2_takesOfPerson_31 : decode cX2_takesOfPerson 31 = .ok (.aload_n 0, 1) := by decide +kernel
theorem dX2_takesOfPerson_32 : decode cX2_takesOfPerson 32 = .ok (.iconst 5, 1) := by decide +kernel
theorem dX2_takesOfPerson_33 : decode cX2_takesOfPerson 33 = .ok (.putfield 16, 3) := by decide +kernel
theorem dX2_takesOfPerson_36 : decode cX2_takesOfPerson 36 = .ok (.aload_n 2, 1) := by decide +kernel
theorem dX2_takesOfPerson_37 : decode cX2_takesOfPerson 37 = .ok (.iload_n 1, 1) := by decide +kernel
theorem dX2_takesOfPerson_38 : decode cX2_takesOfPerson 38 = .ok (.bipush 48, 2) := by decide +kernel
theorem dX2_takesOfPerson_40 : decode cX2_takesOfPerson 40 = .ok (.isub, 1) := by decide +kernel
theorem dX2_takesOfPerson_41 : decode cX2_takesOfPerson 41 = .ok (.invokevirtual 60, 3) := by decide +kernel
theorem dX2_takesOfPerson_44 : decode cX2_takesOfPerson 44 = .ok (.ireturn, 1) := by decide +kernel
theorem dX2_takesOfPerson_45 : decode cX2_takesOfPerson 45 = .ok (.aload_n 0, 1) := by decide +kernel
theorem dX2_takesOfPerson_46 : decode cX2_takesOfPerson 46 = .ok (.getfield 16, 3) := by decide +kernel
theorem dX2_takesOfPerson_49 : decode cX2_takesOfPerson 49 = .ok (.iconst 5, 1) := by decide +kernel
theorem dX2_takesOfPerson_50 : decode cX2_takesOfPerson 50 = .ok (.if_icmp .ne 37, 3) := by decide +kernel
theorem dX2_takesOfPerson_53 : decode cX2_takesOfPerson 53 = .ok (.aload_n 2, 1) := by decide +kernel
theorem dX2_takesOfPerson_54 : decode cX2_takesOfPerson 54 = .ok (.getfield 64, 3) := by decide +kernel
theorem dX2_takesOfPerson_57 : decode cX2_takesOfPerson 57 = .ok (.iload_n 3, 1) := by decide +kernel
theorem dX2_takesOfPerson_58 : decode cX2_takesOfPerson 58 = .ok (.iload_n 1, 1) := by decide +kernel
theorem dX2_takesOfPerson_59 : decode cX2_takesOfPerson 59 = .ok (.bipush 97, 2) := by decide +kernel
theorem dX2_takesOfPerson_61 : decode cX2_takesOfPerson 61 = .ok (.isub, 1) := by decide +kernel
theorem dX2_takesOfPerson_62 : decode cX2_takesOfPerson 62 = .ok (.iastore, 1) := by decide +kernel
theorem dX2_takesOfPerson_63 : decode cX2_takesOfPerson 63 = .ok (.aload_n 0, 1) := by decide +kernel
theorem dX2_takesOfPerson_64 : decode cX2_takesOfPerson 64 = .ok (.bipush 6, 2) := by decide +kernel
theorem dX2_takesOfPerson_66 : decode cX2_takesOfPerson 66 = .ok (.putfield 16, 3) := by decide +kernel
theorem dX2_takesOfPerson_69 : decode cX2_takesOfPerson 69 = .ok (.iload_n 1, 1) := by decide +kernel
theorem dX2_takesOfPerson_70 : decode cX2_takesOfPerson 70 = .ok (.bipush 97, 2) := by decide +kernel
theorem dX2_takesOfPerson_72 : decode cX2_takesOfPerson 72 = .ok (.if_icmp .lt 13, 3) := by decide +kernel
theorem dX2_takesOfPerson_75 : decode cX2_takesOfPerson 75 = .ok (.iload_n 1, 1) := by decide +kernel
theorem dX2_takesOfPerson_76 : decode cX2_takesOfPerson 76 = .ok (.bipush 103, 2) := by decide +kernel
theorem dX2_takesOfPerson_78 : decode cX2_takesOfPerson 78 = .ok (.if_icmp .ge 7, 3) := by decide +kernel
theorem dX2_takesOfPerson_81 : decode cX2_takesOfPerson 81 = .ok (.iconst 1, 1) := by decide +kernel
theorem dX2_takesOfPerson_82 : decode cX2_takesOfPerson 82 = .ok (.goto 4, 3) := by decide +kernel
theorem dX2_takesOfPerson_85 : decode cX2_takesOfPerson 85 = .ok (.iconst 0, 1) := by decide +kernel
theorem dX2_takesOfPerson_86 : decode cX2_takesOfPerson 86 = .ok (.ireturn, 1) := by decide +kernel
theorem dX2_takesOfPerson_87 : decode cX2_takesOfPerson 87 = .ok (.aload_n 2, 1) := by decide +kernel
theorem dX2_takesOfPerson_88 : decode cX2_takesOfPerson 88 = .ok (.getfield 67, 3) := by decide +kernel
theorem dX2_takesOfPerson_91 : decode cX2_takesOfPerson 91 = .ok (.iload_n 3, 1) := by decide +kernel
theorem dX2_takesOfPerson_92 : decode cX2_takesOfPerson 92 = .ok (.iload_n 1, 1) := by decide +kernel
theorem dX2_takesOfPerson_93 : decode cX2_takesOfPerson 93 = .ok (.bipush 48, 2) := by decide +kernel
theorem dX2_takesOfPerson_95 : decode cX2_takesOfPerson 95 = .ok (.isub, 1) := by decide +kernel
theorem dX2_takesOfPerson_96 : decode cX2_takesOfPerson 96 = .ok (.iastore, 1) := by decide +kernel
theorem dX2_takesOfPerson_97 : decode cX2_takesOfPerson 97 = .ok (.aload_n 2, 1) := by decide +kernel
theorem dX2_takesOfPerson_98 : decode cX2_takesOfPerson 98 = .ok (.getfield 70, 3) := by decide +kernel
theorem dX2_takesOfPerson_101 : decode cX2_takesOfPerson 101 = .ok (.iload_n 3, 1) := by decide +kernel
theorem dX2_takesOfPerson_102 : decode cX2_takesOfPerson 102 = .ok (.iconst 0, 1) := by decide +kernel
theorem dX2_takesOfPerson_103 : decode cX2_takesOfPerson 103 = .ok (.iastore, 1) := by decide +kernel
theorem dX2_takesOfPerson_104 : decode cX2_takesOfPerson 104 = .ok (.aload_n 2, 1) := by decide +kernel
theorem dX2_takesOfPerson_105 : decode cX2_takesOfPerson 105 = .ok (.dup, 1) := by decide +kernel
theorem dX2_takesOfPerson_106 : decode cX2_takesOfPerson 106 = .ok (.getfield 49, 3) := by decide +kernel
theorem dX2_takesOfPerson_109 : decode cX2_takesOfPerson 109 = .ok (.iconst 1, 1) := by decide +kernel
theorem dX2_takesOfPerson_110 : decode cX2_takesOfPerson 110 = .ok (.iadd, 1) := by decide +kernel
theorem dX2_takesOfPerson_111 : decode cX2_takesOfPerson 111 = .ok (.putfield 49, 3) := by decide +kernel
theorem dX2_takesOfPerson_114 : decode cX2_takesOfPerson 114 = .ok (.aload_n 0, 1) := by decide +kernel
theorem dX2_takesOfPerson_115 : decode cX2_takesOfPerson 115 = .ok (.iconst 3, 1) := by decide +kernel
theorem dX2_takesOfPerson_116 : decode cX2_takesOfPerson 116 = .ok (.putfield 16, 3) := by decide +kernel
theorem dX2_takesOfPerson_119 : decode cX2_takesOfPerson 119 = .ok (.iload_n 1, 1) := by decide +kernel
theorem dX2_takesOfPerson_120 : decode cX2_takesOfPerson 120 = .ok (.bipush 48, 2) := by decide +kernel
theorem dX2_takesOfPerson_122 : decode cX2_takesOfPerson 122 = .ok (.if_icmp .lt 13, 3) := by decide +kernel
theorem dX2_takesOfPerson_125 : decode cX2_takesOfPerson 125 = .ok (.iload_n 1, 1) := by decide +kernel
theorem dX2_takesOfPerson_126 : decode cX2_takesOfPerson 126 = .ok (.bipush 57, 2) := by decide +kernel
theorem dX2_takesOfPerson_128 : decode cX2_takesOfPerson 128 = .ok (.if_icmp .gt 7, 3) := by decide +kernel
theorem dX2_takesOfPerson_131 : decode cX2_takesOfPerson 131 = .ok (.iconst 1, 1) := by decide +kernel
theorem dX2_takesOfPerson_132 : decode cX2_takesOfPerson 132 = .ok (.goto 4, 3) := by decide +kernel
theorem dX2_takesOfPerson_135 : decode cX2_takesOfPerson 135 = .ok (.iconst 0, 1) := by decide +kernel
theorem dX2_takesOfPerson_136 : decode cX2_takesOfPerson 136 = .ok (.ireturn, 1) := by decide +kernel
theorem dX2_takesOfPair_0 : decode cX2_takesOfPair 0 = .ok (.aload_n 0, 1) := by decide +kernel
theorem dX2_takesOfPair_1 : decode cX2_takesOfPair 1 = .ok (.getfield 16, 3) := by decide +kernel
theorem dX2_takesOfPair_4 : decode cX2_takesOfPair 4 = .ok (.bipush 7, 2) := by decide +kernel
theorem dX2_takesOfPair_6 : decode cX2_takesOfPair 6 = .ok (.if_icmp .ne 20, 3) := by decide +kernel
theorem dX2_takesOfPair_9 : decode cX2_takesOfPair 9 = .ok (.aload_n 0, 1) := by decide +kernel
theorem dX2_takesOfPair_10 : decode cX2_takesOfPair 10 = .ok (.iload_n 1, 1) := by decide +kernel
theorem dX2_takesOfPair_11 : decode cX2_takesOfPair 11 = .ok (.putfield 73, 3) := by decide +kernel
theorem dX2_takesOfPair_14 : decode cX2_takesOfPair 14 = .ok (.aload_n 0, 1) := by decide +kernel
theorem dX2_takesOfPair_15 : decode cX2_takesOfPair 15 = .ok (.bipush 8, 2) := by decide +kernel
theorem dX2_takesOfPair_17 : decode cX2_takesOfPair 17 = .ok (.putfield 16, 3) := by decide +kernel
theorem dX2_takesOfPair_20 : decode cX2_takesOfPair 20 = .ok (.aload_n 2, 1) := by decide +kernel
theorem dX2_takesOfPair_21 : decode cX2_takesOfPair 21 = .ok (.iload_n 1, 1) := by decide +kernel
theorem dX2_takesOfPair_22 : decode cX2_takesOfPair 22 = .ok (.invokevirtual 76, 3) := by decide +kernel
theorem dX2_takesOfPair_25 : decode cX2_takesOfPair 25 = .ok (.ireturn, 1) := by decide +kernel
theorem dX2_takesOfPair_26 : decode cX2_takesOfPair 26 = .ok (.aload_n 0, 1) := by decide +kernel
theorem dX2_takesOfPair_27 : decode cX2_takesOfPair 27 = .ok (.iconst 3, 1) := by decide +kernel
theorem dX2_takesOfPair_28 : decode cX2_takesOfPair 28 = .ok (.putfield 16, 3) := by decide +kernel
theorem dX2_takesOfPair_31 : decode cX2_takesOfPair 31 = .ok (.aload_n 2, 1) := by decide +kernel
theorem dX2_takesOfPair_32 : decode cX2_takesOfPair 32 = .ok (.aload_n 0, 1) := by decide +kernel
theorem dX2_takesOfPair_33 : decode cX2_takesOfPair 33 = .ok (.getfield 73, 3) := by decide +kernel
theorem dX2_takesOfPair_36 : decode cX2_takesOfPair 36 = .ok (.iload_n 1, 1) := by decide +kernel
theorem dX2_takesOfPair_37 : decode cX2_takesOfPair 37 = .ok (.invokevirtual 79, 3) := by decide +kernel
theorem dX2_takesOfPair_40 : decode cX2_takesOfPair 40 = .ok (.ifCond .ne 5, 3) := by decide +kernel
theorem dX2_takesOfPair_43 : decode cX2_takesOfPair 43 = .ok (.iconst 0, 1) := by decide +kernel
theorem dX2_takesOfPair_44 : decode cX2_takesOfPair 44 = .ok (.ireturn, 1) := by decide +kernel
theorem dX2_takesOfPair_45 : decode cX2_takesOfPair 45 = .ok (.aload_n 2, 1) := by decide +kernel
theorem dX2_takesOfPair_46 : decode cX2_takesOfPair 46 = .ok (.getfield 70, 3) := by decide +kernel
theorem dX2_takesOfPair_49 : decode cX2_takesOfPair 49 = .ok (.aload_n 0, 1) := by decide +kernel
theorem dX2_takesOfPair_50 : decode cX2_takesOfPair 50 = .ok (.getfield 73, 3) := by decide +kernel
theorem dX2_takesOfPair_53 : decode cX2_takesOfPair 53 = .ok (.dup2, 1) := by decide +kernel
theorem dX2_takesOfPair_54 : decode cX2_takesOfPair 54 = .ok (.iaload, 1) := by decide +kernel
theorem dX2_takesOfPair_55 : decode cX2_takesOfPair 55 = .ok (.iconst 1, 1) := by decide +kernel
theorem dX2_takesOfPair_56 : decode cX2_takesOfPair 56 = .ok (.iload_n 1, 1) := by decide +kernel
theorem dX2_takesOfPair_57 : decode cX2_takesOfPair 57 = .ok (.ishl, 1) := by decide +kernel
theorem dX2_takesOfPair_58 : decode cX2_takesOfPair 58 = .ok (.ior, 1) := by decide +kernel
theorem dX2_takesOfPair_59 : decode cX2_takesOfPair 59 = .ok (.iastore, 1) := by decide +kernel
theorem dX2_takesOfPair_60 : decode cX2_takesOfPair 60 = .ok (.aload_n 2, 1) := by decide +kernel
theorem dX2_takesOfPair_61 : decode cX2_takesOfPair 61 = .ok (.dup, 1) := by decide +kernel
theorem dX2_takesOfPair_62 : decode cX2_takesOfPair 62 = .ok (.getfield 83, 3) := by decide +kernel
theorem dX2_takesOfPair_65 : decode cX2_takesOfPair 65 = .ok (.iconst 1, 1) := by decide +kernel
theorem dX2_takesOfPair_66 : decode cX2_takesOfPair 66 = .ok (.iadd, 1) := by decide +kernel
theorem dX2_takesOfPair_67 : decode cX2_takesOfPair 67 = .ok (.putfield 83, 3) := by decide +kernel
theorem dX2_takesOfPair_70 : decode cX2_takesOfPair 70 = .ok (.iconst 1, 1) := by decide +kernel
theorem dX2_takesOfPair_71 : decode cX2_takesOfPair 71 = .ok (.ireturn, 1) := by decide +kernel
theorem dX3_init_0 : decode cX3_init 0 = .ok (.aload_n 0, 1) := by decide +kernel
theorem dX3_init_1 : decode cX3_init 1 = .ok (.invokespecial 3, 3) := by decide +kernel
theorem dX3_init_4 : decode cX3_init 4 = .ok (.aload_n 0, 1) := by decide +kernel
theorem dX3_init_5 : decode cX3_init 5 = .ok (.iconst 3, 1) := by decide +kernel
theorem dX3_init_6 : decode cX3_init 6 = .ok (.newarray .int, 2) := by decide +kernel
theorem dX3_init_8 : decode cX3_init 8 = .ok (.putfield 9, 3) := by decide +kernel
theorem dX3_init_11 : decode cX3_init 11 = .ok (.aload_n 0, 1) := by decide +kernel
theorem dX3_init_12 : decode cX3_init 12 = .ok (.iconst 3, 1) := by decide +kernel
theorem dX3_init_13 : decode cX3_init 13 = .ok (.newarray .int, 2) := by decide +kernel
theorem dX3_init_15 : decode cX3_init 15 = .ok (.putfield 15, 3) := by decide +kernel
theorem dX3_init_18 : decode cX3_init 18 = .ok (.aload_n 0, 1) := by decide +kernel
theorem dX3_init_19 : decode cX3_init 19 = .ok (.new 18, 3) := by decide +kernel
theorem dX3_init_22 : decode cX3_init 22 = .ok (.dup, 1) := by decide +kernel
theorem dX3_init_23 : decode cX3_init 23 = .ok (.invokespecial 20, 3) := by decide +kernel
theorem dX3_init_26 : decode cX3_init 26 = .ok (.putfield 21, 3) := by decide +kernel
theorem dX3_init_29 : decode cX3_init 29 = .ok (.return_, 1) := by decide +kernel
theorem dX3_tellAll_0 : decode cX3_tellAll 0 = .ok (.aload_n 0, 1) := by decide +kernel
theorem dX3_tellAll_1 : decode cX3_tellAll 1 = .ok (.iload_n 3, 1) := by decide +kernel
theorem dX3_tellAll_2 : decode cX3_tellAll 2 = .ok (.iconst 3, 1) := by decide +kernel
theorem dX3_tellAll_3 : decode cX3_tellAll 3 = .ok (.invokestatic 25, 3) := by decide +kernel
theorem dX3_tellAll_6 : decode cX3_tellAll 6 = .ok (.putfield 31, 3) := by decide +kernel
theorem dX3_tellAll_9 : decode cX3_tellAll 9 = .ok (.iload 4, 2) := by decide +kernel
theorem dX3_tellAll_11 : decode cX3_tellAll 11 = .ok (.istore 5, 2) := by decide +kernel
theorem dX3_tellAll_13 : decode cX3_tellAll 13 = .ok (.aload_n 0, 1) := by decide +kernel
theorem dX3_tellAll_14 : decode cX3_tellAll 14 = .ok (.getfield 31, 3) := by decide +kernel
theorem dX3_tellAll_17 : decode cX3_tellAll 17 = .ok (.iconst 1, 1) := by decide +kernel
theorem dX3_tellAll_18 : decode cX3_tellAll 18 = .ok (.isub, 1) := by decide +kernel
theorem dX3_tellAll_19 : decode cX3_tellAll 19 = .ok (.istore 6, 2) := by decide +kernel
theorem dX3_tellAll_21 : decode cX3_tellAll 21 = .ok (.iload 6, 2) := by decide +kernel
theorem dX3_tellAll_23 : decode cX3_tellAll 23 = .ok (.ifCond .lt 28, 3) := by decide +kernel
theorem dX3_tellAll_26 : decode cX3_tellAll 26 = .ok (.aload_n 0, 1) := by decide +kernel
theorem dX3_tellAll_27 : decode cX3_tellAll 27 = .ok (.getfield 15, 3) := by decide +kernel
theorem dX3_tellAll_30 : decode cX3_tellAll 30 = .ok (.iload 6, 2) := by decide +kernel
theorem dX3_tellAll_32 : decode cX3_tellAll 32 = .ok (.iload 5, 2) := by decide +kernel
theorem dX3_tellAll_34 : decode cX3_tellAll 34 = .ok (.bipush 10, 2) := by decide +kernel
theorem dX3_tellAll_36 : decode cX3_tellAll 36 = .ok (.irem, 1) := by decide +kernel
theorem dX3_tellAll_37 : decode cX3_tellAll 37 = .ok (.iastore, 1) := by decide +kernel
theorem dX3_tellAll_38 : decode cX3_tellAll 38 = .ok (.iload 5, 2) := by decide +kernel
theorem dX3_tellAll_40 : decode cX3_tellAll 40 = .ok (.bipush 10, 2) := by decide +kernel
theorem dX3_tellAll_42 : decode cX3_tellAll 42 = .ok (.idiv, 1) := by decide +kernel
theorem dX3_tellAll_43 : decode cX3_tellAll 43 = .ok (.istore 5, 2) := by decide +kernel
theorem dX3_tellAll_45 : decode cX3_tellAll 45 = .ok (.iinc 6 (-1), 3) := by decide +kernel
theorem dX3_tellAll_48 : decode cX3_tellAll 48 = .ok (.goto (-27), 3) := by decide +kernel
theorem dX3_tellAll_51 : decode cX3_tellAll 51 = .ok (.aload_n 0, 1) := by decide +kernel
theorem dX3_tellAll_52 : decode cX3_tellAll 52 = .ok (.iconst 0, 1) := by decide +kernel
theorem dX3_tellAll_53 : decode cX3_tellAll 53 = .ok (.putfield 35, 3) := by decide +kernel
theorem dX3_tellAll_56 : decode cX3_tellAll 56 = .ok (.aload_n 0, 1) := by decide +kernel
theorem dX3_tellAll_57 : decode cX3_tellAll 57 = .ok (.iload_n 2, 1) := by decide +kernel
theorem dX3_tellAll_58 : decode cX3_tellAll 58 = .ok (.putfield 38, 3) := by decide +kernel
theorem dX3_tellAll_61 : decode cX3_tellAll 61 = .ok (.aload_n 0, 1) := by decide +kernel
theorem dX3_tellAll_62 : decode cX3_tellAll 62 = .ok (.aload_n 1, 1) := by decide +kernel
theorem dX3_tellAll_63 : decode cX3_tellAll 63 = .ok (.iconst 0, 1) := by decide +kernel
theorem dX3_tellAll_64 : decode cX3_tellAll 64 = .ok (.iload_n 2, 1) := by decide +kernel
theorem dX3_tellAll_65 : decode cX3_tellAll 65 = .ok (.invokestatic 41, 3) := by decide +kernel
theorem dX3_tellAll_68 : decode cX3_tellAll 68 = .ok (.return_, 1) := by decide +kernel
theorem dX3_tellFrom_0 : decode cX3_tellFrom 0 = .ok (.iload_n 2, 1) := by decide +kernel
theorem dX3_tellFrom_1 : decode cX3_tellFrom 1 = .ok (.aload_n 0, 1) := by decide +kernel
theorem dX3_tellFrom_2 : decode cX3_tellFrom 2 = .ok (.getfield 31, 3) := by decide +kernel
theorem dX3_tellFrom_5 : decode cX3_tellFrom 5 = .ok (.if_icmp .lt 26, 3) := by decide +kernel
theorem dX3_tellFrom_8 : decode cX3_tellFrom 8 = .ok (.aload_n 0, 1) := by decide +kernel
theorem dX3_tellFrom_9 : decode cX3_tellFrom 9 = .ok (.dup, 1) := by decide +kernel
theorem dX3_tellFrom_10 : decode cX3_tellFrom 10 = .ok (.getfield 35, 3) := by decide +kernel
theorem dX3_tellFrom_13 : decode cX3_tellFrom 13 = .ok (.iconst 1, 1) := by decide +kernel
theorem dX3_tellFrom_14 : decode cX3_tellFrom 14 = .ok (.iadd, 1) := by decide +kernel
theorem dX3_tellFrom_15 : decode cX3_tellFrom 15 = .ok (.putfield 35, 3) := by decide +kernel
theorem dX3_tellFrom_18 : decode cX3_tellFrom 18 = .ok (.aload_n 0, 1) := by decide +kernel
theorem dX3_tellFrom_19 : decode cX3_tellFrom 19 = .ok (.dup, 1) := by decide +kernel
theorem dX3_tellFrom_20 : decode cX3_tellFrom 20 = .ok (.getfield 38, 3) := by decide +kernel
theorem dX3_tellFrom_23 : decode cX3_tellFrom 23 = .ok (.iload_n 3, 1) := by decide +kernel
theorem dX3_tellFrom_24 : decode cX3_tellFrom 24 = .ok (.iconst (-1), 1) := by decide +kernel
theorem dX3_tellFrom_25 : decode cX3_tellFrom 25 = .ok (.ixor, 1) := by decide +kernel
theorem dX3_tellFrom_26 : decode cX3_tellFrom 26 = .ok (.iand, 1) := by decide +kernel
theorem dX3_tellFrom_27 : decode cX3_tellFrom 27 = .ok (.putfield 38, 3) := by decide +kernel
theorem dX3_tellFrom_30 : decode cX3_tellFrom 30 = .ok (.return_, 1) := by decide +kernel
theorem dX3_tellFrom_31 : decode cX3_tellFrom 31 = .ok (.iconst 1, 1) := by decide +kernel
theorem dX3_tellFrom_32 : decode cX3_tellFrom 32 = .ok (.iload_n 3, 1) := by decide +kernel
theorem dX3_tellFrom_33 : decode cX3_tellFrom 33 = .ok (.invokestatic 45, 3) := by decide +kernel
theorem dX3_tellFrom_36 : decode cX3_tellFrom 36 = .ok (.ishl, 1) := by decide +kernel
theorem dX3_tellFrom_37 : decode cX3_tellFrom 37 = .ok (.istore 4, 2) := by decide +kernel
theorem dX3_tellFrom_39 : decode cX3_tellFrom 39 = .ok (.iconst 0, 1) := by decide +kernel
theorem dX3_tellFrom_40 : decode cX3_tellFrom 40 = .ok (.istore 5, 2) := by decide +kernel
theorem dX3_tellFrom_42 : decode cX3_tellFrom 42 = .ok (.iconst 0, 1) := by decide +kernel
theorem dX3_tellFrom_43 : decode cX3_tellFrom 43 = .ok (.istore 6, 2) := by decide +kernel
theorem dX3_tellFrom_45 : decode cX3_tellFrom 45 = .ok (.iload 6, 2) := by decide +kernel
theorem dX3_tellFrom_47 : decode cX3_tellFrom 47 = .ok (.iload 4, 2) := by decide +kernel
theorem dX3_tellFrom_49 : decode cX3_tellFrom 49 = .ok (.if_icmp .ge 60, 3) := by decide +kernel
theorem dX3_tellFrom_52 : decode cX3_tellFrom 52 = .ok (.aload_n 0, 1) := by decide +kernel
theorem dX3_tellFrom_53 : decode cX3_tellFrom 53 = .ok (.getfield 9, 3) := by decide +kernel
theorem dX3_tellFrom_56 : decode cX3_tellFrom 56 = .ok (.iload_n 2, 1) := by decide +kernel
theorem dX3_tellFrom_57 : decode cX3_tellFrom 57 = .ok (.iload 5, 2) := by decide +kernel
theorem dX3_tellFrom_59 : decode cX3_tellFrom 59 = .ok (.iastore, 1) := by decide +kernel
theorem dX3_tellFrom_60 : decode cX3_tellFrom 60 = .ok (.aload_n 0, 1) := by decide +kernel
theorem dX3_tellFrom_61 : decode cX3_tellFrom 61 = .ok (.aload_n 1, 1) := by decide +kernel
theorem dX3_tellFrom_62 : decode cX3_tellFrom 62 = .ok (.iload_n 2, 1) := by decide +kernel
theorem dX3_tellFrom_63 : decode cX3_tellFrom 63 = .ok (.iload_n 3, 1) := by decide +kernel
theorem dX3_tellFrom_64 : decode cX3_tellFrom 64 = .ok (.iload 5, 2) := by decide +kernel
theorem dX3_tellFrom_66 : decode cX3_tellFrom 66 = .ok (.iconst (-1), 1) := by decide +kernel
theorem dX3_tellFrom_67 : decode cX3_tellFrom 67 = .ok (.ixor, 1) := by decide +kernel
theorem dX3_tellFrom_68 : decode cX3_tellFrom 68 = .ok (.iand, 1) := by decide +kernel
theorem dX3_tellFrom_69 : decode cX3_tellFrom 69 = .ok (.invokevirtual 51, 3) := by decide +kernel
theorem dX3_tellFrom_72 : decode cX3_tellFrom 72 = .ok (.aload_n 0, 1) := by decide +kernel
theorem dX3_tellFrom_73 : decode cX3_tellFrom 73 = .ok (.getfield 15, 3) := by decide +kernel
theorem dX3_tellFrom_76 : decode cX3_tellFrom 76 = .ok (.iload_n 2, 1) := by decide +kernel
theorem dX3_tellFrom_77 : decode cX3_tellFrom 77 = .ok (.iaload, 1) := by decide +kernel
theorem dX3_tellFrom_78 : decode cX3_tellFrom 78 = .ok (.if_icmp .ne 17, 3) := by decide +kernel
theorem dX3_tellFrom_81 : decode cX3_tellFrom 81 = .ok (.aload_n 0, 1) := by decide +kernel
theorem dX3_tellFrom_82 : decode cX3_tellFrom 82 = .ok (.aload_n 1, 1) := by decide +kernel
theorem dX3_tellFrom_83 : decode cX3_tellFrom 83 = .ok (.iload_n 2, 1) := by decide +kernel
theorem dX3_tellFrom_84 : decode cX3_tellFrom 84 = .ok (.iconst 1, 1) := by decide +kernel
theorem dX3_tellFrom_85 : decode cX3_tellFrom 85 = .ok (.iadd, 1) := by decide +kernel
theorem dX3_tellFrom_86 : decode cX3_tellFrom 86 = .ok (.iload_n 3, 1) := by decide +kernel
theorem dX3_tellFrom_87 : decode cX3_tellFrom 87 = .ok (.iload 5, 2) := by decide +kernel
theorem dX3_tellFrom_89 : decode cX3_tellFrom 89 = .ok (.iconst (-1), 1) := by decide +kernel
theorem dX3_tellFrom_90 : decode cX3_tellFrom 90 = .ok (.ixor, 1) := by decide +kernel
theorem dX3_tellFrom_91 : decode cX3_tellFrom 91 = .ok (.iand, 1) := by decide +kernel
theorem dX3_tellFrom_92 : decode cX3_tellFrom 92 = .ok (.invokestatic 41, 3) := by decide +kernel
theorem dX3_tellFrom_95 : decode cX3_tellFrom 95 = .ok (.iload 5, 2) := by decide +kernel
theorem dX3_tellFrom_97 : decode cX3_tellFrom 97 = .ok (.iload_n 3, 1) := by decide +kernel
theorem dX3_tellFrom_98 : decode cX3_tellFrom 98 = .ok (.invokestatic 55, 3) := by decide +kernel
theorem dX3_tellFrom_101 : decode cX3_tellFrom 101 = .ok (.istore 5, 2) := by decide +kernel
theorem dX3_tellFrom_103 : decode cX3_tellFrom 103 = .ok (.iinc 6 1, 3) := by decide +kernel
theorem dX3_tellFrom_106 : decode cX3_tellFrom 106 = .ok (.goto (-61), 3) := by decide +kernel
theorem dX3_tellFrom_109 : decode cX3_tellFrom 109 = .ok (.return_, 1) := by decide +kernel
theorem dX3_countIn_0 : decode cX3_countIn 0 = .ok (.aload_n 0, 1) := by decide +kernel
theorem dX3_countIn_1 : decode cX3_countIn 1 = .ok (.getfield 21, 3) := by decide +kernel
theorem dX3_countIn_4 : decode cX3_countIn 4 = .ok (.invokevirtual 58, 3) := by decide +kernel
theorem dX3_countIn_7 : decode cX3_countIn 7 = .ok (.iconst 0, 1) := by decide +kernel
theorem dX3_countIn_8 : decode cX3_countIn 8 = .ok (.istore 4, 2) := by decide +kernel
theorem dX3_countIn_10 : decode cX3_countIn 10 = .ok (.iload 4, 2) := by decide +kernel
theorem dX3_countIn_12 : decode cX3_countIn 12 = .ok (.aload_n 1, 1) := by decide +kernel
theorem dX3_countIn_13 : decode cX3_countIn 13 = .ok (.getfield 61, 3) := by decide +kernel
theorem dX3_countIn_16 : decode cX3_countIn 16 = .ok (.if_icmp .ge 47, 3) := by decide +kernel
theorem dX3_countIn_19 : decode cX3_countIn 19 = .ok (.iload_n 3, 1) := by decide +kernel
theorem dX3_countIn_20 : decode cX3_countIn 20 = .ok (.iload 4, 2) := by decide +kernel
theorem dX3_countIn_22 : decode cX3_countIn 22 = .ok (.invokestatic 66, 3) := by decide +kernel
theorem dX3_countIn_25 : decode cX3_countIn 25 = .ok (.ifCond .eq 32, 3) := by decide +kernel
theorem dX3_countIn_28 : decode cX3_countIn 28 = .ok (.aload_n 0, 1) := by decide +kernel
theorem dX3_countIn_29 : decode cX3_countIn 29 = .ok (.getfield 21, 3) := by decide +kernel
theorem dX3_countIn_32 : decode cX3_countIn 32 = .ok (.aload_n 1, 1) := by decide +kernel
theorem dX3_countIn_33 : decode cX3_countIn 33 = .ok (.getfield 70, 3) := by decide +kernel
theorem dX3_countIn_36 : decode cX3_countIn 36 = .ok (.iload 4, 2) := by decide +kernel
theorem dX3_countIn_38 : decode cX3_countIn 38 = .ok (.iaload, 1) := by decide +kernel
theorem dX3_countIn_39 : decode cX3_countIn 39 = .ok (.aload_n 0, 1) := by decide +kernel
theorem dX3_countIn_40 : decode cX3_countIn 40 = .ok (.iload_n 2, 1) := by decide +kernel
theorem dX3_countIn_41 : decode cX3_countIn 41 = .ok (.aload_n 1, 1) := by decide +kernel
theorem dX3_countIn_42 : decode cX3_countIn 42 = .ok (.getfield 73, 3) := by decide +kernel
theorem dX3_countIn_45 : decode cX3_countIn 45 = .ok (.iload 4, 2) := by decide +kernel
theorem dX3_countIn_47 : decode cX3_countIn 47 = .ok (.iaload, 1) := by decide +kernel
theorem dX3_countIn_48 : decode cX3_countIn 48 = .ok (.isub, 1) := by decide +kernel
theorem dX3_countIn_49 : decode cX3_countIn 49 = .ok (.iload_n 2, 1) := by decide +kernel
theorem dX3_countIn_50 : decode cX3_countIn 50 = .ok (.invokevirtual 76, 3) := by decide +kernel
theorem dX3_countIn_53 : decode cX3_countIn 53 = .ok (.iand, 1) := by decide +kernel
theorem dX3_countIn_54 : decode cX3_countIn 54 = .ok (.invokevirtual 79, 3) := by decide +kernel
theorem dX3_countIn_57 : decode cX3_countIn 57 = .ok (.iinc 4 1, 3) := by decide +kernel
theorem dX3_countIn_60 : decode cX3_countIn 60 = .ok (.goto (-50), 3) := by decide +kernel
theorem dX3_countIn_63 : decode cX3_countIn 63 = .ok (.aload_n 0, 1) := by decide +kernel
theorem dX3_countIn_64 : decode cX3_countIn 64 = .ok (.getfield 21, 3) := by decide +kernel
theorem dX3_countIn_67 : decode cX3_countIn 67 = .ok (.aload_n 1, 1) := by decide +kernel
theorem dX3_countIn_68 : decode cX3_countIn 68 = .ok (.invokevirtual 83, 3) := by decide +kernel
theorem dX3_countIn_71 : decode cX3_countIn 71 = .ok (.ireturn, 1) := by decide +kernel
theorem dX3_leftSince_0 : decode cX3_leftSince 0 = .ok (.iconst 0, 1) := by decide +kernel
theorem dX3_leftSince_1 : decode cX3_leftSince 1 = .ok (.istore_n 3, 1) := by decide +kernel
theorem dX3_leftSince_2 : decode cX3_leftSince 2 = .ok (.iload_n 1, 1) := by decide +kernel
theorem dX3_leftSince_3 : decode cX3_leftSince 3 = .ok (.iconst 0, 1) := by decide +kernel
theorem dX3_leftSince_4 : decode cX3_leftSince 4 = .ok (.invokestatic 87, 3) := by decide +kernel
theorem dX3_leftSince_7 : decode cX3_leftSince 7 = .ok (.istore 4, 2) := by decide +kernel
theorem dX3_leftSince_9 : decode cX3_leftSince 9 = .ok (.iload 4, 2) := by decide +kernel
theorem dX3_leftSince_11 : decode cX3_leftSince 11 = .ok (.iload_n 2, 1) := by decide +kernel
theorem dX3_leftSince_12 : decode cX3_leftSince 12 = .ok (.if_icmp .gt 25, 3) := by decide +kernel
theorem dX3_leftSince_15 : decode cX3_leftSince 15 = .ok (.iload 4, 2) := by decide +kernel
theorem dX3_leftSince_17 : decode cX3_leftSince 17 = .ok (.iconst 3, 1) := by decide +kernel
theorem dX3_leftSince_18 : decode cX3_leftSince 18 = .ok (.if_icmp .ge 19, 3) := by decide +kernel
theorem dX3_leftSince_21 : decode cX3_leftSince 21 = .ok (.iload_n 3, 1) := by decide +kernel
theorem dX3_leftSince_22 : decode cX3_leftSince 22 = .ok (.aload_n 0, 1) := by decide +kernel
theorem dX3_leftSince_23 : decode cX3_leftSince 23 = .ok (.getfield 9, 3) := by decide +kernel
theorem dX3_leftSince_26 : decode cX3_leftSince 26 = .ok (.iload 4, 2) := by decide +kernel
theorem dX3_leftSince_28 : decode cX3_leftSince 28 = .ok (.iaload, 1) := by decide +kernel
theorem dX3_leftSince_29 : decode cX3_leftSince 29 = .ok (.ior, 1) := by decide +kernel
theorem dX3_leftSince_30 : decode cX3_leftSince 30 = .ok (.istore_n 3, 1) := by decide +kernel
theorem dX3_leftSince_31 : decode cX3_leftSince 31 = .ok (.iinc 4 1, 3) := by decide +kernel
theorem dX3_leftSince_34 : decode cX3_leftSince 34 = .ok (.goto (-25), 3) := by decide +kernel
theorem dX3_leftSince_37 : decode cX3_leftSince 37 = .ok (.iload_n 3, 1) := by decide +kernel
theorem dX3_leftSince_38 : decode cX3_leftSince 38 = .ok (.ireturn, 1) := by decide +kernel
theorem dX4_init_0 : decode cX4_init 0 = .ok (.aload_n 0, 1) := by decide +kernel
theorem dX4_init_1 : decode cX4_init 1 = .ok (.invokespecial 3, 3) := by decide +kernel
theorem dX4_init_4 : decode cX4_init 4 = .ok (.aload_n 0, 1) := by decide +kernel
theorem dX4_init_5 : decode cX4_init 5 = .ok (.bipush 80, 2) := by decide +kernel
theorem dX4_init_7 : decode cX4_init 7 = .ok (.newarray .byte, 2) := by decide +kernel
theorem dX4_init_9 : decode cX4_init 9 = .ok (.putfield 9, 3) := by decide +kernel
theorem dX4_init_12 : decode cX4_init 12 = .ok (.return_, 1) := by decide +kernel
theorem dX4_size_0 : decode cX4_size 0 = .ok (.aload_n 0, 1) := by decide +kernel
theorem dX4_size_1 : decode cX4_size 1 = .ok (.getfield 15, 3) := by decide +kernel
theorem dX4_size_4 : decode cX4_size 4 = .ok (.ireturn, 1) := by decide +kernel
theorem dX4_byteAt_0 : decode cX4_byteAt 0 = .ok (.iload_n 1, 1) := by decide +kernel
theorem dX4_byteAt_1 : decode cX4_byteAt 1 = .ok (.ifCond .lt 24, 3) := by decide +kernel
theorem dX4_byteAt_4 : decode cX4_byteAt 4 = .ok (.iload_n 1, 1) := by decide +kernel
theorem dX4_byteAt_5 : decode cX4_byteAt 5 = .ok (.aload_n 0, 1) := by decide +kernel
theorem dX4_byteAt_6 : decode cX4_byteAt 6 = .ok (.getfield 15, 3) := by decide +kernel
theorem dX4_byteAt_9 : decode cX4_byteAt 9 = .ok (.if_icmp .ge 16, 3) := by decide +kernel
theorem dX4_byteAt_12 : decode cX4_byteAt 12 = .ok (.aload_n 0, 1) := by decide +kernel
theorem dX4_byteAt_13 : decode cX4_byteAt 13 = .ok (.getfield 9, 3) := by decide +kernel
theorem dX4_byteAt_16 : decode cX4_byteAt 16 = .ok (.iload_n 1, 1) := by decide +kernel
theorem dX4_byteAt_17 : decode cX4_byteAt 17 = .ok (.baload, 1) := by decide +kernel
theorem dX4_byteAt_18 : decode cX4_byteAt 18 = .ok (.sipush 255, 3) := by decide +kernel
theorem dX4_byteAt_21 : decode cX4_byteAt 21 = .ok (.iand, 1) := by decide +kernel
theorem dX4_byteAt_22 : decode cX4_byteAt 22 = .ok (.goto 4, 3) := by decide +kernel
theorem dX4_byteAt_25 : decode cX4_byteAt 25 = .ok (.iconst (-1), 1) := by decide +kernel
theorem dX4_byteAt_26 : decode cX4_byteAt 26 = .ok (.ireturn, 1) := by decide +kernel
theorem dX4_takeBytes_0 : decode cX4_takeBytes 0 = .ok (.aload_n 0, 1) := by decide +kernel
theorem dX4_takeBytes_1 : decode cX4_takeBytes 1 = .ok (.getfield 15, 3) := by decide +kernel
theorem dX4_takeBytes_4 : decode cX4_takeBytes 4 = .ok (.iload_n 1, 1) := by decide +kernel
theorem dX4_takeBytes_5 : decode cX4_takeBytes 5 = .ok (.iadd, 1) := by decide +kernel
theorem dX4_takeBytes_6 : decode cX4_takeBytes 6 = .ok (.bipush 80, 2) := by decide +kernel
theorem dX4_takeBytes_8 : decode cX4_takeBytes 8 = .ok (.if_icmp .le 5, 3) := by decide +kernel
theorem dX4_takeBytes_11 : decode cX4_takeBytes 11 = .ok (.iconst 0, 1) := by decide +kernel
theorem dX4_takeBytes_12 : decode cX4_takeBytes 12 = .ok (.ireturn, 1) := by decide +kernel
theorem dX4_takeBytes_13 : decode cX4_takeBytes 13 = .ok (.iload_n 1, 1) := by decide +kernel
theorem dX4_takeBytes_14 : decode cX4_takeBytes 14 = .ok (.iconst 1, 1) := by decide +kernel
theorem dX4_takeBytes_15 : decode cX4_takeBytes 15 = .ok (.isub, 1) := by decide +kernel
theorem dX4_takeBytes_16 : decode cX4_takeBytes 16 = .ok (.istore 4, 2) := by decide +kernel
theorem dX4_takeBytes_18 : decode cX4_takeBytes 18 = .ok (.iload 4, 2) := by decide +kernel
theorem dX4_takeBytes_20 : decode cX4_takeBytes 20 = .ok (.ifCond .lt 37, 3) := by decide +kernel
theorem dX4_takeBytes_23 : decode cX4_takeBytes 23 = .ok (.aload_n 0, 1) := by decide +kernel
theorem dX4_takeBytes_24 : decode cX4_takeBytes 24 = .ok (.getfield 9, 3) := by decide +kernel
theorem dX4_takeBytes_27 : decode cX4_takeBytes 27 = .ok (.aload_n 0, 1) := by decide +kernel
theorem dX4_takeBytes_28 : decode cX4_takeBytes 28 = .ok (.getfield 15, 3) := by decide +kernel
theorem dX4_takeBytes_31 : decode cX4_takeBytes 31 = .ok (.lload_n 2, 1) := by decide +kernel
theorem dX4_takeBytes_32 : decode cX4_takeBytes 32 = .ok (.bipush 8, 2) := by decide +kernel
theorem dX4_takeBytes_34 : decode cX4_takeBytes 34 = .ok (.iload 4, 2) := by decide +kernel
theorem dX4_takeBytes_36 : decode cX4_takeBytes 36 = .ok (.imul, 1) := by decide +kernel
theorem dX4_takeBytes_37 : decode cX4_takeBytes 37 = .ok (.lshr, 1) := by decide +kernel
theorem dX4_takeBytes_38 : decode cX4_takeBytes 38 = .ok (.l2i, 1) := by decide +kernel
theorem dX4_takeBytes_39 : decode cX4_takeBytes 39 = .ok (.i2b, 1) := by decide +kernel
theorem dX4_takeBytes_40 : decode cX4_takeBytes 40 = .ok (.bastore, 1) := by decide +kernel
theorem dX4_takeBytes_41 : decode cX4_takeBytes 41 = .ok (.aload_n 0, 1) := by decide +kernel
theorem dX4_takeBytes_42 : decode cX4_takeBytes 42 = .ok (.dup, 1) := by decide +kernel
theorem dX4_takeBytes_43 : decode cX4_takeBytes 43 = .ok (.getfield 15, 3) := by decide +kernel
theorem dX4_takeBytes_46 : decode cX4_takeBytes 46 = .ok (.iconst 1, 1) := by decide +kernel
theorem dX4_takeBytes_47 : decode cX4_takeBytes 47 = .ok (.iadd, 1) := by decide +kernel
theorem dX4_takeBytes_48 : decode cX4_takeBytes 48 = .ok (.putfield 15, 3) := by decide +kernel
theorem dX4_takeBytes_51 : decode cX4_takeBytes 51 = .ok (.iinc 4 (-1), 3) := by decide +kernel
theorem dX4_takeBytes_54 : decode cX4_takeBytes 54 = .ok (.goto (-36), 3) := by decide +kernel
theorem dX4_takeBytes_57 : decode cX4_takeBytes 57 = .ok (.iconst 1, 1) := by decide +kernel
theorem dX4_takeBytes_58 : decode cX4_takeBytes 58 = .ok (.ireturn, 1) := by decide +kernel
theorem dX4_clear_0 : decode cX4_clear 0 = .ok (.aload_n 0, 1) := by decide +kernel
theorem dX4_clear_1 : decode cX4_clear 1 = .ok (.iconst 0, 1) := by decide +kernel
theorem dX4_clear_2 : decode cX4_clear 2 = .ok (.putfield 15, 3) := by decide +kernel
theorem dX4_clear_5 : decode cX4_clear 5 = .ok (.return_, 1) := by decide +kernel
theorem dX5_init_0 : decode cX5_init 0 = .ok (.aload_n 0, 1) := by decide +kernel
theorem dX5_init_1 : decode cX5_init 1 = .ok (.invokespecial 3, 3) := by decide +kernel
theorem dX5_init_4 : decode cX5_init 4 = .ok (.return_, 1) := by decide +kernel
theorem dX5_clear_0 : decode cX5_clear 0 = .ok (.aload_n 0, 1) := by decide +kernel
theorem dX5_clear_1 : decode cX5_clear 1 = .ok (.iconst 0, 1) := by decide +kernel
theorem dX5_clear_2 : decode cX5_clear 2 = .ok (.putfield 9, 3) := by decide +kernel
theorem dX5_clear_5 : decode cX5_clear 5 = .ok (.aload_n 0, 1) := by decide +kernel
theorem dX5_clear_6 : decode cX5_clear 6 = .ok (.iconst 0, 1) := by decide +kernel
theorem dX5_clear_7 : decode cX5_clear 7 = .ok (.putfield 15, 3) := by decide +kernel
theorem dX5_clear_10 : decode cX5_clear 10 = .ok (.return_, 1) := by decide +kernel
theorem dX5_addMissed_0 : decode cX5_addMissed 0 = .ok (.aload_n 0, 1) := by decide +kernel
theorem dX5_addMissed_1 : decode cX5_addMissed 1 = .ok (.dup, 1) := by decide +kernel
theorem dX5_addMissed_2 : decode cX5_addMissed 2 = .ok (.getfield 9, 3) := by decide +kernel
theorem dX5_addMissed_5 : decode cX5_addMissed 5 = .ok (.iload_n 1, 1) := by decide +kernel
theorem dX5_addMissed_6 : decode cX5_addMissed 6 = .ok (.invokestatic 18, 3) := by decide +kernel
theorem dX5_addMissed_9 : decode cX5_addMissed 9 = .ok (.iadd, 1) := by decide +kernel
theorem dX5_addMissed_10 : decode cX5_addMissed 10 = .ok (.putfield 9, 3) := by decide +kernel
theorem dX5_addMissed_13 : decode cX5_addMissed 13 = .ok (.aload_n 0, 1) := by decide +kernel
theorem dX5_addMissed_14 : decode cX5_addMissed 14 = .ok (.dup, 1) := by decide +kernel
theorem dX5_addMissed_15 : decode cX5_addMissed 15 = .ok (.getfield 15, 3) := by decide +kernel
theorem dX5_addMissed_18 : decode cX5_addMissed 18 = .ok (.iload_n 1, 1) := by decide +kernel
theorem dX5_addMissed_19 : decode cX5_addMissed 19 = .ok (.ior, 1) := by decide +kernel
theorem dX5_addMissed_20 : decode cX5_addMissed 20 = .ok (.putfield 15, 3) := by decide +kernel
theorem dX5_addMissed_23 : decode cX5_addMissed 23 = .ok (.return_, 1) := by decide +kernel
theorem dX5_countByLaw_0 : decode cX5_countByLaw 0 = .ok (.aload_n 1, 1) := by decide +kernel
theorem dX5_countByLaw_1 : decode cX5_countByLaw 1 = .ok (.getfield 24, 3) := by decide +kernel
theorem dX5_countByLaw_4 : decode cX5_countByLaw 4 = .ok (.ifCond .ne 8, 3) := by decide +kernel
theorem dX5_countByLaw_7 : decode cX5_countByLaw 7 = .ok (.aload_n 0, 1) := by decide +kernel
theorem dX5_countByLaw_8 : decode cX5_countByLaw 8 = .ok (.getfield 9, 3) := by decide +kernel
theorem dX5_countByLaw_11 : decode cX5_countByLaw 11 = .ok (.ireturn, 1) := by decide +kernel
theorem dX5_countByLaw_12 : decode cX5_countByLaw 12 = .ok (.aload_n 1, 1) := by decide +kernel
theorem dX5_countByLaw_13 : decode cX5_countByLaw 13 = .ok (.getfield 24, 3) := by decide +kernel
theorem dX5_countByLaw_16 : decode cX5_countByLaw 16 = .ok (.iconst 1, 1) := by decide +kernel
theorem dX5_countByLaw_17 : decode cX5_countByLaw 17 = .ok (.if_icmp .ne 10, 3) := by decide +kernel
theorem dX5_countByLaw_20 : decode cX5_countByLaw 20 = .ok (.aload_n 0, 1) := by decide +kernel
theorem dX5_countByLaw_21 : decode cX5_countByLaw 21 = .ok (.getfield 15, 3) := by decide +kernel
theorem dX5_countByLaw_24 : decode cX5_countByLaw 24 = .ok (.goto 11, 3) := by decide +kernel
theorem dX5_countByLaw_27 : decode cX5_countByLaw 27 = .ok (.aload_n 1, 1) := by decide +kernel
theorem dX5_countByLaw_28 : decode cX5_countByLaw 28 = .ok (.aload_n 0, 1) := by decide +kernel
theorem dX5_countByLaw_29 : decode cX5_countByLaw 29 = .ok (.getfield 15, 3) := by decide +kernel
theorem dX5_countByLaw_32 : decode cX5_countByLaw 32 = .ok (.invokevirtual 29, 3) := by decide +kernel
theorem dX5_countByLaw_35 : decode cX5_countByLaw 35 = .ok (.invokestatic 18, 3) := by decide +kernel
theorem dX5_countByLaw_38 : decode cX5_countByLaw 38 = .ok (.ireturn, 1) := by decide +kernel
theorem dX6_init_0 : decode cX6_init 0 = .ok (.aload_n 0, 1) := by decide +kernel
theorem dX6_init_1 : decode cX6_init 1 = .ok (.invokespecial 3, 3) := by decide +kernel
theorem dX6_init_4 : decode cX6_init 4 = .ok (.aload_n 0, 1) := by decide +kernel
theorem dX6_init_5 : decode cX6_init 5 = .ok (.bipush 8, 2) := by decide +kernel
theorem dX6_init_7 : decode cX6_init 7 = .ok (.newarray .int, 2) := by decide +kernel
theorem dX6_init_9 : decode cX6_init 9 = .ok (.putfield 9, 3) := by decide +kernel
theorem dX6_init_12 : decode cX6_init 12 = .ok (.aload_n 0, 1) := by decide +kernel
theorem dX6_init_13 : decode cX6_init 13 = .ok (.bipush 8, 2) := by decide +kernel
theorem dX6_init_15 : decode cX6_init 15 = .ok (.newarray .int, 2) := by decide +kernel
theorem dX6_init_17 : decode cX6_init 17 = .ok (.putfield 15, 3) := by decide +kernel
theorem dX6_init_20 : decode cX6_init 20 = .ok (.aload_n 0, 1) := by decide +kernel
theorem dX6_init_21 : decode cX6_init 21 = .ok (.bipush 8, 2) := by decide +kernel
theorem dX6_init_23 : decode cX6_init 23 = .ok (.newarray .int, 2) := by decide +kernel
theorem dX6_init_25 : decode cX6_init 25 = .ok (.putfield 18, 3) := by decide +kernel
theorem dX6_init_28 : decode cX6_init 28 = .ok (.aload_n 0, 1) := by decide +kernel
theorem dX6_init_29 : decode cX6_init 29 = .ok (.iconst 4, 1) := by decide +kernel
theorem dX6_init_30 : decode cX6_init 30 = .ok (.newarray .int, 2) := by decide +kernel
theorem dX6_init_32 : decode cX6_init 32 = .ok (.putfield 21, 3) := by decide +kernel
theorem dX6_init_35 : decode cX6_init 35 = .ok (.return_, 1) := by decide +kernel
theorem dX6_begin_0 : decode cX6_begin 0 = .ok (.aload_n 0, 1) := by decide +kernel
theorem dX6_begin_1 : decode cX6_begin 1 = .ok (.iconst 0, 1) := by decide +kernel
theorem dX6_begin_2 : decode cX6_begin 2 = .ok (.putfield 24, 3) := by decide +kernel
theorem dX6_begin_5 : decode cX6_begin 5 = .ok (.iconst 0, 1) := by decide +kernel
theorem dX6_begin_6 : decode cX6_begin 6 = .ok (.istore_n 2, 1) := by decide +kernel
theorem dX6_begin_7 : decode cX6_begin 7 = .ok (.iload_n 2, 1) := by decide +kernel
theorem dX6_begin_8 : decode cX6_begin 8 = .ok (.bipush 8, 2) := by decide +kernel
theorem dX6_begin_10 : decode cX6_begin 10 = .ok (.if_icmp .ge 36, 3) := by decide +kernel
theorem dX6_begin_13 : decode cX6_begin 13 = .ok (.aload_n 0, 1) := by decide +kernel
theorem dX6_begin_14 : decode cX6_begin 14 = .ok (.getfield 9, 3) := by decide +kernel
theorem dX6_begin_17 : decode cX6_begin 17 = .ok (.iload_n 2, 1) := by decide +kernel
theorem dX6_begin_18 : decode cX6_begin 18 = .ok (.aload_n 1, 1) := by decide +kernel
theorem dX6_begin_19 : decode cX6_begin 19 = .ok (.getfield 28, 3) := by decide +kernel
theorem dX6_begin_22 : decode cX6_begin 22 = .ok (.iload_n 2, 1) := by decide +kernel
theorem dX6_begin_23 : decode cX6_begin 23 = .ok (.iaload, 1) := by decide +kernel
theorem dX6_begin_24 : decode cX6_begin 24 = .ok (.iastore, 1) := by decide +kernel
theorem dX6_begin_25 : decode cX6_begin 25 = .ok (.aload_n 0, 1) := by decide +kernel
theorem dX6_begin_26 : decode cX6_begin 26 = .ok (.getfield 15, 3) := by decide +kernel
theorem dX6_begin_29 : decode cX6_begin 29 = .ok (.iload_n 2, 1) := by decide +kernel
theorem dX6_begin_30 : decode cX6_begin 30 = .ok (.iconst 0, 1) := by decide +kernel
theorem dX6_begin_31 : decode cX6_begin 31 = .ok (.iastore, 1) := by decide +kernel
theorem dX6_begin_32 : decode cX6_begin 32 = .ok (.aload_n 0, 1) := by decide +kernel
theorem dX6_begin_33 : decode cX6_begin 33 = .ok (.getfield 18, 3) := by decide +kernel
theorem dX6_begin_36 : decode cX6_begin 36 = .ok (.iload_n 2, 1) := by decide +kernel
theorem dX6_begin_37 : decode cX6_begin 37 = .ok (.bipush (-9), 2) := by decide +kernel
theorem dX6_begin_39 : decode cX6_begin 39 = .ok (.iastore, 1) := by decide +kernel
theorem dX6_begin_40 : decode cX6_begin 40 = .ok (.iinc 2 1, 3) := by decide +kernel
theorem dX6_begin_43 : decode cX6_begin 43 = .ok (.goto (-36), 3) := by decide +kernel
theorem dX6_begin_46 : decode cX6_begin 46 = .ok (.aload_n 0, 1) := by decide +kernel
theorem dX6_begin_47 : decode cX6_begin 47 = .ok (.invokevirtual 33, 3) := by decide +kernel
theorem dX6_begin_50 : decode cX6_begin 50 = .ok (.return_, 1) := by decide +kernel
theorem dX6_clearRumours_0 : decode cX6_clearRumours 0 = .ok (.iconst 0, 1) := by decide +kernel
theorem dX6_clearRumours_1 : decode cX6_clearRumours 1 = .ok (.istore_n 1, 1) := by decide +kernel
theorem dX6_clearRumours_2 : decode cX6_clearRumours 2 = .ok (.iload_n 1, 1) := by decide +kernel
theorem dX6_clearRumours_3 : decode cX6_clearRumours 3 = .ok (.iconst 4, 1) := by decide +kernel
theorem dX6_clearRumours_4 : decode cX6_clearRumours 4 = .ok (.if_icmp .ge 16, 3) := by decide +kernel
theorem dX6_clearRumours_7 : decode cX6_clearRumours 7 = .ok (.aload_n 0, 1) := by decide +kernel
theorem dX6_clearRumours_8 : decode cX6_clearRumours 8 = .ok (.getfield 21, 3) := by decide +kernel
theorem dX6_clearRumours_11 : decode cX6_clearRumours 11 = .ok (.iload_n 1, 1) := by decide +kernel
theorem dX6_clearRumours_12 : decode cX6_clearRumours 12 = .ok (.iconst 0, 1) := by decide +kernel
theorem dX6_clearRumours_13 : decode cX6_clearRumours 13 = .ok (.iastore, 1) := by decide +kernel
theorem dX6_clearRumours_14 : decode cX6_clearRumours 14 = .ok (.iinc 1 1, 3) := by decide +kernel
theorem dX6_clearRumours_17 : decode cX6_clearRumours 17 = .ok (.goto (-15), 3) := by decide +kernel
theorem dX6_clearRumours_20 : decode cX6_clearRumours 20 = .ok (.return_, 1) := by decide +kernel
theorem dX6_passYear_0 : decode cX6_passYear 0 = .ok (.aload_n 0, 1) := by decide +kernel
theorem dX6_passYear_1 : decode cX6_passYear 1 = .ok (.dup, 1) := by decide +kernel
theorem dX6_passYear_2 : decode cX6_passYear 2 = .ok (.getfield 24, 3) := by decide +kernel
theorem dX6_passYear_5 : decode cX6_passYear 5 = .ok (.iconst 1, 1) := by decide +kernel
theorem dX6_passYear_6 : decode cX6_passYear 6 = .ok (.iadd, 1) := by decide +kernel
theorem dX6_passYear_7 : decode cX6_passYear 7 = .ok (.putfield 24, 3) := by decide +kernel
theorem dX6_passYear_10 : decode cX6_passYear 10 = .ok (.aload_n 0, 1) := by decide +kernel
theorem dX6_passYear_11 : decode cX6_passYear 11 = .ok (.invokevirtual 33, 3) := by decide +kernel
theorem dX6_passYear_14 : decode cX6_passYear 14 = .ok (.return_, 1) := by decide +kernel
theorem dX6_isAlive_0 : decode cX6_isAlive 0 = .ok (.aload_n 0, 1) := by decide +kernel
theorem dX6_isAlive_1 : decode cX6_isAlive 1 = .ok (.getfield 18, 3) := by decide +kernel
theorem dX6_isAlive_4 : decode cX6_isAlive 4 = .ok (.iload_n 1, 1) := by decide +kernel
theorem dX6_isAlive_5 : decode cX6_isAlive 5 = .ok (.iaload, 1) := by decide +kernel
theorem dX6_isAlive_6 : decode cX6_isAlive 6 = .ok (.bipush (-9), 2) := by decide +kernel
theorem dX6_isAlive_8 : decode cX6_isAlive 8 = .ok (.if_icmp .ne 7, 3) := by decide +kernel
theorem dX6_isAlive_11 : decode cX6_isAlive 11 = .ok (.iconst 1, 1) := by decide +kernel
theorem dX6_isAlive_12 : decode cX6_isAlive 12 = .ok (.goto 4, 3) := by decide +kernel
theorem dX6_isAlive_15 : decode cX6_isAlive 15 = .ok (.iconst 0, 1) := by decide +kernel
theorem dX6_isAlive_16 : decode cX6_isAlive 16 = .ok (.ireturn, 1) := by decide +kernel
theorem dX6_heardIn_0 : decode cX6_heardIn 0 = .ok (.aload_n 0, 1) := by decide +kernel
theorem dX6_heardIn_1 : decode cX6_heardIn 1 = .ok (.getfield 18, 3) := by decide +kernel
theorem dX6_heardIn_4 : decode cX6_heardIn 4 = .ok (.iload_n 1, 1) := by decide +kernel
theorem dX6_heardIn_5 : decode cX6_heardIn 5 = .ok (.iaload, 1) := by decide +kernel
theorem dX6_heardIn_6 : decode cX6_heardIn 6 = .ok (.aload_n 0, 1) := by decide +kernel
theorem dX6_heardIn_7 : decode cX6_heardIn 7 = .ok (.getfield 9, 3) := by decide +kernel
theorem dX6_heardIn_10 : decode cX6_heardIn 10 = .ok (.iload_n 1, 1) := by decide +kernel
theorem dX6_heardIn_11 : decode cX6_heardIn 11 = .ok (.iaload, 1) := by decide +kernel
theorem dX6_heardIn_12 : decode cX6_heardIn 12 = .ok (.aload_n 2, 1) := by decide +kernel
theorem dX6_heardIn_13 : decode cX6_heardIn 13 = .ok (.getfield 28, 3) := by decide +kernel
theorem dX6_heardIn_16 : decode cX6_heardIn 16 = .ok (.iload_n 1, 1) := by decide +kernel
theorem dX6_heardIn_17 : decode cX6_heardIn 17 = .ok (.iaload, 1) := by decide +kernel
theorem dX6_heardIn_18 : decode cX6_heardIn 18 = .ok (.isub, 1) := by decide +kernel
theorem dX6_heardIn_19 : decode cX6_heardIn 19 = .ok (.invokestatic 36, 3) := by decide +kernel
theorem dX6_heardIn_22 : decode cX6_heardIn 22 = .ok (.iadd, 1) := by decide +kernel
theorem dX6_heardIn_23 : decode cX6_heardIn 23 = .ok (.ireturn, 1) := by decide +kernel
theorem dX6_copyFrom_0 : decode cX6_copyFrom 0 = .ok (.aload_n 0, 1) := by decide +kernel
theorem dX6_copyFrom_1 : decode cX6_copyFrom 1 = .ok (.aload_n 1, 1) := by decide +kernel
theorem dX6_copyFrom_2 : decode cX6_copyFrom 2 = .ok (.getfield 24, 3) := by decide +kernel
theorem dX6_copyFrom_5 : decode cX6_copyFrom 5 = .ok (.putfield 24, 3) := by decide +kernel
theorem dX6_copyFrom_8 : decode cX6_copyFrom 8 = .ok (.iconst 0, 1) := by decide +kernel
theorem dX6_copyFrom_9 : decode cX6_copyFrom 9 = .ok (.istore_n 2, 1) := by decide +kernel
theorem dX6_copyFrom_10 : decode cX6_copyFrom 10 = .ok (.iload_n 2, 1) := by decide +kernel
theorem dX6_copyFrom_11 : decode cX6_copyFrom 11 = .ok (.bipush 8, 2) := by decide +kernel
theorem dX6_copyFrom_13 : decode cX6_copyFrom 13 = .ok (.if_icmp .ge 45, 3) := by decide +kernel
theorem dX6_copyFrom_16 : decode cX6_copyFrom 16 = .ok (.aload_n 0, 1) := by decide +kernel
theorem dX6_copyFrom_17 : decode cX6_copyFrom 17 = .ok (.getfield 9, 3) := by decide +kernel
theorem dX6_copyFrom_20 : decode cX6_copyFrom 20 = .ok (.iload_n 2, 1) := by decide +kernel
theorem dX6_copyFrom_21 : decode cX6_copyFrom 21 = .ok (.aload_n 1, 1) := by decide +kernel
theorem dX6_copyFrom_22 : decode cX6_copyFrom 22 = .ok (.getfield 9, 3) := by decide +kernel
theorem dX6_copyFrom_25 : decode cX6_copyFrom 25 = .ok (.iload_n 2, 1) := by decide +kernel
theorem dX6_copyFrom_26 : decode cX6_copyFrom 26 = .ok (.iaload, 1) := by decide +kernel
theorem dX6_copyFrom_27 : decode cX6_copyFrom 27 = .ok (.iastore, 1) := by decide +kernel
theorem dX6_copyFrom_28 : decode cX6_copyFrom 28 = .ok (.aload_n 0, 1) := by decide +kernel
theorem dX6_copyFrom_29 : decode cX6_copyFrom 29 = .ok (.getfield 15, 3) := by decide +kernel
theorem dX6_copyFrom_32 : decode cX6_copyFrom 32 = .ok (.iload_n 2, 1) := by decide +kernel
theorem dX6_copyFrom_33 : decode cX6_copyFrom 33 = .ok (.aload_n 1, 1) := by decide +kernel
theorem dX6_copyFrom_34 : decode cX6_copyFrom 34 = .ok (.getfield 15, 3) := by decide +kernel
theorem dX6_copyFrom_37 : decode cX6_copyFrom 37 = .ok (.iload_n 2, 1) := by decide +kernel
theorem dX6_copyFrom_38 : decode cX6_copyFrom 38 = .ok (.iaload, 1) := by decide +kernel
theorem dX6_copyFrom_39 : decode cX6_copyFrom 39 = .ok (.iastore, 1) := by decide +kernel
theorem dX6_copyFrom_40 : decode cX6_copyFrom 40 = .ok (.aload_n 0, 1) := by decide +kernel
theorem dX6_copyFrom_41 : decode cX6_copyFrom 41 = .ok (.getfield 18, 3) := by decide +kernel
theorem dX6_copyFrom_44 : decode cX6_copyFrom 44 = .ok (.iload_n 2, 1) := by decide +kernel
theorem dX6_copyFrom_45 : decode cX6_copyFrom 45 = .ok (.aload_n 1, 1) := by decide +kernel
theorem dX6_copyFrom_46 : decode cX6_copyFrom 46 = .ok (.getfield 18, 3) := by decide +kernel
theorem dX6_copyFrom_49 : decode cX6_copyFrom 49 = .ok (.iload_n 2, 1) := by decide +kernel
theorem dX6_copyFrom_50 : decode cX6_copyFrom 50 = .ok (.iaload, 1) := by decide +kernel
theorem dX6_copyFrom_51 : decode cX6_copyFrom 51 = .ok (.iastore, 1) := by decide +kernel
theorem dX6_copyFrom_52 : decode cX6_copyFrom 52 = .ok (.iinc 2 1, 3) := by decide +kernel
theorem dX6_copyFrom_55 : decode cX6_copyFrom 55 = .ok (.goto (-45), 3) := by decide +kernel
theorem dX6_copyFrom_58 : decode cX6_copyFrom 58 = .ok (.iconst 0, 1) := by decide +kernel
theorem dX6_copyFrom_59 : decode cX6_copyFrom 59 = .ok (.istore_n 2, 1) := by decide +kernel
theorem dX6_copyFrom_60 : decode cX6_copyFrom 60 = .ok (.iload_n 2, 1) := by decide +kernel
theorem dX6_copyFrom_61 : decode cX6_copyFrom 61 = .ok (.iconst 4, 1) := by decide +kernel
theorem dX6_copyFrom_62 : decode cX6_copyFrom 62 = .ok (.if_icmp .ge 21, 3) := by decide +kernel
theorem dX6_copyFrom_65 : decode cX6_copyFrom 65 = .ok (.aload_n 0, 1) := by decide +kernel
theorem dX6_copyFrom_66 : decode cX6_copyFrom 66 = .ok (.getfield 21, 3) := by decide +kernel
theorem dX6_copyFrom_69 : decode cX6_copyFrom 69 = .ok (.iload_n 2, 1) := by decide +kernel
theorem dX6_copyFrom_70 : decode cX6_copyFrom 70 = .ok (.aload_n 1, 1) := by decide +kernel
theorem dX6_copyFrom_71 : decode cX6_copyFrom 71 = .ok (.getfield 21, 3) := by decide +kernel
theorem dX6_copyFrom_74 : decode cX6_copyFrom 74 = .ok (.iload_n 2, 1) := by decide +kernel
theorem dX6_copyFrom_75 : decode cX6_copyFrom 75 = .ok (.iaload, 1) := by decide +kernel
theorem dX6_copyFrom_76 : decode cX6_copyFrom 76 = .ok (.iastore, 1) := by decide +kernel
theorem dX6_copyFrom_77 : decode cX6_copyFrom 77 = .ok (.iinc 2 1, 3) := by decide +kernel
theorem dX6_copyFrom_80 : decode cX6_copyFrom 80 = .ok (.goto (-20), 3) := by decide +kernel
theorem dX6_copyFrom_83 : decode cX6_copyFrom 83 = .ok (.return_, 1) := by decide +kernel
theorem dX7_init_0 : decode cX7_init 0 = .ok (.aload_n 0, 1) := by decide +kernel
theorem dX7_init_1 : decode cX7_init 1 = .ok (.invokespecial 1, 3) := by decide +kernel
theorem dX7_init_4 : decode cX7_init 4 = .ok (.aload_n 0, 1) := by decide +kernel
theorem dX7_init_5 : decode cX7_init 5 = .ok (.new 7, 3) := by decide +kernel
theorem dX7_init_8 : decode cX7_init 8 = .ok (.dup, 1) := by decide +kernel
theorem dX7_init_9 : decode cX7_init 9 = .ok (.invokespecial 9, 3) := by decide +kernel
theorem dX7_init_12 : decode cX7_init 12 = .ok (.putfield 10, 3) := by decide +kernel
theorem dX7_init_15 : decode cX7_init 15 = .ok (.aload_n 0, 1) := by decide +kernel
theorem dX7_init_16 : decode cX7_init 16 = .ok (.new 16, 3) := by decide +kernel
theorem dX7_init_19 : decode cX7_init 19 = .ok (.dup, 1) := by decide +kernel
theorem dX7_init_20 : decode cX7_init 20 = .ok (.invokespecial 18, 3) := by decide +kernel
theorem dX7_init_23 : decode cX7_init 23 = .ok (.putfield 19, 3) := by decide +kernel
theorem dX7_init_26 : decode cX7_init 26 = .ok (.aload_n 0, 1) := by decide +kernel
theorem dX7_init_27 : decode cX7_init 27 = .ok (.new 23, 3) := by decide +kernel
theorem dX7_init_30 : decode cX7_init 30 = .ok (.dup, 1) := by decide +kernel
theorem dX7_init_31 : decode cX7_init 31 = .ok (.invokespecial 25, 3) := by decide +kernel
theorem dX7_init_34 : decode cX7_init 34 = .ok (.putfield 26, 3) := by decide +kernel
theorem dX7_init_37 : decode cX7_init 37 = .ok (.aload_n 0, 1) := by decide +kernel
theorem dX7_init_38 : decode cX7_init 38 = .ok (.new 30, 3) := by decide +kernel
theorem dX7_init_41 : decode cX7_init 41 = .ok (.dup, 1) := by decide +kernel
theorem dX7_init_42 : decode cX7_init 42 = .ok (.invokespecial 32, 3) := by decide +kernel
theorem dX7_init_45 : decode cX7_init 45 = .ok (.putfield 33, 3) := by decide +kernel
theorem dX7_init_48 : decode cX7_init 48 = .ok (.aload_n 0, 1) := by decide +kernel
theorem dX7_init_49 : decode cX7_init 49 = .ok (.new 37, 3) := by decide +kernel
theorem dX7_init_52 : decode cX7_init 52 = .ok (.dup, 1) := by decide +kernel
theorem dX7_init_53 : decode cX7_init 53 = .ok (.invokespecial 39, 3) := by decide +kernel
theorem dX7_init_56 : decode cX7_init 56 = .ok (.putfield 40, 3) := by decide +kernel
theorem dX7_init_59 : decode cX7_init 59 = .ok (.aload_n 0, 1) := by decide +kernel
theorem dX7_init_60 : decode cX7_init 60 = .ok (.new 44, 3) := by decide +kernel
theorem dX7_init_63 : decode cX7_init 63 = .ok (.dup, 1) := by decide +kernel
theorem dX7_init_64 : decode cX7_init 64 = .ok (.invokespecial 46, 3) := by decide +kernel
theorem dX7_init_67 : decode cX7_init 67 = .ok (.putfield 47, 3) := by decide +kernel
theorem dX7_init_70 : decode cX7_init 70 = .ok (.aload_n 0, 1) := by decide +kernel
theorem dX7_init_71 : decode cX7_init 71 = .ok (.iconst 2, 1) := by decide +kernel
theorem dX7_init_72 : decode cX7_init 72 = .ok (.anewarray 44, 3) := by decide +kernel
theorem dX7_init_75 : decode cX7_init 75 = .ok (.dup, 1) := by decide +kernel
theorem dX7_init_76 : decode cX7_init 76 = .ok (.iconst 0, 1) := by decide +kernel
theorem dX7_init_77 : decode cX7_init 77 = .ok (.new 44, 3) := by decide +kernel
theorem dX7_init_80 : decode cX7_init 80 = .ok (.dup, 1) := by decide +kernel
theorem dX7_init_81 : decode cX7_init 81 = .ok (.invokespecial 46, 3) := by decide +kernel
theorem dX7_init_84 : decode cX7_init 84 = .ok (.aastore, 1) := by decide +kernel
theorem dX7_init_85 : decode cX7_init 85 = .ok (.dup, 1) := by decide +kernel
theorem dX7_init_86 : decode cX7_init 86 = .ok (.iconst 1, 1) := by decide +kernel
theorem dX7_init_87 : decode cX7_init 87 = .ok (.new 44, 3) := by decide +kernel
theorem dX7_init_90 : decode cX7_init 90 = .ok (.dup, 1) := by decide +kernel
theorem dX7_init_91 : decode cX7_init 91 = .ok (.invokespecial 46, 3) := by decide +kernel
theorem dX7_init_94 : decode cX7_init 94 = .ok (.aastore, 1) := by decide +kernel
theorem dX7_init_95 : decode cX7_init 95 = .ok (.putfield 51, 3) := by decide +kernel
theorem dX7_init_98 : decode cX7_init 98 = .ok (.aload_n 0, 1) := by decide +kernel
theorem dX7_init_99 : decode cX7_init 99 = .ok (.iconst 2, 1) := by decide +kernel
theorem dX7_init_100 : decode cX7_init 100 = .ok (.newarray .boolean, 2) := by decide +kernel
theorem dX7_init_102 : decode cX7_init 102 = .ok (.putfield 55, 3) := by decide +kernel
theorem dX7_init_105 : decode cX7_init 105 = .ok (.aload_n 0, 1) := by decide +kernel
theorem dX7_init_106 : decode cX7_init 106 = .ok (.bipush 8, 2) := by decide +kernel
theorem dX7_init_108 : decode cX7_init 108 = .ok (.newarray .int, 2) := by decide +kernel
theorem dX7_init_110 : decode cX7_init 110 = .ok (.putfield 59, 3) := by decide +kernel
theorem dX7_init_113 : decode cX7_init 113 = .ok (.aload_n 0, 1) := by decide +kernel
theorem dX7_init_114 : decode cX7_init 114 = .ok (.new 63, 3) := by decide +kernel
theorem dX7_init_117 : decode cX7_init 117 = .ok (.dup, 1) := by decide +kernel
theorem dX7_init_118 : decode cX7_init 118 = .ok (.invokespecial 65, 3) := by decide +kernel
theorem dX7_init_121 : decode cX7_init 121 = .ok (.putfield 66, 3) := by decide +kernel
theorem dX7_init_124 : decode cX7_init 124 = .ok (.aload_n 0, 1) := by decide +kernel
theorem dX7_init_125 : decode cX7_init 125 = .ok (.new 63, 3) := by decide +kernel
theorem dX7_init_128 : decode cX7_init 128 = .ok (.dup, 1) := by decide +kernel
theorem dX7_init_129 : decode cX7_init 129 = .ok (.invokespecial 65, 3) := by decide +kernel
theorem dX7_init_132 : decode cX7_init 132 = .ok (.putfield 70, 3) := by decide +kernel
theorem dX7_init_135 : decode cX7_init 135 = .ok (.aload_n 0, 1) := by decide +kernel
theorem dX7_init_136 : decode cX7_init 136 = .ok (.getfield 47, 3) := by decide +kernel
theorem dX7_init_139 : decode cX7_init 139 = .ok (.aload_n 0, 1) := by decide +kernel
theorem dX7_init_140 : decode cX7_init 140 = .ok (.getfield 66, 3) := by decide +kernel
theorem dX7_init_143 : decode cX7_init 143 = .ok (.invokevirtual 73, 3) := by decide +kernel
theorem dX7_init_146 : decode cX7_init 146 = .ok (.return_, 1) := by decide +kernel
theorem dX7_write_0 : decode cX7_write 0 = .ok (.iload_n 1, 1) := by decide +kernel
theorem dX7_write_1 : decode cX7_write 1 = .ok (.iconst 1, 1) := by decide +kernel
theorem dX7_write_2 : decode cX7_write 2 = .ok (.if_icmp .lt 9, 3) := by decide +kernel
theorem dX7_write_5 : decode cX7_write 5 = .ok (.iload_n 1, 1) := by decide +kernel
theorem dX7_write_6 : decode cX7_write 6 = .ok (.bipush 8, 2) := by decide +kernel
theorem dX7_write_8 : decode cX7_write 8 = .ok (.if_icmp .le 6, 3) := by decide +kernel
theorem dX7_write_11 : decode cX7_write 11 = .ok (.bipush (-2), 2) := by decide +kernel
theorem dX7_write_13 : decode cX7_write 13 = .ok (.ireturn, 1) := by decide +kernel
theorem dX7_write_14 : decode cX7_write 14 = .ok (.aload_n 0, 1) := by decide +kernel
theorem dX7_write_15 : decode cX7_write 15 = .ok (.getfield 10, 3) := by decide +kernel
theorem dX7_write_18 : decode cX7_write 18 = .ok (.iload_n 1, 1) := by decide +kernel
theorem dX7_write_19 : decode cX7_write 19 = .ok (.lload_n 2, 1) := by decide +kernel
theorem dX7_write_20 : decode cX7_write 20 = .ok (.invokevirtual 77, 3) := by decide +kernel
theorem dX7_write_23 : decode cX7_write 23 = .ok (.ifCond .eq 13, 3) := by decide +kernel
theorem dX7_write_26 : decode cX7_write 26 = .ok (.aload_n 0, 1) := by decide +kernel
theorem dX7_write_27 : decode cX7_write 27 = .ok (.getfield 10, 3) := by decide +kernel
theorem dX7_write_30 : decode cX7_write 30 = .ok (.invokevirtual 81, 3) := by decide +kernel
theorem dX7_write_33 : decode cX7_write 33 = .ok (.goto 5, 3) := by decide +kernel
theorem dX7_write_36 : decode cX7_write 36 = .ok (.bipush (-4), 2) := by decide +kernel
theorem dX7_write_38 : decode cX7_write 38 = .ok (.ireturn, 1) := by decide +kernel
theorem dX7_wipe_0 : decode cX7_wipe 0 = .ok (.aload_n 0, 1) := by decide +kernel
theorem dX7_wipe_1 : decode cX7_wipe 1 = .ok (.getfield 10, 3) := by decide +kernel
theorem dX7_wipe_4 : decode cX7_wipe 4 = .ok (.invokevirtual 81, 3) := by decide +kernel
theorem dX7_wipe_7 : decode cX7_wipe 7 = .ok (.istore_n 1, 1) := by decide +kernel
theorem dX7_wipe_8 : decode cX7_wipe 8 = .ok (.aload_n 0, 1) := by decide +kernel
theorem dX7_wipe_9 : decode cX7_wipe 9 = .ok (.getfield 10, 3) := by decide +kernel
theorem dX7_wipe_12 : decode cX7_wipe 12 = .ok (.invokevirtual 85, 3) := by decide +kernel
theorem dX7_wipe_15 : decode cX7_wipe 15 = .ok (.iload_n 1, 1) := by decide +kernel
theorem dX7_wipe_16 : decode cX7_wipe 16 = .ok (.ireturn, 1) := by decide +kernel
theorem dX7_fault_0 : decode cX7_fault 0 = .ok (.aload_n 0, 1) := by decide +kernel
theorem dX7_fault_1 : decode cX7_fault 1 = .ok (.getfield 19, 3) := by decide +kernel
theorem dX7_fault_4 : decode cX7_fault 4 = .ok (.aload_n 0, 1) := by decide +kernel
theorem dX7_fault_5 : decode cX7_fault 5 = .ok (.getfield 10, 3) := by decide +kernel
theorem dX7_fault_8 : decode cX7_fault 8 = .ok (.aload_n 0, 1) := by decide +kernel
theorem dX7_fault_9 : decode cX7_fault 9 = .ok (.getfield 70, 3) := by decide +kernel
theorem dX7_fault_12 : decode cX7_fault 12 = .ok (.invokevirtual 88, 3) := by decide +kernel
theorem dX7_fault_15 : decode cX7_fault 15 = .ok (.ireturn, 1) := by decide +kernel
theorem dX7_census_0 : decode cX7_census 0 = .ok (.aload_n 0, 1) := by decide +kernel
theorem dX7_census_1 : decode cX7_census 1 = .ok (.getfield 19, 3) := by decide +kernel
theorem dX7_census_4 : decode cX7_census 4 = .ok (.aload_n 0, 1) := by decide +kernel
theorem dX7_census_5 : decode cX7_census 5 = .ok (.getfield 10, 3) := by decide +kernel
theorem dX7_census_8 : decode cX7_census 8 = .ok (.aload_n 0, 1) := by decide +kernel
theorem dX7_census_9 : decode cX7_census 9 = .ok (.getfield 70, 3) := by decide +kernel
theorem dX7_census_12 : decode cX7_census 12 = .ok (.invokevirtual 88, 3) := by decide +kernel
theorem dX7_census_15 : decode cX7_census 15 = .ok (.bipush (-9), 2) := by decide +kernel
theorem dX7_census_17 : decode cX7_census 17 = .ok (.if_icmp .eq 6, 3) := by decide +kernel
theorem dX7_census_20 : decode cX7_census 20 = .ok (.bipush (-3), 2) := by decide +kernel
theorem dX7_census_22 : decode cX7_census 22 = .ok (.ireturn, 1) := by decide +kernel
theorem dX7_census_23 : decode cX7_census 23 = .ok (.aload_n 0, 1) := by decide +kernel
theorem dX7_census_24 : decode cX7_census 24 = .ok (.getfield 66, 3) := by decide +kernel
theorem dX7_census_27 : decode cX7_census 27 = .ok (.astore_n 1, 1) := by decide +kernel
theorem dX7_census_28 : decode cX7_census 28 = .ok (.aload_n 0, 1) := by decide +kernel
theorem dX7_census_29 : decode cX7_census 29 = .ok (.aload_n 0, 1) := by decide +kernel
theorem dX7_census_30 : decode cX7_census 30 = .ok (.getfield 70, 3) := by decide +kernel
theorem dX7_census_33 : decode cX7_census 33 = .ok (.putfield 66, 3) := by decide +kernel
theorem dX7_census_36 : decode cX7_census 36 = .ok (.aload_n 0, 1) := by decide +kernel
theorem dX7_census_37 : decode cX7_census 37 = .ok (.aload_n 1, 1) := by decide +kernel
theorem dX7_census_38 : decode cX7_census 38 = .ok (.putfield 70, 3) := by decide +kernel
theorem dX7_census_41 : decode cX7_census 41 = .ok (.aload_n 0, 1) := by decide +kernel
theorem dX7_census_42 : decode cX7_census 42 = .ok (.getfield 47, 3) := by decide +kernel
theorem dX7_census_45 : decode cX7_census 45 = .ok (.aload_n 0, 1) := by decide +kernel
theorem dX7_census_46 : decode cX7_census 46 = .ok (.getfield 66, 3) := by decide +kernel
theorem dX7_census_49 : decode cX7_census 49 = .ok (.invokevirtual 73, 3) := by decide +kernel
theorem dX7_census_52 : decode cX7_census 52 = .ok (.aload_n 0, 1) := by decide +kernel
theorem dX7_census_53 : decode cX7_census 53 = .ok (.getfield 40, 3) := by decide +kernel
theorem dX7_census_56 : decode cX7_census 56 = .ok (.invokevirtual 92, 3) := by decide +kernel
theorem dX7_census_59 : decode cX7_census 59 = .ok (.iconst 0, 1) := by decide +kernel
theorem dX7_census_60 : decode cX7_census 60 = .ok (.istore_n 2, 1) := by decide +kernel
theorem dX7_census_61 : decode cX7_census 61 = .ok (.iload_n 2, 1) := by decide +kernel
theorem dX7_census_62 : decode cX7_census 62 = .ok (.iconst 2, 1) := by decide +kernel
theorem dX7_census_63 : decode cX7_census 63 = .ok (.if_icmp .ge 16, 3) := by decide +kernel
theorem dX7_census_66 : decode cX7_census 66 = .ok (.aload_n 0, 1) := by decide +kernel
theorem dX7_census_67 : decode cX7_census 67 = .ok (.getfield 55, 3) := by decide +kernel
theorem dX7_census_70 : decode cX7_census 70 = .ok (.iload_n 2, 1) := by decide +kernel
theorem dX7_census_71 : decode cX7_census 71 = .ok (.iconst 0, 1) := by decide +kernel
theorem dX7_census_72 : decode cX7_census 72 = .ok (.bastore, 1) := by decide +kernel
theorem dX7_census_73 : decode cX7_census 73 = .ok (.iinc 2 1, 3) := by decide +kernel
theorem dX7_census_76 : decode cX7_census 76 = .ok (.goto (-15), 3) := by decide +kernel
theorem dX7_census_79 : decode cX7_census 79 = .ok (.aload_n 0, 1) := by decide +kernel
theorem dX7_census_80 : decode cX7_census 80 = .ok (.getfield 66, 3) := by decide +kernel
theorem dX7_census_83 : decode cX7_census 83 = .ok (.getfield 93, 3) := by decide +kernel
theorem dX7_census_86 : decode cX7_census 86 = .ok (.ireturn, 1) := by decide +kernel
theorem dX7_about_0 : decode cX7_about 0 = .ok (.iload_n 1, 1) := by decide +kernel
theorem dX7_about_1 : decode cX7_about 1 = .ok (.tableswitch 121 0 8 #[51, 59, 67, 75, 83, 88, 97, 105, 113], 51) := by decide +kernel
theorem dX7_about_52 : decode cX7_about 52 = .ok (.aload_n 0, 1) := by decide +kernel
theorem dX7_about_53 : decode cX7_about 53 = .ok (.getfield 66, 3) := by decide +kernel
theorem dX7_about_56 : decode cX7_about 56 = .ok (.getfield 97, 3) := by decide +kernel
theorem dX7_about_59 : decode cX7_about 59 = .ok (.ireturn, 1) := by decide +kernel
theorem dX7_about_60 : decode cX7_about 60 = .ok (.aload_n 0, 1) := by decide +kernel
theorem dX7_about_61 : decode cX7_about 61 = .ok (.getfield 66, 3) := by decide +kernel
theorem dX7_about_64 : decode cX7_about 64 = .ok (.getfield 93, 3) := by decide +kernel
theorem dX7_about_67 : decode cX7_about 67 = .ok (.ireturn, 1) := by decide +kernel
theorem dX7_about_68 : decode cX7_about 68 = .ok (.aload_n 0, 1) := by decide +kernel
theorem dX7_about_69 : decode cX7_about 69 = .ok (.getfield 66, 3) := by decide +kernel
theorem dX7_about_72 : decode cX7_about 72 = .ok (.getfield 100, 3) := by decide +kernel
theorem dX7_about_75 : decode cX7_about 75 = .ok (.ireturn, 1) := by decide +kernel
theorem dX7_about_76 : decode cX7_about 76 = .ok (.aload_n 0, 1) := by decide +kernel
theorem dX7_about_77 : decode cX7_about 77 = .ok (.getfield 47, 3) := by decide +kernel
theorem dX7_about_80 : decode cX7_about 80 = .ok (.getfield 103, 3) := by decide +kernel
theorem dX7_about_83 : decode cX7_about 83 = .ok (.ireturn, 1) := by decide +kernel
theorem dX7_about_84 : decode cX7_about 84 = .ok (.aload_n 0, 1) := by decide +kernel
theorem dX7_about_85 : decode cX7_about 85 = .ok (.invokevirtual 106, 3) := by decide +kernel
theorem dX7_about_88 : decode cX7_about 88 = .ok (.ireturn, 1) := by decide +kernel
theorem dX7_about_89 : decode cX7_about 89 = .ok (.aload_n 0, 1) := by decide +kernel
theorem dX7_about_90 : decode cX7_about 90 = .ok (.aload_n 0, 1) := by decide +kernel
theorem dX7_about_91 : decode cX7_about 91 = .ok (.invokevirtual 109, 3) := by decide +kernel
theorem dX7_about_94 : decode cX7_about 94 = .ok (.invokevirtual 112, 3) := by decide +kernel
theorem dX7_about_97 : decode cX7_about 97 = .ok (.ireturn, 1) := by decide +kernel
theorem dX7_about_98 : decode cX7_about 98 = .ok (.aload_n 0, 1) := by decide +kernel
theorem dX7_about_99 : decode cX7_about 99 = .ok (.getfield 66, 3) := by decide +kernel
theorem dX7_about_102 : decode cX7_about 102 = .ok (.getfield 116, 3) := by decide +kernel
theorem dX7_about_105 : decode cX7_about 105 = .ok (.ireturn, 1) := by decide +kernel
theorem dX7_about_106 : decode cX7_about 106 = .ok (.aload_n 0, 1) := by decide +kernel
theorem dX7_about_107 : decode cX7_about 107 = .ok (.getfield 40, 3) := by decide +kernel
theorem dX7_about_110 : decode cX7_about 110 = .ok (.invokevirtual 119, 3) := by decide +kernel
theorem dX7_about_113 : decode cX7_about 113 = .ok (.ireturn, 1) := by decide +kernel
theorem dX7_about_114 : decode cX7_about 114 = .ok (.aload_n 0, 1) := by decide +kernel
theorem dX7_about_115 : decode cX7_about 115 = .ok (.getfield 10, 3) := by decide +kernel
theorem dX7_about_118 : decode cX7_about 118 = .ok (.invokevirtual 81, 3) := by decide +kernel
theorem dX7_about_121 : decode cX7_about 121 = .ok (.ireturn, 1) := by decide +kernel
theorem dX7_about_122 : decode cX7_about 122 = .ok (.bipush (-2), 2) := by decide +kernel
theorem dX7_about_124 : decode cX7_about 124 = .ok (.ireturn, 1) := by decide +kernel
theorem dX7_person_0 : decode cX7_person 0 = .ok (.aload_n 0, 1) := by decide +kernel
theorem dX7_person_1 : decode cX7_person 1 = .ok (.getfield 66, 3) := by decide +kernel
theorem dX7_person_4 : decode cX7_person 4 = .ok (.iload_n 1, 1) := by decide +kernel
theorem dX7_person_5 : decode cX7_person 5 = .ok (.invokevirtual 120, 3) := by decide +kernel
theorem dX7_person_8 : decode cX7_person 8 = .ok (.ifCond .ne 5, 3) := by decide +kernel
theorem dX7_person_11 : decode cX7_person 11 = .ok (.iconst (-1), 1) := by decide +kernel
theorem dX7_person_12 : decode cX7_person 12 = .ok (.ireturn, 1) := by decide +kernel
theorem dX7_person_13 : decode cX7_person 13 = .ok (.iload_n 2, 1) := by decide +kernel
theorem dX7_person_14 : decode cX7_person 14 = .ok (.tableswitch 129 0 7 #[46, 56, 66, 76, 86, 96, 106, 116], 46) := by decide +kernel
theorem dX7_person_60 : decode cX7_person 60 = .ok (.aload_n 0, 1) := by decide +kernel
theorem dX7_person_61 : decode cX7_person 61 = .ok (.getfield 66, 3) := by decide +kernel
theorem dX7_person_64 : decode cX7_person 64 = .ok (.getfield 124, 3) := by decide +kernel
theorem dX7_person_67 : decode cX7_person 67 = .ok (.iload_n 1, 1) := by decide +kernel
theorem dX7_person_68 : decode cX7_person 68 = .ok (.iaload, 1) := by decide +kernel
theorem dX7_person_69 : decode cX7_person 69 = .ok (.ireturn, 1) := by decide +kernel
theorem dX7_person_70 : decode cX7_person 70 = .ok (.aload_n 0, 1) := by decide +kernel
theorem dX7_person_71 : decode cX7_person 71 = .ok (.getfield 66, 3) := by decide +kernel
theorem dX7_person_74 : decode cX7_person 74 = .ok (.getfield 127, 3) := by decide +kernel
theorem dX7_person_77 : decode cX7_person 77 = .ok (.iload_n 1, 1) := by decide +kernel
theorem dX7_person_78 : decode cX7_person 78 = .ok (.iaload, 1) := by decide +kernel
theorem dX7_person_79 : decode cX7_person 79 = .ok (.ireturn, 1) := by decide +kernel
theorem dX7_person_80 : decode cX7_person 80 = .ok (.aload_n 0, 1) := by decide +kernel
theorem dX7_person_81 : decode cX7_person 81 = .ok (.getfield 66, 3) := by decide +kernel
theorem dX7_person_84 : decode cX7_person 84 = .ok (.getfield 130, 3) := by decide +kernel
theorem dX7_person_87 : decode cX7_person 87 = .ok (.iload_n 1, 1) := by decide +kernel
theorem dX7_person_88 : decode cX7_person 88 = .ok (.iaload, 1) := by decide +kernel
theorem dX7_person_89 : decode cX7_person 89 = .ok (.ireturn, 1) := by decide +kernel
theorem dX7_person_90 : decode cX7_person 90 = .ok (.aload_n 0, 1) := by decide +kernel
theorem dX7_person_91 : decode cX7_person 91 = .ok (.getfield 47, 3) := by decide +kernel
theorem dX7_person_94 : decode cX7_person 94 = .ok (.getfield 133, 3) := by decide +kernel
theorem dX7_person_97 : decode cX7_person 97 = .ok (.iload_n 1, 1) := by decide +kernel
theorem dX7_person_98 : decode cX7_person 98 = .ok (.iaload, 1) := by decide +kernel
theorem dX7_person_99 : decode cX7_person 99 = .ok (.ireturn, 1) := by decide +kernel
theorem dX7_person_100 : decode cX7_person 100 = .ok (.aload_n 0, 1) := by decide +kernel
theorem dX7_person_101 : decode cX7_person 101 = .ok (.getfield 47, 3) := by decide +kernel
theorem dX7_person_104 : decode cX7_person 104 = .ok (.getfield 136, 3) := by decide +kernel
theorem dX7_person_107 : decode cX7_person 107 = .ok (.iload_n 1, 1) := by decide +kernel
theorem dX7_person_108 : decode cX7_person 108 = .ok (.iaload, 1) := by decide +kernel
theorem dX7_person_109 : decode cX7_person 109 = .ok (.ireturn, 1) := by decide +kernel
theorem dX7_person_110 : decode cX7_person 110 = .ok (.aload_n 0, 1) := by decide +kernel
theorem dX7_person_111 : decode cX7_person 111 = .ok (.getfield 47, 3) := by decide +kernel
theorem dX7_person_114 : decode cX7_person 114 = .ok (.getfield 139, 3) := by decide +kernel
theorem dX7_person_117 : decode cX7_person 117 = .ok (.iload_n 1, 1) := by decide +kernel
theorem dX7_person_118 : decode cX7_person 118 = .ok (.iaload, 1) := by decide +kernel
theorem dX7_person_119 : decode cX7_person 119 = .ok (.ireturn, 1) := by decide +kernel
theorem dX7_person_120 : decode cX7_person 120 = .ok (.aload_n 0, 1) := by decide +kernel
theorem dX7_person_121 : decode cX7_person 121 = .ok (.getfield 66, 3) := by decide +kernel
theorem dX7_person_124 : decode cX7_person 124 = .ok (.getfield 142, 3) := by decide +kernel
theorem dX7_person_127 : decode cX7_person 127 = .ok (.iload_n 1, 1) := by decide +kernel
theorem dX7_person_128 : decode cX7_person 128 = .ok (.iaload, 1) := by decide +kernel
theorem dX7_person_129 : decode cX7_person 129 = .ok (.ireturn, 1) := by decide +kernel
theorem dX7_person_130 : decode cX7_person 130 = .ok (.aload_n 0, 1) := by decide +kernel
theorem dX7_person_131 : decode cX7_person 131 = .ok (.iload_n 1, 1) := by decide +kernel
theorem dX7_person_132 : decode cX7_person 132 = .ok (.aload_n 0, 1) := by decide +kernel
theorem dX7_person_133 : decode cX7_person 133 = .ok (.getfield 47, 3) := by decide +kernel
theorem dX7_person_136 : decode cX7_person 136 = .ok (.getfield 103, 3) := by decide +kernel
theorem dX7_person_139 : decode cX7_person 139 = .ok (.invokevirtual 145, 3) := by decide +kernel
theorem dX7_person_142 : decode cX7_person 142 = .ok (.ireturn, 1) := by decide +kernel
theorem dX7_person_143 : decode cX7_person 143 = .ok (.bipush (-2), 2) := by decide +kernel
theorem dX7_person_145 : decode cX7_person 145 = .ok (.ireturn, 1) := by decide +kernel
theorem dX7_town_0 : decode cX7_town 0 = .ok (.aload_n 0, 1) := by decide +kernel
theorem dX7_town_1 : decode cX7_town 1 = .ok (.getfield 66, 3) := by decide +kernel
theorem dX7_town_4 : decode cX7_town 4 = .ok (.iload_n 1, 1) := by decide +kernel
theorem dX7_town_5 : decode cX7_town 5 = .ok (.invokevirtual 149, 3) := by decide +kernel
theorem dX7_town_8 : decode cX7_town 8 = .ok (.ifCond .ne 5, 3) := by decide +kernel
theorem dX7_town_11 : decode cX7_town 11 = .ok (.iconst (-1), 1) := by decide +kernel
theorem dX7_town_12 : decode cX7_town 12 = .ok (.ireturn, 1) := by decide +kernel
theorem dX7_town_13 : decode cX7_town 13 = .ok (.iload_n 2, 1) := by decide +kernel
theorem dX7_town_14 : decode cX7_town 14 = .ok (.tableswitch 88 0 5 #[38, 44, 50, 60, 69, 75], 38) := by decide +kernel
theorem dX7_town_52 : decode cX7_town 52 = .ok (.aload_n 0, 1) := by decide +kernel
theorem dX7_town_53 : decode cX7_town 53 = .ok (.iload_n 1, 1) := by decide +kernel
theorem dX7_town_54 : decode cX7_town 54 = .ok (.invokevirtual 152, 3) := by decide +kernel
theorem dX7_town_57 : decode cX7_town 57 = .ok (.ireturn, 1) := by decide +kernel
theorem dX7_town_58 : decode cX7_town 58 = .ok (.aload_n 0, 1) := by decide +kernel
theorem dX7_town_59 : decode cX7_town 59 = .ok (.iload_n 1, 1) := by decide +kernel
theorem dX7_town_60 : decode cX7_town 60 = .ok (.invokevirtual 155, 3) := by decide +kernel
theorem dX7_town_63 : decode cX7_town 63 = .ok (.ireturn, 1) := by decide +kernel
theorem dX7_town_64 : decode cX7_town 64 = .ok (.aload_n 0, 1) := by decide +kernel
theorem dX7_town_65 : decode cX7_town 65 = .ok (.getfield 47, 3) := by decide +kernel
theorem dX7_town_68 : decode cX7_town 68 = .ok (.getfield 158, 3) := by decide +kernel
theorem dX7_town_71 : decode cX7_town 71 = .ok (.iload_n 1, 1) := by decide +kernel
theorem dX7_town_72 : decode cX7_town 72 = .ok (.iaload, 1) := by decide +kernel
theorem dX7_town_73 : decode cX7_town 73 = .ok (.ireturn, 1) := by decide +kernel
theorem dX7_town_74 : decode cX7_town 74 = .ok (.aload_n 0, 1) := by decide +kernel
theorem dX7_town_75 : decode cX7_town 75 = .ok (.getfield 66, 3) := by decide +kernel
theorem dX7_town_78 : decode cX7_town 78 = .ok (.iload_n 1, 1) := by decide +kernel
theorem dX7_town_79 : decode cX7_town 79 = .ok (.invokevirtual 161, 3) := by decide +kernel
theorem dX7_town_82 : decode cX7_town 82 = .ok (.ireturn, 1) := by decide +kernel
theorem dX7_town_83 : decode cX7_town 83 = .ok (.aload_n 0, 1) := by decide +kernel
theorem dX7_town_84 : decode cX7_town 84 = .ok (.iload_n 1, 1) := by decide +kernel
theorem dX7_town_85 : decode cX7_town 85 = .ok (.invokevirtual 164, 3) := by decide +kernel
theorem dX7_town_88 : decode cX7_town 88 = .ok (.ireturn, 1) := by decide +kernel
theorem dX7_town_89 : decode cX7_town 89 = .ok (.aload_n 0, 1) := by decide +kernel
theorem dX7_town_90 : decode cX7_town 90 = .ok (.aload_n 0, 1) := by decide +kernel
theorem dX7_town_91 : decode cX7_town 91 = .ok (.getfield 66, 3) := by decide +kernel
theorem dX7_town_94 : decode cX7_town 94 = .ok (.iload_n 1, 1) := by decide +kernel
theorem dX7_town_95 : decode cX7_town 95 = .ok (.invokevirtual 161, 3) := by decide +kernel
theorem dX7_town_98 : decode cX7_town 98 = .ok (.invokevirtual 112, 3) := by decide +kernel
theorem dX7_town_101 : decode cX7_town 101 = .ok (.ireturn, 1) := by decide +kernel
theorem dX7_town_102 : decode cX7_town 102 = .ok (.bipush (-2), 2) := by decide +kernel
theorem dX7_town_104 : decode cX7_town 104 = .ok (.ireturn, 1) := by decide +kernel
theorem dX7_law_0 : decode cX7_law 0 = .ok (.iload_n 1, 1) := by decide +kernel
theorem dX7_law_1 : decode cX7_law 1 = .ok (.ifCond .lt 8, 3) := by decide +kernel
theorem dX7_law_4 : decode cX7_law 4 = .ok (.iload_n 1, 1) := by decide +kernel
theorem dX7_law_5 : decode cX7_law 5 = .ok (.iconst 3, 1) := by decide +kernel
theorem dX7_law_6 : decode cX7_law 6 = .ok (.if_icmp .lt 6, 3) := by decide +kernel
theorem dX7_law_9 : decode cX7_law 9 = .ok (.bipush (-2), 2) := by decide +kernel
theorem dX7_law_11 : decode cX7_law 11 = .ok (.ireturn, 1) := by decide +kernel
theorem dX7_law_12 : decode cX7_law 12 = .ok (.aload_n 0, 1) := by decide +kernel
theorem dX7_law_13 : decode cX7_law 13 = .ok (.getfield 66, 3) := by decide +kernel
theorem dX7_law_16 : decode cX7_law 16 = .ok (.getfield 100, 3) := by decide +kernel
theorem dX7_law_19 : decode cX7_law 19 = .ok (.istore_n 2, 1) := by decide +kernel
theorem dX7_law_20 : decode cX7_law 20 = .ok (.aload_n 0, 1) := by decide +kernel
theorem dX7_law_21 : decode cX7_law 21 = .ok (.getfield 66, 3) := by decide +kernel
theorem dX7_law_24 : decode cX7_law 24 = .ok (.iload_n 1, 1) := by decide +kernel
theorem dX7_law_25 : decode cX7_law 25 = .ok (.putfield 100, 3) := by decide +kernel
theorem dX7_law_28 : decode cX7_law 28 = .ok (.iload_n 2, 1) := by decide +kernel
theorem dX7_law_29 : decode cX7_law 29 = .ok (.ireturn, 1) := by decide +kernel
theorem dX7_go_0 : decode cX7_go 0 = .ok (.aload_n 0, 1) := by decide +kernel
theorem dX7_go_1 : decode cX7_go 1 = .ok (.getfield 66, 3) := by decide +kernel
theorem dX7_go_4 : decode cX7_go 4 = .ok (.iload_n 1, 1) := by decide +kernel
theorem dX7_go_5 : decode cX7_go 5 = .ok (.invokevirtual 120, 3) := by decide +kernel
theorem dX7_go_8 : decode cX7_go 8 = .ok (.ifCond .eq 14, 3) := by decide +kernel
theorem dX7_go_11 : decode cX7_go 11 = .ok (.aload_n 0, 1) := by decide +kernel
theorem dX7_go_12 : decode cX7_go 12 = .ok (.getfield 66, 3) := by decide +kernel
theorem dX7_go_15 : decode cX7_go 15 = .ok (.iload_n 2, 1) := by decide +kernel
theorem dX7_go_16 : decode cX7_go 16 = .ok (.invokevirtual 149, 3) := by decide +kernel
theorem dX7_go_19 : decode cX7_go 19 = .ok (.ifCond .ne 5, 3) := by decide +kernel
theorem dX7_go_22 : decode cX7_go 22 = .ok (.iconst (-1), 1) := by decide +kernel
theorem dX7_go_23 : decode cX7_go 23 = .ok (.ireturn, 1) := by decide +kernel
theorem dX7_go_24 : decode cX7_go 24 = .ok (.aload_n 0, 1) := by decide +kernel
theorem dX7_go_25 : decode cX7_go 25 = .ok (.getfield 47, 3) := by decide +kernel
theorem dX7_go_28 : decode cX7_go 28 = .ok (.iload_n 1, 1) := by decide +kernel
theorem dX7_go_29 : decode cX7_go 29 = .ok (.invokevirtual 167, 3) := by decide +kernel
theorem dX7_go_32 : decode cX7_go 32 = .ok (.ifCond .eq 16, 3) := by decide +kernel
theorem dX7_go_35 : decode cX7_go 35 = .ok (.aload_n 0, 1) := by decide +kernel
theorem dX7_go_36 : decode cX7_go 36 = .ok (.getfield 47, 3) := by decide +kernel
theorem dX7_go_39 : decode cX7_go 39 = .ok (.getfield 133, 3) := by decide +kernel
theorem dX7_go_42 : decode cX7_go 42 = .ok (.iload_n 1, 1) := by decide +kernel
theorem dX7_go_43 : decode cX7_go 43 = .ok (.iaload, 1) := by decide +kernel
theorem dX7_go_44 : decode cX7_go 44 = .ok (.iload_n 2, 1) := by decide +kernel
theorem dX7_go_45 : decode cX7_go 45 = .ok (.if_icmp .ne 6, 3) := by decide +kernel
theorem dX7_go_48 : decode cX7_go 48 = .ok (.bipush (-3), 2) := by decide +kernel
theorem dX7_go_50 : decode cX7_go 50 = .ok (.ireturn, 1) := by decide +kernel
theorem dX7_go_51 : decode cX7_go 51 = .ok (.aload_n 0, 1) := by decide +kernel
theorem dX7_go_52 : decode cX7_go 52 = .ok (.getfield 40, 3) := by decide +kernel
theorem dX7_go_55 : decode cX7_go 55 = .ok (.aload_n 0, 1) := by decide +kernel
theorem dX7_go_56 : decode cX7_go 56 = .ok (.getfield 47, 3) := by decide +kernel
theorem dX7_go_59 : decode cX7_go 59 = .ok (.invokevirtual 170, 3) := by decide +kernel
theorem dX7_go_62 : decode cX7_go 62 = .ok (.aload_n 0, 1) := by decide +kernel
theorem dX7_go_63 : decode cX7_go 63 = .ok (.getfield 47, 3) := by decide +kernel
theorem dX7_go_66 : decode cX7_go 66 = .ok (.getfield 136, 3) := by decide +kernel
theorem dX7_go_69 : decode cX7_go 69 = .ok (.iload_n 1, 1) := by decide +kernel
theorem dX7_go_70 : decode cX7_go 70 = .ok (.iaload, 1) := by decide +kernel
theorem dX7_go_71 : decode cX7_go 71 = .ok (.istore_n 3, 1) := by decide +kernel
theorem dX7_go_72 : decode cX7_go 72 = .ok (.aload_n 0, 1) := by decide +kernel
theorem dX7_go_73 : decode cX7_go 73 = .ok (.getfield 47, 3) := by decide +kernel
theorem dX7_go_76 : decode cX7_go 76 = .ok (.getfield 133, 3) := by decide +kernel
theorem dX7_go_79 : decode cX7_go 79 = .ok (.iload_n 1, 1) := by decide +kernel
theorem dX7_go_80 : decode cX7_go 80 = .ok (.iload_n 2, 1) := by decide +kernel
theorem dX7_go_81 : decode cX7_go 81 = .ok (.iastore, 1) := by decide +kernel
theorem dX7_go_82 : decode cX7_go 82 = .ok (.aload_n 0, 1) := by decide +kernel
theorem dX7_go_83 : decode cX7_go 83 = .ok (.getfield 47, 3) := by decide +kernel
theorem dX7_go_86 : decode cX7_go 86 = .ok (.getfield 136, 3) := by decide +kernel
theorem dX7_go_89 : decode cX7_go 89 = .ok (.iload_n 1, 1) := by decide +kernel
theorem dX7_go_90 : decode cX7_go 90 = .ok (.aload_n 0, 1) := by decide +kernel
theorem dX7_go_91 : decode cX7_go 91 = .ok (.getfield 47, 3) := by decide +kernel
theorem dX7_go_94 : decode cX7_go 94 = .ok (.getfield 103, 3) := by decide +kernel
theorem dX7_go_97 : decode cX7_go 97 = .ok (.iastore, 1) := by decide +kernel
theorem dX7_go_98 : decode cX7_go 98 = .ok (.iload_n 3, 1) := by decide +kernel
theorem dX7_go_99 : decode cX7_go 99 = .ok (.ireturn, 1) := by decide +kernel
theorem dX7_die_0 : decode cX7_die 0 = .ok (.aload_n 0, 1) := by decide +kernel
theorem dX7_die_1 : decode cX7_die 1 = .ok (.getfield 66, 3) := by decide +kernel
theorem dX7_die_4 : decode cX7_die 4 = .ok (.iload_n 1, 1) := by decide +kernel
theorem dX7_die_5 : decode cX7_die 5 = .ok (.invokevirtual 120, 3) := by decide +kernel
theorem dX7_die_8 : decode cX7_die 8 = .ok (.ifCond .ne 5, 3) := by decide +kernel
theorem dX7_die_11 : decode cX7_die 11 = .ok (.iconst (-1), 1) := by decide +kernel
theorem dX7_die_12 : decode cX7_die 12 = .ok (.ireturn, 1) := by decide +kernel
theorem dX7_die_13 : decode cX7_die 13 = .ok (.aload_n 0, 1) := by decide +kernel
theorem dX7_die_14 : decode cX7_die 14 = .ok (.getfield 47, 3) := by decide +kernel
theorem dX7_die_17 : decode cX7_die 17 = .ok (.iload_n 1, 1) := by decide +kernel
theorem dX7_die_18 : decode cX7_die 18 = .ok (.invokevirtual 167, 3) := by decide +kernel
theorem dX7_die_21 : decode cX7_die 21 = .ok (.ifCond .ne 6, 3) := by decide +kernel
theorem dX7_die_24 : decode cX7_die 24 = .ok (.bipush (-3), 2) := by decide +kernel
theorem dX7_die_26 : decode cX7_die 26 = .ok (.ireturn, 1) := by decide +kernel
theorem dX7_die_27 : decode cX7_die 27 = .ok (.aload_n 0, 1) := by decide +kernel
theorem dX7_die_28 : decode cX7_die 28 = .ok (.getfield 40, 3) := by decide +kernel
theorem dX7_die_31 : decode cX7_die 31 = .ok (.aload_n 0, 1) := by decide +kernel
theorem dX7_die_32 : decode cX7_die 32 = .ok (.getfield 47, 3) := by decide +kernel
theorem dX7_die_35 : decode cX7_die 35 = .ok (.invokevirtual 170, 3) := by decide +kernel
theorem dX7_die_38 : decode cX7_die 38 = .ok (.aload_n 0, 1) := by decide +kernel
theorem dX7_die_39 : decode cX7_die 39 = .ok (.getfield 47, 3) := by decide +kernel
theorem dX7_die_42 : decode cX7_die 42 = .ok (.getfield 139, 3) := by decide +kernel
theorem dX7_die_45 : decode cX7_die 45 = .ok (.iload_n 1, 1) := by decide +kernel
theorem dX7_die_46 : decode cX7_die 46 = .ok (.aload_n 0, 1) := by decide +kernel
theorem dX7_die_47 : decode cX7_die 47 = .ok (.getfield 47, 3) := by decide +kernel
theorem dX7_die_50 : decode cX7_die 50 = .ok (.getfield 103, 3) := by decide +kernel
theorem dX7_die_53 : decode cX7_die 53 = .ok (.iastore, 1) := by decide +kernel
theorem dX7_die_54 : decode cX7_die 54 = .ok (.aload_n 0, 1) := by decide +kernel
theorem dX7_die_55 : decode cX7_die 55 = .ok (.getfield 47, 3) := by decide +kernel
theorem dX7_die_58 : decode cX7_die 58 = .ok (.iload_n 1, 1) := by decide +kernel
theorem dX7_die_59 : decode cX7_die 59 = .ok (.aload_n 0, 1) := by decide +kernel
theorem dX7_die_60 : decode cX7_die 60 = .ok (.getfield 66, 3) := by decide +kernel
theorem dX7_die_63 : decode cX7_die 63 = .ok (.invokevirtual 174, 3) := by decide +kernel
theorem dX7_die_66 : decode cX7_die 66 = .ok (.ireturn, 1) := by decide +kernel
theorem dX7_year_0 : decode cX7_year 0 = .ok (.aload_n 0, 1) := by decide +kernel
theorem dX7_year_1 : decode cX7_year 1 = .ok (.getfield 40, 3) := by decide +kernel
theorem dX7_year_4 : decode cX7_year 4 = .ok (.aload_n 0, 1) := by decide +kernel
theorem dX7_year_5 : decode cX7_year 5 = .ok (.getfield 47, 3) := by decide +kernel
theorem dX7_year_8 : decode cX7_year 8 = .ok (.invokevirtual 170, 3) := by decide +kernel
theorem dX7_year_11 : decode cX7_year 11 = .ok (.aload_n 0, 1) := by decide +kernel
theorem dX7_year_12 : decode cX7_year 12 = .ok (.getfield 47, 3) := by decide +kernel
theorem dX7_year_15 : decode cX7_year 15 = .ok (.invokevirtual 178, 3) := by decide +kernel
theorem dX7_year_18 : decode cX7_year 18 = .ok (.aload_n 0, 1) := by decide +kernel
theorem dX7_year_19 : decode cX7_year 19 = .ok (.getfield 47, 3) := by decide +kernel
theorem dX7_year_22 : decode cX7_year 22 = .ok (.getfield 103, 3) := by decide +kernel
theorem dX7_year_25 : decode cX7_year 25 = .ok (.ireturn, 1) := by decide +kernel
theorem dX7_rumour_0 : decode cX7_rumour 0 = .ok (.aload_n 0, 1) := by decide +kernel
theorem dX7_rumour_1 : decode cX7_rumour 1 = .ok (.getfield 66, 3) := by decide +kernel
theorem dX7_rumour_4 : decode cX7_rumour 4 = .ok (.iload_n 1, 1) := by decide +kernel
theorem dX7_rumour_5 : decode cX7_rumour 5 = .ok (.invokevirtual 149, 3) := by decide +kernel
theorem dX7_rumour_8 : decode cX7_rumour 8 = .ok (.ifCond .ne 5, 3) := by decide +kernel
theorem dX7_rumour_11 : decode cX7_rumour 11 = .ok (.iconst (-1), 1) := by decide +kernel
theorem dX7_rumour_12 : decode cX7_rumour 12 = .ok (.ireturn, 1) := by decide +kernel
theorem dX7_rumour_13 : decode cX7_rumour 13 = .ok (.iload_n 2, 1) := by decide +kernel
theorem dX7_rumour_14 : decode cX7_rumour 14 = .ok (.iconst 1, 1) := by decide +kernel
theorem dX7_rumour_15 : decode cX7_rumour 15 = .ok (.if_icmp .lt 9, 3) := by decide +kernel
theorem dX7_rumour_18 : decode cX7_rumour 18 = .ok (.iload_n 2, 1) := by decide +kernel
theorem dX7_rumour_19 : decode cX7_rumour 19 = .ok (.bipush 9, 2) := by decide +kernel
theorem dX7_rumour_21 : decode cX7_rumour 21 = .ok (.if_icmp .le 6, 3) := by decide +kernel
theorem dX7_rumour_24 : decode cX7_rumour 24 = .ok (.bipush (-2), 2) := by decide +kernel
theorem dX7_rumour_26 : decode cX7_rumour 26 = .ok (.ireturn, 1) := by decide +kernel
theorem dX7_rumour_27 : decode cX7_rumour 27 = .ok (.aload_n 0, 1) := by decide +kernel
theorem dX7_rumour_28 : decode cX7_rumour 28 = .ok (.getfield 47, 3) := by decide +kernel
theorem dX7_rumour_31 : decode cX7_rumour 31 = .ok (.getfield 158, 3) := by decide +kernel
theorem dX7_rumour_34 : decode cX7_rumour 34 = .ok (.iload_n 1, 1) := by decide +kernel
theorem dX7_rumour_35 : decode cX7_rumour 35 = .ok (.iaload, 1) := by decide +kernel
theorem dX7_rumour_36 : decode cX7_rumour 36 = .ok (.iload_n 2, 1) := by decide +kernel
theorem dX7_rumour_37 : decode cX7_rumour 37 = .ok (.iadd, 1) := by decide +kernel
theorem dX7_rumour_38 : decode cX7_rumour 38 = .ok (.bipush 99, 2) := by decide +kernel
theorem dX7_rumour_40 : decode cX7_rumour 40 = .ok (.if_icmp .le 6, 3) := by decide +kernel
theorem dX7_rumour_43 : decode cX7_rumour 43 = .ok (.bipush (-4), 2) := by decide +kernel
theorem dX7_rumour_45 : decode cX7_rumour 45 = .ok (.ireturn, 1) := by decide +kernel
theorem dX7_rumour_46 : decode cX7_rumour 46 = .ok (.aload_n 0, 1) := by decide +kernel
theorem dX7_rumour_47 : decode cX7_rumour 47 = .ok (.getfield 40, 3) := by decide +kernel
theorem dX7_rumour_50 : decode cX7_rumour 50 = .ok (.aload_n 0, 1) := by decide +kernel
theorem dX7_rumour_51 : decode cX7_rumour 51 = .ok (.getfield 47, 3) := by decide +kernel
theorem dX7_rumour_54 : decode cX7_rumour 54 = .ok (.invokevirtual 170, 3) := by decide +kernel
theorem dX7_rumour_57 : decode cX7_rumour 57 = .ok (.aload_n 0, 1) := by decide +kernel
theorem dX7_rumour_58 : decode cX7_rumour 58 = .ok (.getfield 47, 3) := by decide +kernel
theorem dX7_rumour_61 : decode cX7_rumour 61 = .ok (.getfield 158, 3) := by decide +kernel
theorem dX7_rumour_64 : decode cX7_rumour 64 = .ok (.iload_n 1, 1) := by decide +kernel
theorem dX7_rumour_65 : decode cX7_rumour 65 = .ok (.dup2, 1) := by decide +kernel
theorem dX7_rumour_66 : decode cX7_rumour 66 = .ok (.iaload, 1) := by decide +kernel
theorem dX7_rumour_67 : decode cX7_rumour 67 = .ok (.iload_n 2, 1) := by decide +kernel
theorem dX7_rumour_68 : decode cX7_rumour 68 = .ok (.iadd, 1) := by decide +kernel
theorem dX7_rumour_69 : decode cX7_rumour 69 = .ok (.iastore, 1) := by decide +kernel
theorem dX7_rumour_70 : decode cX7_rumour 70 = .ok (.aload_n 0, 1) := by decide +kernel
theorem dX7_rumour_71 : decode cX7_rumour 71 = .ok (.getfield 47, 3) := by decide +kernel
theorem dX7_rumour_74 : decode cX7_rumour 74 = .ok (.getfield 158, 3) := by decide +kernel
theorem dX7_rumour_77 : decode cX7_rumour 77 = .ok (.iload_n 1, 1) := by decide +kernel
theorem dX7_rumour_78 : decode cX7_rumour 78 = .ok (.iaload, 1) := by decide +kernel
theorem dX7_rumour_79 : decode cX7_rumour 79 = .ok (.ireturn, 1) := by decide +kernel
theorem dX7_undo_0 : decode cX7_undo 0 = .ok (.aload_n 0, 1) := by decide +kernel
theorem dX7_undo_1 : decode cX7_undo 1 = .ok (.getfield 40, 3) := by decide +kernel
theorem dX7_undo_4 : decode cX7_undo 4 = .ok (.invokevirtual 119, 3) := by decide +kernel
theorem dX7_undo_7 : decode cX7_undo 7 = .ok (.ifCond .ne 6, 3) := by decide +kernel
theorem dX7_undo_10 : decode cX7_undo 10 = .ok (.bipush (-3), 2) := by decide +kernel
theorem dX7_undo_12 : decode cX7_undo 12 = .ok (.ireturn, 1) := by decide +kernel
theorem dX7_undo_13 : decode cX7_undo 13 = .ok (.aload_n 0, 1) := by decide +kernel
theorem dX7_undo_14 : decode cX7_undo 14 = .ok (.getfield 40, 3) := by decide +kernel
theorem dX7_undo_17 : decode cX7_undo 17 = .ok (.aload_n 0, 1) := by decide +kernel
theorem dX7_undo_18 : decode cX7_undo 18 = .ok (.getfield 47, 3) := by decide +kernel
theorem dX7_undo_21 : decode cX7_undo 21 = .ok (.invokevirtual 181, 3) := by decide +kernel
theorem dX7_undo_24 : decode cX7_undo 24 = .ok (.aload_n 0, 1) := by decide +kernel
theorem dX7_undo_25 : decode cX7_undo 25 = .ok (.getfield 40, 3) := by decide +kernel
theorem dX7_undo_28 : decode cX7_undo 28 = .ok (.invokevirtual 119, 3) := by decide +kernel
theorem dX7_undo_31 : decode cX7_undo 31 = .ok (.ireturn, 1) := by decide +kernel
theorem dX7_forgotten_0 : decode cX7_forgotten 0 = .ok (.aload_n 0, 1) := by decide +kernel
theorem dX7_forgotten_1 : decode cX7_forgotten 1 = .ok (.getfield 66, 3) := by decide +kernel
theorem dX7_forgotten_4 : decode cX7_forgotten 4 = .ok (.iload_n 1, 1) := by decide +kernel
theorem dX7_forgotten_5 : decode cX7_forgotten 5 = .ok (.invokevirtual 120, 3) := by decide +kernel
theorem dX7_forgotten_8 : decode cX7_forgotten 8 = .ok (.ifCond .ne 5, 3) := by decide +kernel
theorem dX7_forgotten_11 : decode cX7_forgotten 11 = .ok (.iconst (-1), 1) := by decide +kernel
theorem dX7_forgotten_12 : decode cX7_forgotten 12 = .ok (.ireturn, 1) := by decide +kernel
theorem dX7_forgotten_13 : decode cX7_forgotten 13 = .ok (.aload_n 0, 1) := by decide +kernel
theorem dX7_forgotten_14 : decode cX7_forgotten 14 = .ok (.getfield 47, 3) := by decide +kernel
theorem dX7_forgotten_17 : decode cX7_forgotten 17 = .ok (.getfield 103, 3) := by decide +kernel
theorem dX7_forgotten_20 : decode cX7_forgotten 20 = .ok (.istore_n 2, 1) := by decide +kernel
theorem dX7_forgotten_21 : decode cX7_forgotten 21 = .ok (.iconst 0, 1) := by decide +kernel
theorem dX7_forgotten_22 : decode cX7_forgotten 22 = .ok (.istore_n 3, 1) := by decide +kernel
theorem dX7_forgotten_23 : decode cX7_forgotten 23 = .ok (.iload_n 3, 1) := by decide +kernel
theorem dX7_forgotten_24 : decode cX7_forgotten 24 = .ok (.bipush 9, 2) := by decide +kernel
theorem dX7_forgotten_26 : decode cX7_forgotten 26 = .ok (.if_icmp .gt 21, 3) := by decide +kernel
theorem dX7_forgotten_29 : decode cX7_forgotten 29 = .ok (.aload_n 0, 1) := by decide +kernel
theorem dX7_forgotten_30 : decode cX7_forgotten 30 = .ok (.iload_n 1, 1) := by decide +kernel
theorem dX7_forgotten_31 : decode cX7_forgotten 31 = .ok (.iload_n 2, 1) := by decide +kernel
theorem dX7_forgotten_32 : decode cX7_forgotten 32 = .ok (.invokevirtual 184, 3) := by decide +kernel
theorem dX7_forgotten_35 : decode cX7_forgotten 35 = .ok (.ifCond .eq 12, 3) := by decide +kernel
theorem dX7_forgotten_38 : decode cX7_forgotten 38 = .ok (.iinc 2 1, 3) := by decide +kernel
theorem dX7_forgotten_41 : decode cX7_forgotten 41 = .ok (.iinc 3 1, 3) := by decide +kernel
theorem dX7_forgotten_44 : decode cX7_forgotten 44 = .ok (.goto (-21), 3) := by decide +kernel
theorem dX7_forgotten_47 : decode cX7_forgotten 47 = .ok (.iload_n 2, 1) := by decide +kernel
theorem dX7_forgotten_48 : decode cX7_forgotten 48 = .ok (.ireturn, 1) := by decide +kernel
theorem dX7_lie_0 : decode cX7_lie 0 = .ok (.aload_n 0, 1) := by decide +kernel
theorem dX7_lie_1 : decode cX7_lie 1 = .ok (.getfield 66, 3) := by decide +kernel
theorem dX7_lie_4 : decode cX7_lie 4 = .ok (.iload_n 1, 1) := by decide +kernel
theorem dX7_lie_5 : decode cX7_lie 5 = .ok (.invokevirtual 149, 3) := by decide +kernel
theorem dX7_lie_8 : decode cX7_lie 8 = .ok (.ifCond .ne 5, 3) := by decide +kernel
theorem dX7_lie_11 : decode cX7_lie 11 = .ok (.iconst (-1), 1) := by decide +kernel
theorem dX7_lie_12 : decode cX7_lie 12 = .ok (.ireturn, 1) := by decide +kernel
theorem dX7_lie_13 : decode cX7_lie 13 = .ok (.iload_n 2, 1) := by decide +kernel
theorem dX7_lie_14 : decode cX7_lie 14 = .ok (.ifCond .lt 9, 3) := by decide +kernel
theorem dX7_lie_17 : decode cX7_lie 17 = .ok (.iload_n 2, 1) := by decide +kernel
theorem dX7_lie_18 : decode cX7_lie 18 = .ok (.bipush 99, 2) := by decide +kernel
theorem dX7_lie_20 : decode cX7_lie 20 = .ok (.if_icmp .le 6, 3) := by decide +kernel
theorem dX7_lie_23 : decode cX7_lie 23 = .ok (.bipush (-2), 2) := by decide +kernel
theorem dX7_lie_25 : decode cX7_lie 25 = .ok (.ireturn, 1) := by decide +kernel
theorem dX7_lie_26 : decode cX7_lie 26 = .ok (.aload_n 0, 1) := by decide +kernel
theorem dX7_lie_27 : decode cX7_lie 27 = .ok (.iload_n 1, 1) := by decide +kernel
theorem dX7_lie_28 : decode cX7_lie 28 = .ok (.invokevirtual 152, 3) := by decide +kernel
theorem dX7_lie_31 : decode cX7_lie 31 = .ok (.istore_n 3, 1) := by decide +kernel
theorem dX7_lie_32 : decode cX7_lie 32 = .ok (.iload_n 3, 1) := by decide +kernel
theorem dX7_lie_33 : decode cX7_lie 33 = .ok (.iload_n 2, 1) := by decide +kernel
theorem dX7_lie_34 : decode cX7_lie 34 = .ok (.if_icmp .lt 5, 3) := by decide +kernel
theorem dX7_lie_37 : decode cX7_lie 37 = .ok (.iconst 0, 1) := by decide +kernel
theorem dX7_lie_38 : decode cX7_lie 38 = .ok (.ireturn, 1) := by decide +kernel
theorem dX7_lie_39 : decode cX7_lie 39 = .ok (.aload_n 0, 1) := by decide +kernel
theorem dX7_lie_40 : decode cX7_lie 40 = .ok (.iload_n 1, 1) := by decide +kernel
theorem dX7_lie_41 : decode cX7_lie 41 = .ok (.invokevirtual 188, 3) := by decide +kernel
theorem dX7_lie_44 : decode cX7_lie 44 = .ok (.iload_n 2, 1) := by decide +kernel
theorem dX7_lie_45 : decode cX7_lie 45 = .ok (.if_icmp .lt 9, 3) := by decide +kernel
theorem dX7_lie_48 : decode cX7_lie 48 = .ok (.iload_n 2, 1) := by decide +kernel
theorem dX7_lie_49 : decode cX7_lie 49 = .ok (.iload_n 3, 1) := by decide +kernel
theorem dX7_lie_50 : decode cX7_lie 50 = .ok (.isub, 1) := by decide +kernel
theorem dX7_lie_51 : decode cX7_lie 51 = .ok (.goto 5, 3) := by decide +kernel
theorem dX7_lie_54 : decode cX7_lie 54 = .ok (.bipush (-9), 2) := by decide +kernel
theorem dX7_lie_56 : decode cX7_lie 56 = .ok (.ireturn, 1) := by decide +kernel
theorem dX7_leave_0 : decode cX7_leave 0 = .ok (.aload_n 0, 1) := by decide +kernel
theorem dX7_leave_1 : decode cX7_leave 1 = .ok (.getfield 66, 3) := by decide +kernel
theorem dX7_leave_4 : decode cX7_leave 4 = .ok (.iload_n 1, 1) := by decide +kernel
theorem dX7_leave_5 : decode cX7_leave 5 = .ok (.invokevirtual 149, 3) := by decide +kernel
theorem dX7_leave_8 : decode cX7_leave 8 = .ok (.ifCond .ne 5, 3) := by decide +kernel
theorem dX7_leave_11 : decode cX7_leave 11 = .ok (.iconst (-1), 1) := by decide +kernel
theorem dX7_leave_12 : decode cX7_leave 12 = .ok (.ireturn, 1) := by decide +kernel
theorem dX7_leave_13 : decode cX7_leave 13 = .ok (.iload_n 2, 1) := by decide +kernel
theorem dX7_leave_14 : decode cX7_leave 14 = .ok (.ifCond .lt 9, 3) := by decide +kernel
theorem dX7_leave_17 : decode cX7_leave 17 = .ok (.iload_n 2, 1) := by decide +kernel
theorem dX7_leave_18 : decode cX7_leave 18 = .ok (.bipush 99, 2) := by decide +kernel
theorem dX7_leave_20 : decode cX7_leave 20 = .ok (.if_icmp .le 6, 3) := by decide +kernel
theorem dX7_leave_23 : decode cX7_leave 23 = .ok (.bipush (-2), 2) := by decide +kernel
theorem dX7_leave_25 : decode cX7_leave 25 = .ok (.ireturn, 1) := by decide +kernel
theorem dX7_leave_26 : decode cX7_leave 26 = .ok (.aload_n 0, 1) := by decide +kernel
theorem dX7_leave_27 : decode cX7_leave 27 = .ok (.getfield 47, 3) := by decide +kernel
theorem dX7_leave_30 : decode cX7_leave 30 = .ok (.getfield 158, 3) := by decide +kernel
theorem dX7_leave_33 : decode cX7_leave 33 = .ok (.iload_n 1, 1) := by decide +kernel
theorem dX7_leave_34 : decode cX7_leave 34 = .ok (.iaload, 1) := by decide +kernel
theorem dX7_leave_35 : decode cX7_leave 35 = .ok (.iload_n 2, 1) := by decide +kernel
theorem dX7_leave_36 : decode cX7_leave 36 = .ok (.if_icmp .le 6, 3) := by decide +kernel
theorem dX7_leave_39 : decode cX7_leave 39 = .ok (.bipush (-9), 2) := by decide +kernel
theorem dX7_leave_41 : decode cX7_leave 41 = .ok (.ireturn, 1) := by decide +kernel
theorem dX7_leave_42 : decode cX7_leave 42 = .ok (.aload_n 0, 1) := by decide +kernel
theorem dX7_leave_43 : decode cX7_leave 43 = .ok (.aload_n 0, 1) := by decide +kernel
theorem dX7_leave_44 : decode cX7_leave 44 = .ok (.iload_n 1, 1) := by decide +kernel
theorem dX7_leave_45 : decode cX7_leave 45 = .ok (.invokevirtual 191, 3) := by decide +kernel
theorem dX7_leave_48 : decode cX7_leave 48 = .ok (.iload_n 2, 1) := by decide +kernel
theorem dX7_leave_49 : decode cX7_leave 49 = .ok (.aload_n 0, 1) := by decide +kernel
theorem dX7_leave_50 : decode cX7_leave 50 = .ok (.getfield 47, 3) := by decide +kernel
theorem dX7_leave_53 : decode cX7_leave 53 = .ok (.getfield 158, 3) := by decide +kernel
theorem dX7_leave_56 : decode cX7_leave 56 = .ok (.iload_n 1, 1) := by decide +kernel
theorem dX7_leave_57 : decode cX7_leave 57 = .ok (.iaload, 1) := by decide +kernel
theorem dX7_leave_58 : decode cX7_leave 58 = .ok (.isub, 1) := by decide +kernel
theorem dX7_leave_59 : decode cX7_leave 59 = .ok (.invokevirtual 194, 3) := by decide +kernel
theorem dX7_leave_62 : decode cX7_leave 62 = .ok (.ireturn, 1) := by decide +kernel
theorem dX7_spans_0 : decode cX7_spans 0 = .ok (.aload_n 0, 1) := by decide +kernel
theorem dX7_spans_1 : decode cX7_spans 1 = .ok (.getfield 66, 3) := by decide +kernel
theorem dX7_spans_4 : decode cX7_spans 4 = .ok (.iload_n 1, 1) := by decide +kernel
theorem dX7_spans_5 : decode cX7_spans 5 = .ok (.invokevirtual 149, 3) := by decide +kernel
theorem dX7_spans_8 : decode cX7_spans 8 = .ok (.ifCond .ne 5, 3) := by decide +kernel
theorem dX7_spans_11 : decode cX7_spans 11 = .ok (.iconst (-1), 1) := by decide +kernel
theorem dX7_spans_12 : decode cX7_spans 12 = .ok (.ireturn, 1) := by decide +kernel
theorem dX7_spans_13 : decode cX7_spans 13 = .ok (.iload_n 2, 1) := by decide +kernel
theorem dX7_spans_14 : decode cX7_spans 14 = .ok (.ifCond .lt 18, 3) := by decide +kernel
theorem dX7_spans_17 : decode cX7_spans 17 = .ok (.iload_n 2, 1) := by decide +kernel
theorem dX7_spans_18 : decode cX7_spans 18 = .ok (.bipush 99, 2) := by decide +kernel
theorem dX7_spans_20 : decode cX7_spans 20 = .ok (.if_icmp .gt 12, 3) := by decide +kernel
theorem dX7_spans_23 : decode cX7_spans 23 = .ok (.iload_n 3, 1) := by decide +kernel
theorem dX7_spans_24 : decode cX7_spans 24 = .ok (.ifCond .lt 8, 3) := by decide +kernel
theorem dX7_spans_27 : decode cX7_spans 27 = .ok (.iload_n 3, 1) := by decide +kernel
theorem dX7_spans_28 : decode cX7_spans 28 = .ok (.iconst 2, 1) := by decide +kernel
theorem dX7_spans_29 : decode cX7_spans 29 = .ok (.if_icmp .le 6, 3) := by decide +kernel
theorem dX7_spans_32 : decode cX7_spans 32 = .ok (.bipush (-2), 2) := by decide +kernel
theorem dX7_spans_34 : decode cX7_spans 34 = .ok (.ireturn, 1) := by decide +kernel
theorem dX7_spans_35 : decode cX7_spans 35 = .ok (.aload_n 0, 1) := by decide +kernel
theorem dX7_spans_36 : decode cX7_spans 36 = .ok (.getfield 66, 3) := by decide +kernel
theorem dX7_spans_39 : decode cX7_spans 39 = .ok (.iload_n 1, 1) := by decide +kernel
theorem dX7_spans_40 : decode cX7_spans 40 = .ok (.invokevirtual 161, 3) := by decide +kernel
theorem dX7_spans_43 : decode cX7_spans 43 = .ok (.istore 4, 2) := by decide +kernel
theorem dX7_spans_45 : decode cX7_spans 45 = .ok (.iconst 1, 1) := by decide +kernel
theorem dX7_spans_46 : decode cX7_spans 46 = .ok (.iload 4, 2) := by decide +kernel
theorem dX7_spans_48 : decode cX7_spans 48 = .ok (.invokestatic 197, 3) := by decide +kernel
theorem dX7_spans_51 : decode cX7_spans 51 = .ok (.ishl, 1) := by decide +kernel
theorem dX7_spans_52 : decode cX7_spans 52 = .ok (.istore 5, 2) := by decide +kernel
theorem dX7_spans_54 : decode cX7_spans 54 = .ok (.iconst 0, 1) := by decide +kernel
theorem dX7_spans_55 : decode cX7_spans 55 = .ok (.istore 6, 2) := by decide +kernel
theorem dX7_spans_57 : decode cX7_spans 57 = .ok (.bipush (-9), 2) := by decide +kernel
theorem dX7_spans_59 : decode cX7_spans 59 = .ok (.istore 7, 2) := by decide +kernel
theorem dX7_spans_61 : decode cX7_spans 61 = .ok (.bipush (-9), 2) := by decide +kernel
theorem dX7_spans_63 : decode cX7_spans 63 = .ok (.istore 8, 2) := by decide +kernel
theorem dX7_spans_65 : decode cX7_spans 65 = .ok (.iconst 0, 1) := by decide +kernel
theorem dX7_spans_66 : decode cX7_spans 66 = .ok (.istore 9, 2) := by decide +kernel
theorem dX7_spans_68 : decode cX7_spans 68 = .ok (.iconst 0, 1) := by decide +kernel
theorem dX7_spans_69 : decode cX7_spans 69 = .ok (.istore 10, 2) := by decide +kernel
theorem dX7_spans_71 : decode cX7_spans 71 = .ok (.iload 10, 2) := by decide +kernel
theorem dX7_spans_73 : decode cX7_spans 73 = .ok (.iload 5, 2) := by decide +kernel
theorem dX7_spans_75 : decode cX7_spans 75 = .ok (.if_icmp .ge 73, 3) := by decide +kernel
theorem dX7_spans_78 : decode cX7_spans 78 = .ok (.aload_n 0, 1) := by decide +kernel
theorem dX7_spans_79 : decode cX7_spans 79 = .ok (.iload 4, 2) := by decide +kernel
theorem dX7_spans_81 : decode cX7_spans 81 = .ok (.iload 9, 2) := by decide +kernel
theorem dX7_spans_83 : decode cX7_spans 83 = .ok (.invokevirtual 202, 3) := by decide +kernel
theorem dX7_spans_86 : decode cX7_spans 86 = .ok (.iload_n 2, 1) := by decide +kernel
theorem dX7_spans_87 : decode cX7_spans 87 = .ok (.if_icmp .ne 46, 3) := by decide +kernel
theorem dX7_spans_90 : decode cX7_spans 90 = .ok (.iload 4, 2) := by decide +kernel
theorem dX7_spans_92 : decode cX7_spans 92 = .ok (.iload 9, 2) := by decide +kernel
theorem dX7_spans_94 : decode cX7_spans 94 = .ok (.iconst (-1), 1) := by decide +kernel
theorem dX7_spans_95 : decode cX7_spans 95 = .ok (.ixor, 1) := by decide +kernel
theorem dX7_spans_96 : decode cX7_spans 96 = .ok (.iand, 1) := by decide +kernel
theorem dX7_spans_97 : decode cX7_spans 97 = .ok (.invokestatic 197, 3) := by decide +kernel
theorem dX7_spans_100 : decode cX7_spans 100 = .ok (.istore 11, 2) := by decide +kernel
theorem dX7_spans_102 : decode cX7_spans 102 = .ok (.iload 6, 2) := by decide +kernel
theorem dX7_spans_104 : decode cX7_spans 104 = .ok (.ifCond .ne 8, 3) := by decide +kernel
theorem dX7_spans_107 : decode cX7_spans 107 = .ok (.iload 11, 2) := by decide +kernel
theorem dX7_spans_109 : decode cX7_spans 109 = .ok (.goto 10, 3) := by decide +kernel
theorem dX7_spans_112 : decode cX7_spans 112 = .ok (.iload 7, 2) := by decide +kernel
theorem dX7_spans_114 : decode cX7_spans 114 = .ok (.iload 11, 2) := by decide +kernel
theorem dX7_spans_116 : decode cX7_spans 116 = .ok (.invokestatic 205, 3) := by decide +kernel
theorem dX7_spans_119 : decode cX7_spans 119 = .ok (.istore 7, 2) := by decide +kernel
theorem dX7_spans_121 : decode cX7_spans 121 = .ok (.iload 8, 2) := by decide +kernel
theorem dX7_spans_123 : decode cX7_spans 123 = .ok (.iload 11, 2) := by decide +kernel
theorem dX7_spans_125 : decode cX7_spans 125 = .ok (.invokestatic 210, 3) := by decide +kernel
theorem dX7_spans_128 : decode cX7_spans 128 = .ok (.istore 8, 2) := by decide +kernel
theorem dX7_spans_130 : decode cX7_spans 130 = .ok (.iinc 6 1, 3) := by decide +kernel
theorem dX7_spans_133 : decode cX7_spans 133 = .ok (.iload 9, 2) := by decide +kernel
theorem dX7_spans_135 : decode cX7_spans 135 = .ok (.iload 4, 2) := by decide +kernel
theorem dX7_spans_137 : decode cX7_spans 137 = .ok (.invokestatic 213, 3) := by decide +kernel
theorem dX7_spans_140 : decode cX7_spans 140 = .ok (.istore 9, 2) := by decide +kernel
theorem dX7_spans_142 : decode cX7_spans 142 = .ok (.iinc 10 1, 3) := by decide +kernel
theorem dX7_spans_145 : decode cX7_spans 145 = .ok (.goto (-74), 3) := by decide +kernel
theorem dX7_spans_148 : decode cX7_spans 148 = .ok (.iload_n 3, 1) := by decide +kernel
theorem dX7_spans_149 : decode cX7_spans 149 = .ok (.ifCond .ne 8, 3) := by decide +kernel
theorem dX7_spans_152 : decode cX7_spans 152 = .ok (.iload 6, 2) := by decide +kernel
theorem dX7_spans_154 : decode cX7_spans 154 = .ok (.goto 15, 3) := by decide +kernel
theorem dX7_spans_157 : decode cX7_spans 157 = .ok (.iload_n 3, 1) := by decide +kernel
theorem dX7_spans_158 : decode cX7_spans 158 = .ok (.iconst 1, 1) := by decide +kernel
theorem dX7_spans_159 : decode cX7_spans 159 = .ok (.if_icmp .ne 8, 3) := by decide +kernel
theorem dX7_spans_162 : decode cX7_spans 162 = .ok (.iload 7, 2) := by decide +kernel
theorem dX7_spans_164 : decode cX7_spans 164 = .ok (.goto 5, 3) := by decide +kernel
theorem dX7_spans_167 : decode cX7_spans 167 = .ok (.iload 8, 2) := by decide +kernel
theorem dX7_spans_169 : decode cX7_spans 169 = .ok (.ireturn, 1) := by decide +kernel
theorem dX7_toAsk_0 : decode cX7_toAsk 0 = .ok (.aload_n 0, 1) := by decide +kernel
theorem dX7_toAsk_1 : decode cX7_toAsk 1 = .ok (.getfield 66, 3) := by decide +kernel
theorem dX7_toAsk_4 : decode cX7_toAsk 4 = .ok (.iload_n 1, 1) := by decide +kernel
theorem dX7_toAsk_5 : decode cX7_toAsk 5 = .ok (.invokevirtual 149, 3) := by decide +kernel
theorem dX7_toAsk_8 : decode cX7_toAsk 8 = .ok (.ifCond .ne 5, 3) := by decide +kernel
theorem dX7_toAsk_11 : decode cX7_toAsk 11 = .ok (.iconst (-1), 1) := by decide +kernel
theorem dX7_toAsk_12 : decode cX7_toAsk 12 = .ok (.ireturn, 1) := by decide +kernel
theorem dX7_toAsk_13 : decode cX7_toAsk 13 = .ok (.iload_n 2, 1) := by decide +kernel
theorem dX7_toAsk_14 : decode cX7_toAsk 14 = .ok (.ifCond .lt 9, 3) := by decide +kernel
theorem dX7_toAsk_17 : decode cX7_toAsk 17 = .ok (.iload_n 2, 1) := by decide +kernel
theorem dX7_toAsk_18 : decode cX7_toAsk 18 = .ok (.bipush 99, 2) := by decide +kernel
theorem dX7_toAsk_20 : decode cX7_toAsk 20 = .ok (.if_icmp .le 6, 3) := by decide +kernel
theorem dX7_toAsk_23 : decode cX7_toAsk 23 = .ok (.bipush (-2), 2) := by decide +kernel
theorem dX7_toAsk_25 : decode cX7_toAsk 25 = .ok (.ireturn, 1) := by decide +kernel
theorem dX7_toAsk_26 : decode cX7_toAsk 26 = .ok (.aload_n 0, 1) := by decide +kernel
theorem dX7_toAsk_27 : decode cX7_toAsk 27 = .ok (.getfield 66, 3) := by decide +kernel
theorem dX7_toAsk_30 : decode cX7_toAsk 30 = .ok (.iload_n 1, 1) := by decide +kernel
theorem dX7_toAsk_31 : decode cX7_toAsk 31 = .ok (.invokevirtual 161, 3) := by decide +kernel
theorem dX7_toAsk_34 : decode cX7_toAsk 34 = .ok (.istore_n 3, 1) := by decide +kernel
theorem dX7_toAsk_35 : decode cX7_toAsk 35 = .ok (.bipush (-9), 2) := by decide +kernel
theorem dX7_toAsk_37 : decode cX7_toAsk 37 = .ok (.istore 4, 2) := by decide +kernel
theorem dX7_toAsk_39 : decode cX7_toAsk 39 = .ok (.iconst (-1), 1) := by decide +kernel
theorem dX7_toAsk_40 : decode cX7_toAsk 40 = .ok (.istore 5, 2) := by decide +kernel
theorem dX7_toAsk_42 : decode cX7_toAsk 42 = .ok (.aload_n 0, 1) := by decide +kernel
theorem dX7_toAsk_43 : decode cX7_toAsk 43 = .ok (.iload_n 3, 1) := by decide +kernel
theorem dX7_toAsk_44 : decode cX7_toAsk 44 = .ok (.iload_n 2, 1) := by decide +kernel
theorem dX7_toAsk_45 : decode cX7_toAsk 45 = .ok (.iconst 0, 1) := by decide +kernel
theorem dX7_toAsk_46 : decode cX7_toAsk 46 = .ok (.invokevirtual 216, 3) := by decide +kernel
theorem dX7_toAsk_49 : decode cX7_toAsk 49 = .ok (.istore 6, 2) := by decide +kernel
theorem dX7_toAsk_51 : decode cX7_toAsk 51 = .ok (.iconst 0, 1) := by decide +kernel
theorem dX7_toAsk_52 : decode cX7_toAsk 52 = .ok (.istore 7, 2) := by decide +kernel
theorem dX7_toAsk_54 : decode cX7_toAsk 54 = .ok (.iload 7, 2) := by decide +kernel
theorem dX7_toAsk_56 : decode cX7_toAsk 56 = .ok (.aload_n 0, 1) := by decide +kernel
theorem dX7_toAsk_57 : decode cX7_toAsk 57 = .ok (.getfield 66, 3) := by decide +kernel
theorem dX7_toAsk_60 : decode cX7_toAsk 60 = .ok (.getfield 93, 3) := by decide +kernel
theorem dX7_toAsk_63 : decode cX7_toAsk 63 = .ok (.if_icmp .ge 65, 3) := by decide +kernel
theorem dX7_toAsk_66 : decode cX7_toAsk 66 = .ok (.iload 6, 2) := by decide +kernel
theorem dX7_toAsk_68 : decode cX7_toAsk 68 = .ok (.ifCond .le 60, 3) := by decide +kernel
theorem dX7_toAsk_71 : decode cX7_toAsk 71 = .ok (.iload_n 3, 1) := by decide +kernel
theorem dX7_toAsk_72 : decode cX7_toAsk 72 = .ok (.iload 7, 2) := by decide +kernel
theorem dX7_toAsk_74 : decode cX7_toAsk 74 = .ok (.invokestatic 220, 3) := by decide +kernel
theorem dX7_toAsk_77 : decode cX7_toAsk 77 = .ok (.ifCond .ne 6, 3) := by decide +kernel
theorem dX7_toAsk_80 : decode cX7_toAsk 80 = .ok (.goto 42, 3) := by decide +kernel
theorem dX7_toAsk_83 : decode cX7_toAsk 83 = .ok (.aload_n 0, 1) := by decide +kernel
theorem dX7_toAsk_84 : decode cX7_toAsk 84 = .ok (.iload_n 3, 1) := by decide +kernel
theorem dX7_toAsk_85 : decode cX7_toAsk 85 = .ok (.iload_n 2, 1) := by decide +kernel
theorem dX7_toAsk_86 : decode cX7_toAsk 86 = .ok (.iconst 1, 1) := by decide +kernel
theorem dX7_toAsk_87 : decode cX7_toAsk 87 = .ok (.iload 7, 2) := by decide +kernel
theorem dX7_toAsk_89 : decode cX7_toAsk 89 = .ok (.ishl, 1) := by decide +kernel
theorem dX7_toAsk_90 : decode cX7_toAsk 90 = .ok (.invokevirtual 216, 3) := by decide +kernel
theorem dX7_toAsk_93 : decode cX7_toAsk 93 = .ok (.istore 8, 2) := by decide +kernel
theorem dX7_toAsk_95 : decode cX7_toAsk 95 = .ok (.iload 8, 2) := by decide +kernel
theorem dX7_toAsk_97 : decode cX7_toAsk 97 = .ok (.iload 6, 2) := by decide +kernel
theorem dX7_toAsk_99 : decode cX7_toAsk 99 = .ok (.iload 8, 2) := by decide +kernel
theorem dX7_toAsk_101 : decode cX7_toAsk 101 = .ok (.isub, 1) := by decide +kernel
theorem dX7_toAsk_102 : decode cX7_toAsk 102 = .ok (.invokestatic 205, 3) := by decide +kernel
theorem dX7_toAsk_105 : decode cX7_toAsk 105 = .ok (.istore 9, 2) := by decide +kernel
theorem dX7_toAsk_107 : decode cX7_toAsk 107 = .ok (.iload 9, 2) := by decide +kernel
theorem dX7_toAsk_109 : decode cX7_toAsk 109 = .ok (.iload 5, 2) := by decide +kernel
theorem dX7_toAsk_111 : decode cX7_toAsk 111 = .ok (.if_icmp .le 11, 3) := by decide +kernel
theorem dX7_toAsk_114 : decode cX7_toAsk 114 = .ok (.iload 7, 2) := by decide +kernel
theorem dX7_toAsk_116 : decode cX7_toAsk 116 = .ok (.istore 4, 2) := by decide +kernel
theorem dX7_toAsk_118 : decode cX7_toAsk 118 = .ok (.iload 9, 2) := by decide +kernel
theorem dX7_toAsk_120 : decode cX7_toAsk 120 = .ok (.istore 5, 2) := by decide +kernel
theorem dX7_toAsk_122 : decode cX7_toAsk 122 = .ok (.iinc 7 1, 3) := by decide +kernel
theorem dX7_toAsk_125 : decode cX7_toAsk 125 = .ok (.goto (-71), 3) := by decide +kernel
theorem dX7_toAsk_128 : decode cX7_toAsk 128 = .ok (.iload 4, 2) := by decide +kernel
theorem dX7_toAsk_130 : decode cX7_toAsk 130 = .ok (.ireturn, 1) := by decide +kernel
theorem dX7_retold_0 : decode cX7_retold 0 = .ok (.aload_n 0, 1) := by decide +kernel
theorem dX7_retold_1 : decode cX7_retold 1 = .ok (.getfield 66, 3) := by decide +kernel
theorem dX7_retold_4 : decode cX7_retold 4 = .ok (.iload_n 1, 1) := by decide +kernel
theorem dX7_retold_5 : decode cX7_retold 5 = .ok (.invokevirtual 149, 3) := by decide +kernel
theorem dX7_retold_8 : decode cX7_retold 8 = .ok (.ifCond .ne 5, 3) := by decide +kernel
theorem dX7_retold_11 : decode cX7_retold 11 = .ok (.iconst (-1), 1) := by decide +kernel
theorem dX7_retold_12 : decode cX7_retold 12 = .ok (.ireturn, 1) := by decide +kernel
theorem dX7_retold_13 : decode cX7_retold 13 = .ok (.iload_n 2, 1) := by decide +kernel
theorem dX7_retold_14 : decode cX7_retold 14 = .ok (.iconst 1, 1) := by decide +kernel
theorem dX7_retold_15 : decode cX7_retold 15 = .ok (.if_icmp .lt 31, 3) := by decide +kernel
theorem dX7_retold_18 : decode cX7_retold 18 = .ok (.iload_n 2, 1) := by decide +kernel
theorem dX7_retold_19 : decode cX7_retold 19 = .ok (.iconst 3, 1) := by decide +kernel
theorem dX7_retold_20 : decode cX7_retold 20 = .ok (.if_icmp .gt 26, 3) := by decide +kernel
theorem dX7_retold_23 : decode cX7_retold 23 = .ok (.iload_n 3, 1) := by decide +kernel
theorem dX7_retold_24 : decode cX7_retold 24 = .ok (.ifCond .lt 22, 3) := by decide +kernel
theorem dX7_retold_27 : decode cX7_retold 27 = .ok (.iload_n 3, 1) := by decide +kernel
theorem dX7_retold_28 : decode cX7_retold 28 = .ok (.iload_n 2, 1) := by decide +kernel
theorem dX7_retold_29 : decode cX7_retold 29 = .ok (.invokestatic 223, 3) := by decide +kernel
theorem dX7_retold_32 : decode cX7_retold 32 = .ok (.if_icmp .ge 14, 3) := by decide +kernel
theorem dX7_retold_35 : decode cX7_retold 35 = .ok (.iload 4, 2) := by decide +kernel
theorem dX7_retold_37 : decode cX7_retold 37 = .ok (.ifCond .lt 9, 3) := by decide +kernel
theorem dX7_retold_40 : decode cX7_retold 40 = .ok (.iload 4, 2) := by decide +kernel
theorem dX7_retold_42 : decode cX7_retold 42 = .ok (.iconst 1, 1) := by decide +kernel
theorem dX7_retold_43 : decode cX7_retold 43 = .ok (.if_icmp .le 6, 3) := by decide +kernel
theorem dX7_retold_46 : decode cX7_retold 46 = .ok (.bipush (-2), 2) := by decide +kernel
theorem dX7_retold_48 : decode cX7_retold 48 = .ok (.ireturn, 1) := by decide +kernel
theorem dX7_retold_49 : decode cX7_retold 49 = .ok (.aload_n 0, 1) := by decide +kernel
theorem dX7_retold_50 : decode cX7_retold 50 = .ok (.getfield 66, 3) := by decide +kernel
theorem dX7_retold_53 : decode cX7_retold 53 = .ok (.iload_n 1, 1) := by decide +kernel
theorem dX7_retold_54 : decode cX7_retold 54 = .ok (.invokevirtual 161, 3) := by decide +kernel
theorem dX7_retold_57 : decode cX7_retold 57 = .ok (.istore 5, 2) := by decide +kernel
theorem dX7_retold_59 : decode cX7_retold 59 = .ok (.iload 5, 2) := by decide +kernel
theorem dX7_retold_61 : decode cX7_retold 61 = .ok (.invokestatic 197, 3) := by decide +kernel
theorem dX7_retold_64 : decode cX7_retold 64 = .ok (.bipush 6, 2) := by decide +kernel
theorem dX7_retold_66 : decode cX7_retold 66 = .ok (.if_icmp .le 6, 3) := by decide +kernel
theorem dX7_retold_69 : decode cX7_retold 69 = .ok (.bipush (-3), 2) := by decide +kernel
theorem dX7_retold_71 : decode cX7_retold 71 = .ok (.ireturn, 1) := by decide +kernel
theorem dX7_retold_72 : decode cX7_retold 72 = .ok (.aload_n 0, 1) := by decide +kernel
theorem dX7_retold_73 : decode cX7_retold 73 = .ok (.getfield 33, 3) := by decide +kernel
theorem dX7_retold_76 : decode cX7_retold 76 = .ok (.aload_n 0, 1) := by decide +kernel
theorem dX7_retold_77 : decode cX7_retold 77 = .ok (.getfield 66, 3) := by decide +kernel
theorem dX7_retold_80 : decode cX7_retold 80 = .ok (.iload 5, 2) := by decide +kernel
theorem dX7_retold_82 : decode cX7_retold 82 = .ok (.iload_n 2, 1) := by decide +kernel
theorem dX7_retold_83 : decode cX7_retold 83 = .ok (.iload_n 3, 1) := by decide +kernel
theorem dX7_retold_84 : decode cX7_retold 84 = .ok (.invokevirtual 226, 3) := by decide +kernel
theorem dX7_retold_87 : decode cX7_retold 87 = .ok (.iload 4, 2) := by decide +kernel
theorem dX7_retold_89 : decode cX7_retold 89 = .ok (.ifCond .ne 11, 3) := by decide +kernel
theorem dX7_retold_92 : decode cX7_retold 92 = .ok (.aload_n 0, 1) := by decide +kernel
theorem dX7_retold_93 : decode cX7_retold 93 = .ok (.getfield 33, 3) := by decide +kernel
theorem dX7_retold_96 : decode cX7_retold 96 = .ok (.getfield 230, 3) := by decide +kernel
theorem dX7_retold_99 : decode cX7_retold 99 = .ok (.ireturn, 1) := by decide +kernel
theorem dX7_retold_100 : decode cX7_retold 100 = .ok (.aload_n 0, 1) := by decide +kernel
theorem dX7_retold_101 : decode cX7_retold 101 = .ok (.getfield 33, 3) := by decide +kernel
theorem dX7_retold_104 : decode cX7_retold 104 = .ok (.getfield 230, 3) := by decide +kernel
theorem dX7_retold_107 : decode cX7_retold 107 = .ok (.ifCond .ne 8, 3) := by decide +kernel
theorem dX7_retold_110 : decode cX7_retold 110 = .ok (.bipush (-9), 2) := by decide +kernel
theorem dX7_retold_112 : decode cX7_retold 112 = .ok (.goto 10, 3) := by decide +kernel
theorem dX7_retold_115 : decode cX7_retold 115 = .ok (.aload_n 0, 1) := by decide +kernel
theorem dX7_retold_116 : decode cX7_retold 116 = .ok (.getfield 33, 3) := by decide +kernel
theorem dX7_retold_119 : decode cX7_retold 119 = .ok (.getfield 233, 3) := by decide +kernel
theorem dX7_retold_122 : decode cX7_retold 122 = .ok (.ireturn, 1) := by decide +kernel
theorem dX7_chance_0 : decode cX7_chance 0 = .ok (.aload_n 0, 1) := by decide +kernel
theorem dX7_chance_1 : decode cX7_chance 1 = .ok (.getfield 66, 3) := by decide +kernel
theorem dX7_chance_4 : decode cX7_chance 4 = .ok (.iload_n 1, 1) := by decide +kernel
theorem dX7_chance_5 : decode cX7_chance 5 = .ok (.invokevirtual 149, 3) := by decide +kernel
theorem dX7_chance_8 : decode cX7_chance 8 = .ok (.ifCond .ne 7, 3) := by decide +kernel
theorem dX7_chance_11 : decode cX7_chance 11 = .ok (.ldc2_w 236, 3) := by decide +kernel
theorem dX7_chance_14 : decode cX7_chance 14 = .ok (.lreturn, 1) := by decide +kernel
theorem dX7_chance_15 : decode cX7_chance 15 = .ok (.iload_n 2, 1) := by decide +kernel
theorem dX7_chance_16 : decode cX7_chance 16 = .ok (.ifCond .lt 19, 3) := by decide +kernel
theorem dX7_chance_19 : decode cX7_chance 19 = .ok (.iload_n 2, 1) := by decide +kernel
theorem dX7_chance_20 : decode cX7_chance 20 = .ok (.bipush 99, 2) := by decide +kernel
theorem dX7_chance_22 : decode cX7_chance 22 = .ok (.if_icmp .gt 13, 3) := by decide +kernel
theorem dX7_chance_25 : decode cX7_chance 25 = .ok (.iload_n 3, 1) := by decide +kernel
theorem dX7_chance_26 : decode cX7_chance 26 = .ok (.ifCond .lt 9, 3) := by decide +kernel
theorem dX7_chance_29 : decode cX7_chance 29 = .ok (.iload_n 3, 1) := by decide +kernel
theorem dX7_chance_30 : decode cX7_chance 30 = .ok (.bipush 10, 2) := by decide +kernel
theorem dX7_chance_32 : decode cX7_chance 32 = .ok (.if_icmp .le 7, 3) := by decide +kernel
theorem dX7_chance_35 : decode cX7_chance 35 = .ok (.ldc2_w 238, 3) := by decide +kernel
theorem dX7_chance_38 : decode cX7_chance 38 = .ok (.lreturn, 1) := by decide +kernel
theorem dX7_chance_39 : decode cX7_chance 39 = .ok (.aload_n 0, 1) := by decide +kernel
theorem dX7_chance_40 : decode cX7_chance 40 = .ok (.getfield 66, 3) := by decide +kernel
theorem dX7_chance_43 : decode cX7_chance 43 = .ok (.iload_n 1, 1) := by decide +kernel
theorem dX7_chance_44 : decode cX7_chance 44 = .ok (.invokevirtual 161, 3) := by decide +kernel
theorem dX7_chance_47 : decode cX7_chance 47 = .ok (.istore 5, 2) := by decide +kernel
theorem dX7_chance_49 : decode cX7_chance 49 = .ok (.iload 5, 2) := by decide +kernel
theorem dX7_chance_51 : decode cX7_chance 51 = .ok (.invokestatic 197, 3) := by decide +kernel
theorem dX7_chance_54 : decode cX7_chance 54 = .ok (.istore 6, 2) := by decide +kernel
theorem dX7_chance_56 : decode cX7_chance 56 = .ok (.iconst 1, 1) := by decide +kernel
theorem dX7_chance_57 : decode cX7_chance 57 = .ok (.iload 6, 2) := by decide +kernel
theorem dX7_chance_59 : decode cX7_chance 59 = .ok (.ishl, 1) := by decide +kernel
theorem dX7_chance_60 : decode cX7_chance 60 = .ok (.istore 7, 2) := by decide +kernel
theorem dX7_chance_62 : decode cX7_chance 62 = .ok (.lconst 0, 1) := by decide +kernel
theorem dX7_chance_63 : decode cX7_chance 63 = .ok (.lstore 8, 2) := by decide +kernel
theorem dX7_chance_65 : decode cX7_chance 65 = .ok (.iconst 0, 1) := by decide +kernel
theorem dX7_chance_66 : decode cX7_chance 66 = .ok (.istore 10, 2) := by decide +kernel
theorem dX7_chance_68 : decode cX7_chance 68 = .ok (.iconst 0, 1) := by decide +kernel
theorem dX7_chance_69 : decode cX7_chance 69 = .ok (.istore 11, 2) := by decide +kernel
theorem dX7_chance_71 : decode cX7_chance 71 = .ok (.iload 11, 2) := by decide +kernel
theorem dX7_chance_73 : decode cX7_chance 73 = .ok (.iload 7, 2) := by decide +kernel
theorem dX7_chance_75 : decode cX7_chance 75 = .ok (.if_icmp .ge 61, 3) := by decide +kernel
theorem dX7_chance_78 : decode cX7_chance 78 = .ok (.aload_n 0, 1) := by decide +kernel
theorem dX7_chance_79 : decode cX7_chance 79 = .ok (.iload 5, 2) := by decide +kernel
theorem dX7_chance_81 : decode cX7_chance 81 = .ok (.iload 10, 2) := by decide +kernel
theorem dX7_chance_83 : decode cX7_chance 83 = .ok (.invokevirtual 202, 3) := by decide +kernel
theorem dX7_chance_86 : decode cX7_chance 86 = .ok (.iload_n 2, 1) := by decide +kernel
theorem dX7_chance_87 : decode cX7_chance 87 = .ok (.if_icmp .lt 34, 3) := by decide +kernel
theorem dX7_chance_90 : decode cX7_chance 90 = .ok (.iload 10, 2) := by decide +kernel
theorem dX7_chance_92 : decode cX7_chance 92 = .ok (.invokestatic 197, 3) := by decide +kernel
theorem dX7_chance_95 : decode cX7_chance 95 = .ok (.istore 12, 2) := by decide +kernel
theorem dX7_chance_97 : decode cX7_chance 97 = .ok (.lload 8, 2) := by decide +kernel
theorem dX7_chance_99 : decode cX7_chance 99 = .ok (.iload_n 3, 1) := by decide +kernel
theorem dX7_chance_100 : decode cX7_chance 100 = .ok (.iload 12, 2) := by decide +kernel
theorem dX7_chance_102 : decode cX7_chance 102 = .ok (.invokestatic 240, 3) := by decide +kernel
theorem dX7_chance_105 : decode cX7_chance 105 = .ok (.bipush 10, 2) := by decide +kernel
theorem dX7_chance_107 : decode cX7_chance 107 = .ok (.iload_n 3, 1) := by decide +kernel
theorem dX7_chance_108 : decode cX7_chance 108 = .ok (.isub, 1) := by decide +kernel
theorem dX7_chance_109 : decode cX7_chance 109 = .ok (.iload 6, 2) := by decide +kernel
theorem dX7_chance_111 : decode cX7_chance 111 = .ok (.iload 12, 2) := by decide +kernel
theorem dX7_chance_113 : decode cX7_chance 113 = .ok (.isub, 1) := by decide +kernel
theorem dX7_chance_114 : decode cX7_chance 114 = .ok (.invokestatic 240, 3) := by decide +kernel
theorem dX7_chance_117 : decode cX7_chance 117 = .ok (.lmul, 1) := by decide +kernel
theorem dX7_chance_118 : decode cX7_chance 118 = .ok (.ladd, 1) := by decide +kernel
theorem dX7_chance_119 : decode cX7_chance 119 = .ok (.lstore 8, 2) := by decide +kernel
theorem dX7_chance_121 : decode cX7_chance 121 = .ok (.iload 10, 2) := by decide +kernel
theorem dX7_chance_123 : decode cX7_chance 123 = .ok (.iload 5, 2) := by decide +kernel
theorem dX7_chance_125 : decode cX7_chance 125 = .ok (.invokestatic 213, 3) := by decide +kernel
theorem dX7_chance_128 : decode cX7_chance 128 = .ok (.istore 10, 2) := by decide +kernel
theorem dX7_chance_130 : decode cX7_chance 130 = .ok (.iinc 11 1, 3) := by decide +kernel
theorem dX7_chance_133 : decode cX7_chance 133 = .ok (.goto (-62), 3) := by decide +kernel
theorem dX7_chance_136 : decode cX7_chance 136 = .ok (.iload 6, 2) := by decide +kernel
theorem dX7_chance_138 : decode cX7_chance 138 = .ok (.invokestatic 223, 3) := by decide +kernel
theorem dX7_chance_141 : decode cX7_chance 141 = .ok (.i2l, 1) := by decide +kernel
theorem dX7_chance_142 : decode cX7_chance 142 = .ok (.lstore 11, 2) := by decide +kernel
theorem dX7_chance_144 : decode cX7_chance 144 = .ok (.lconst 1, 1) := by decide +kernel
theorem dX7_chance_145 : decode cX7_chance 145 = .ok (.lload 8, 2) := by decide +kernel
theorem dX7_chance_147 : decode cX7_chance 147 = .ok (.lload 11, 2) := by decide +kernel
theorem dX7_chance_149 : decode cX7_chance 149 = .ok (.invokestatic 244, 3) := by decide +kernel
theorem dX7_chance_152 : decode cX7_chance 152 = .ok (.invokestatic 248, 3) := by decide +kernel
theorem dX7_chance_155 : decode cX7_chance 155 = .ok (.lstore 13, 2) := by decide +kernel
theorem dX7_chance_157 : decode cX7_chance 157 = .ok (.iload 4, 2) := by decide +kernel
theorem dX7_chance_159 : decode cX7_chance 159 = .ok (.ifCond .eq 8, 3) := by decide +kernel
theorem dX7_chance_162 : decode cX7_chance 162 = .ok (.lload 8, 2) := by decide +kernel
theorem dX7_chance_164 : decode cX7_chance 164 = .ok (.goto 5, 3) := by decide +kernel
theorem dX7_chance_167 : decode cX7_chance 167 = .ok (.lload 11, 2) := by decide +kernel
theorem dX7_chance_169 : decode cX7_chance 169 = .ok (.lload 13, 2) := by decide +kernel
theorem dX7_chance_171 : decode cX7_chance 171 = .ok (.ldiv, 1) := by decide +kernel
theorem dX7_chance_172 : decode cX7_chance 172 = .ok (.lreturn, 1) := by decide +kernel
theorem dX7_keep_0 : decode cX7_keep 0 = .ok (.iload_n 1, 1) := by decide +kernel
theorem dX7_keep_1 : decode cX7_keep 1 = .ok (.ifCond .lt 8, 3) := by decide +kernel
theorem dX7_keep_4 : decode cX7_keep 4 = .ok (.iload_n 1, 1) := by decide +kernel
theorem dX7_keep_5 : decode cX7_keep 5 = .ok (.iconst 2, 1) := by decide +kernel
theorem dX7_keep_6 : decode cX7_keep 6 = .ok (.if_icmp .lt 5, 3) := by decide +kernel
theorem dX7_keep_9 : decode cX7_keep 9 = .ok (.iconst (-1), 1) := by decide +kernel
theorem dX7_keep_10 : decode cX7_keep 10 = .ok (.ireturn, 1) := by decide +kernel
theorem dX7_keep_11 : decode cX7_keep 11 = .ok (.aload_n 0, 1) := by decide +kernel
theorem dX7_keep_12 : decode cX7_keep 12 = .ok (.getfield 51, 3) := by decide +kernel
theorem dX7_keep_15 : decode cX7_keep 15 = .ok (.iload_n 1, 1) := by decide +kernel
theorem dX7_keep_16 : decode cX7_keep 16 = .ok (.aaload, 1) := by decide +kernel
theorem dX7_keep_17 : decode cX7_keep 17 = .ok (.aload_n 0, 1) := by decide +kernel
theorem dX7_keep_18 : decode cX7_keep 18 = .ok (.getfield 47, 3) := by decide +kernel
theorem dX7_keep_21 : decode cX7_keep 21 = .ok (.invokevirtual 250, 3) := by decide +kernel
theorem dX7_keep_24 : decode cX7_keep 24 = .ok (.aload_n 0, 1) := by decide +kernel
theorem dX7_keep_25 : decode cX7_keep 25 = .ok (.getfield 55, 3) := by decide +kernel
theorem dX7_keep_28 : decode cX7_keep 28 = .ok (.iload_n 1, 1) := by decide +kernel
theorem dX7_keep_29 : decode cX7_keep 29 = .ok (.iconst 1, 1) := by decide +kernel
theorem dX7_keep_30 : decode cX7_keep 30 = .ok (.bastore, 1) := by decide +kernel
theorem dX7_keep_31 : decode cX7_keep 31 = .ok (.aload_n 0, 1) := by decide +kernel
theorem dX7_keep_32 : decode cX7_keep 32 = .ok (.getfield 47, 3) := by decide +kernel
theorem dX7_keep_35 : decode cX7_keep 35 = .ok (.getfield 103, 3) := by decide +kernel
theorem dX7_keep_38 : decode cX7_keep 38 = .ok (.ireturn, 1) := by decide +kernel
theorem dX7_again_0 : decode cX7_again 0 = .ok (.iload_n 1, 1) := by decide +kernel
theorem dX7_again_1 : decode cX7_again 1 = .ok (.ifCond .lt 8, 3) := by decide +kernel
theorem dX7_again_4 : decode cX7_again 4 = .ok (.iload_n 1, 1) := by decide +kernel
theorem dX7_again_5 : decode cX7_again 5 = .ok (.iconst 2, 1) := by decide +kernel
theorem dX7_again_6 : decode cX7_again 6 = .ok (.if_icmp .lt 5, 3) := by decide +kernel
theorem dX7_again_9 : decode cX7_again 9 = .ok (.iconst (-1), 1) := by decide +kernel
theorem dX7_again_10 : decode cX7_again 10 = .ok (.ireturn, 1) := by decide +kernel
theorem dX7_again_11 : decode cX7_again 11 = .ok (.aload_n 0, 1) := by decide +kernel
theorem dX7_again_12 : decode cX7_again 12 = .ok (.getfield 55, 3) := by decide +kernel
theorem dX7_again_15 : decode cX7_again 15 = .ok (.iload_n 1, 1) := by decide +kernel
theorem dX7_again_16 : decode cX7_again 16 = .ok (.baload, 1) := by decide +kernel
theorem dX7_again_17 : decode cX7_again 17 = .ok (.ifCond .ne 6, 3) := by decide +kernel
theorem dX7_again_20 : decode cX7_again 20 = .ok (.bipush (-3), 2) := by decide +kernel
theorem dX7_again_22 : decode cX7_again 22 = .ok (.ireturn, 1) := by decide +kernel
theorem dX7_again_23 : decode cX7_again 23 = .ok (.aload_n 0, 1) := by decide +kernel
theorem dX7_again_24 : decode cX7_again 24 = .ok (.getfield 47, 3) := by decide +kernel
theorem dX7_again_27 : decode cX7_again 27 = .ok (.aload_n 0, 1) := by decide +kernel
theorem dX7_again_28 : decode cX7_again 28 = .ok (.getfield 51, 3) := by decide +kernel
theorem dX7_again_31 : decode cX7_again 31 = .ok (.iload_n 1, 1) := by decide +kernel
theorem dX7_again_32 : decode cX7_again 32 = .ok (.aaload, 1) := by decide +kernel
theorem dX7_again_33 : decode cX7_again 33 = .ok (.invokevirtual 250, 3) := by decide +kernel
theorem dX7_again_36 : decode cX7_again 36 = .ok (.aload_n 0, 1) := by decide +kernel
theorem dX7_again_37 : decode cX7_again 37 = .ok (.getfield 40, 3) := by decide +kernel
theorem dX7_again_40 : decode cX7_again 40 = .ok (.invokevirtual 92, 3) := by decide +kernel
theorem dX7_again_43 : decode cX7_again 43 = .ok (.aload_n 0, 1) := by decide +kernel
theorem dX7_again_44 : decode cX7_again 44 = .ok (.getfield 47, 3) := by decide +kernel
theorem dX7_again_47 : decode cX7_again 47 = .ok (.getfield 103, 3) := by decide +kernel
theorem dX7_again_50 : decode cX7_again 50 = .ok (.ireturn, 1) := by decide +kernel
theorem dX7_everybody_0 : decode cX7_everybody 0 = .ok (.iconst 1, 1) := by decide +kernel
theorem dX7_everybody_1 : decode cX7_everybody 1 = .ok (.aload_n 0, 1) := by decide +kernel
theorem dX7_everybody_2 : decode cX7_everybody 2 = .ok (.getfield 66, 3) := by decide +kernel
theorem dX7_everybody_5 : decode cX7_everybody 5 = .ok (.getfield 93, 3) := by decide +kernel
theorem dX7_everybody_8 : decode cX7_everybody 8 = .ok (.ishl, 1) := by decide +kernel
theorem dX7_everybody_9 : decode cX7_everybody 9 = .ok (.iconst 1, 1) := by decide +kernel
theorem dX7_everybody_10 : decode cX7_everybody 10 = .ok (.isub, 1) := by decide +kernel
theorem dX7_everybody_11 : decode cX7_everybody 11 = .ok (.ireturn, 1) := by decide +kernel
theorem dX7_aliveBits_0 : decode cX7_aliveBits 0 = .ok (.iconst 0, 1) := by decide +kernel
theorem dX7_aliveBits_1 : decode cX7_aliveBits 1 = .ok (.istore_n 1, 1) := by decide +kernel
theorem dX7_aliveBits_2 : decode cX7_aliveBits 2 = .ok (.iconst 0, 1) := by decide +kernel
theorem dX7_aliveBits_3 : decode cX7_aliveBits 3 = .ok (.istore_n 2, 1) := by decide +kernel
theorem dX7_aliveBits_4 : decode cX7_aliveBits 4 = .ok (.iload_n 2, 1) := by decide +kernel
theorem dX7_aliveBits_5 : decode cX7_aliveBits 5 = .ok (.aload_n 0, 1) := by decide +kernel
theorem dX7_aliveBits_6 : decode cX7_aliveBits 6 = .ok (.getfield 66, 3) := by decide +kernel
theorem dX7_aliveBits_9 : decode cX7_aliveBits 9 = .ok (.getfield 93, 3) := by decide +kernel
theorem dX7_aliveBits_12 : decode cX7_aliveBits 12 = .ok (.if_icmp .ge 26, 3) := by decide +kernel
theorem dX7_aliveBits_15 : decode cX7_aliveBits 15 = .ok (.aload_n 0, 1) := by decide +kernel
theorem dX7_aliveBits_16 : decode cX7_aliveBits 16 = .ok (.getfield 47, 3) := by decide +kernel
theorem dX7_aliveBits_19 : decode cX7_aliveBits 19 = .ok (.iload_n 2, 1) := by decide +kernel
theorem dX7_aliveBits_20 : decode cX7_aliveBits 20 = .ok (.invokevirtual 167, 3) := by decide +kernel
theorem dX7_aliveBits_23 : decode cX7_aliveBits 23 = .ok (.ifCond .eq 9, 3) := by decide +kernel
theorem dX7_aliveBits_26 : decode cX7_aliveBits 26 = .ok (.iload_n 1, 1) := by decide +kernel
theorem dX7_aliveBits_27 : decode cX7_aliveBits 27 = .ok (.iconst 1, 1) := by decide +kernel
theorem dX7_aliveBits_28 : decode cX7_aliveBits 28 = .ok (.iload_n 2, 1) := by decide +kernel
theorem dX7_aliveBits_29 : decode cX7_aliveBits 29 = .ok (.ishl, 1) := by decide +kernel
theorem dX7_aliveBits_30 : decode cX7_aliveBits 30 = .ok (.ior, 1) := by decide +kernel
theorem dX7_aliveBits_31 : decode cX7_aliveBits 31 = .ok (.istore_n 1, 1) := by decide +kernel
theorem dX7_aliveBits_32 : decode cX7_aliveBits 32 = .ok (.iinc 2 1, 3) := by decide +kernel
theorem dX7_aliveBits_35 : decode cX7_aliveBits 35 = .ok (.goto (-31), 3) := by decide +kernel
theorem dX7_aliveBits_38 : decode cX7_aliveBits 38 = .ok (.iload_n 1, 1) := by decide +kernel
theorem dX7_aliveBits_39 : decode cX7_aliveBits 39 = .ok (.ireturn, 1) := by decide +kernel
theorem dX7_trulyIn_0 : decode cX7_trulyIn 0 = .ok (.iconst 0, 1) := by decide +kernel
theorem dX7_trulyIn_1 : decode cX7_trulyIn 1 = .ok (.istore_n 2, 1) := by decide +kernel
theorem dX7_trulyIn_2 : decode cX7_trulyIn 2 = .ok (.iconst 0, 1) := by decide +kernel
theorem dX7_trulyIn_3 : decode cX7_trulyIn 3 = .ok (.istore_n 3, 1) := by decide +kernel
theorem dX7_trulyIn_4 : decode cX7_trulyIn 4 = .ok (.iload_n 3, 1) := by decide +kernel
theorem dX7_trulyIn_5 : decode cX7_trulyIn 5 = .ok (.aload_n 0, 1) := by decide +kernel
theorem dX7_trulyIn_6 : decode cX7_trulyIn 6 = .ok (.getfield 66, 3) := by decide +kernel
theorem dX7_trulyIn_9 : decode cX7_trulyIn 9 = .ok (.getfield 93, 3) := by decide +kernel
theorem dX7_trulyIn_12 : decode cX7_trulyIn 12 = .ok (.if_icmp .ge 36, 3) := by decide +kernel
theorem dX7_trulyIn_15 : decode cX7_trulyIn 15 = .ok (.aload_n 0, 1) := by decide +kernel
theorem dX7_trulyIn_16 : decode cX7_trulyIn 16 = .ok (.getfield 47, 3) := by decide +kernel
theorem dX7_trulyIn_19 : decode cX7_trulyIn 19 = .ok (.iload_n 3, 1) := by decide +kernel
theorem dX7_trulyIn_20 : decode cX7_trulyIn 20 = .ok (.invokevirtual 167, 3) := by decide +kernel
theorem dX7_trulyIn_23 : decode cX7_trulyIn 23 = .ok (.ifCond .eq 19, 3) := by decide +kernel
theorem dX7_trulyIn_26 : decode cX7_trulyIn 26 = .ok (.aload_n 0, 1) := by decide +kernel
theorem dX7_trulyIn_27 : decode cX7_trulyIn 27 = .ok (.getfield 47, 3) := by decide +kernel
theorem dX7_trulyIn_30 : decode cX7_trulyIn 30 = .ok (.getfield 133, 3) := by decide +kernel
theorem dX7_trulyIn_33 : decode cX7_trulyIn 33 = .ok (.iload_n 3, 1) := by decide +kernel
theorem dX7_trulyIn_34 : decode cX7_trulyIn 34 = .ok (.iaload, 1) := by decide +kernel
theorem dX7_trulyIn_35 : decode cX7_trulyIn 35 = .ok (.iload_n 1, 1) := by decide +kernel
theorem dX7_trulyIn_36 : decode cX7_trulyIn 36 = .ok (.if_icmp .ne 6, 3) := by decide +kernel
theorem dX7_trulyIn_39 : decode cX7_trulyIn 39 = .ok (.iinc 2 1, 3) := by decide +kernel
theorem dX7_trulyIn_42 : decode cX7_trulyIn 42 = .ok (.iinc 3 1, 3) := by decide +kernel
theorem dX7_trulyIn_45 : decode cX7_trulyIn 45 = .ok (.goto (-41), 3) := by decide +kernel
theorem dX7_trulyIn_48 : decode cX7_trulyIn 48 = .ok (.iload_n 2, 1) := by decide +kernel
theorem dX7_trulyIn_49 : decode cX7_trulyIn 49 = .ok (.ireturn, 1) := by decide +kernel
theorem dX7_atHomeIn_0 : decode cX7_atHomeIn 0 = .ok (.iconst 0, 1) := by decide +kernel
theorem dX7_atHomeIn_1 : decode cX7_atHomeIn 1 = .ok (.istore_n 2, 1) := by decide +kernel
theorem dX7_atHomeIn_2 : decode cX7_atHomeIn 2 = .ok (.iconst 0, 1) := by decide +kernel
theorem dX7_atHomeIn_3 : decode cX7_atHomeIn 3 = .ok (.istore_n 3, 1) := by decide +kernel
theorem dX7_atHomeIn_4 : decode cX7_atHomeIn 4 = .ok (.iload_n 3, 1) := by decide +kernel
theorem dX7_atHomeIn_5 : decode cX7_atHomeIn 5 = .ok (.aload_n 0, 1) := by decide +kernel
theorem dX7_atHomeIn_6 : decode cX7_atHomeIn 6 = .ok (.getfield 66, 3) := by decide +kernel
theorem dX7_atHomeIn_9 : decode cX7_atHomeIn 9 = .ok (.getfield 93, 3) := by decide +kernel
theorem dX7_atHomeIn_12 : decode cX7_atHomeIn 12 = .ok (.if_icmp .ge 36, 3) := by decide +kernel
theorem dX7_atHomeIn_15 : decode cX7_atHomeIn 15 = .ok (.aload_n 0, 1) := by decide +kernel
theorem dX7_atHomeIn_16 : decode cX7_atHomeIn 16 = .ok (.getfield 66, 3) := by decide +kernel
theorem dX7_atHomeIn_19 : decode cX7_atHomeIn 19 = .ok (.getfield 124, 3) := by decide +kernel
theorem dX7_atHomeIn_22 : decode cX7_atHomeIn 22 = .ok (.iload_n 3, 1) := by decide +kernel
theorem dX7_atHomeIn_23 : decode cX7_atHomeIn 23 = .ok (.iaload, 1) := by decide +kernel
theorem dX7_atHomeIn_24 : decode cX7_atHomeIn 24 = .ok (.iload_n 1, 1) := by decide +kernel
theorem dX7_atHomeIn_25 : decode cX7_atHomeIn 25 = .ok (.if_icmp .ne 17, 3) := by decide +kernel
theorem dX7_atHomeIn_28 : decode cX7_atHomeIn 28 = .ok (.aload_n 0, 1) := by decide +kernel
theorem dX7_atHomeIn_29 : decode cX7_atHomeIn 29 = .ok (.iload_n 3, 1) := by decide +kernel
theorem dX7_atHomeIn_30 : decode cX7_atHomeIn 30 = .ok (.invokevirtual 253, 3) := by decide +kernel
theorem dX7_atHomeIn_33 : decode cX7_atHomeIn 33 = .ok (.ifCond .eq 9, 3) := by decide +kernel
theorem dX7_atHomeIn_36 : decode cX7_atHomeIn 36 = .ok (.iload_n 2, 1) := by decide +kernel
theorem dX7_atHomeIn_37 : decode cX7_atHomeIn 37 = .ok (.iconst 1, 1) := by decide +kernel
theorem dX7_atHomeIn_38 : decode cX7_atHomeIn 38 = .ok (.iload_n 3, 1) := by decide +kernel
theorem dX7_atHomeIn_39 : decode cX7_atHomeIn 39 = .ok (.ishl, 1) := by decide +kernel
theorem dX7_atHomeIn_40 : decode cX7_atHomeIn 40 = .ok (.ior, 1) := by decide +kernel
theorem dX7_atHomeIn_41 : decode cX7_atHomeIn 41 = .ok (.istore_n 2, 1) := by decide +kernel
theorem dX7_atHomeIn_42 : decode cX7_atHomeIn 42 = .ok (.iinc 3 1, 3) := by decide +kernel
theorem dX7_atHomeIn_45 : decode cX7_atHomeIn 45 = .ok (.goto (-41), 3) := by decide +kernel
theorem dX7_atHomeIn_48 : decode cX7_atHomeIn 48 = .ok (.iload_n 2, 1) := by decide +kernel
theorem dX7_atHomeIn_49 : decode cX7_atHomeIn 49 = .ok (.ireturn, 1) := by decide +kernel
theorem dX7_isAtHome_0 : decode cX7_isAtHome 0 = .ok (.aload_n 0, 1) := by decide +kernel
theorem dX7_isAtHome_1 : decode cX7_isAtHome 1 = .ok (.getfield 47, 3) := by decide +kernel
theorem dX7_isAtHome_4 : decode cX7_isAtHome 4 = .ok (.iload_n 1, 1) := by decide +kernel
theorem dX7_isAtHome_5 : decode cX7_isAtHome 5 = .ok (.invokevirtual 167, 3) := by decide +kernel
theorem dX7_isAtHome_8 : decode cX7_isAtHome 8 = .ok (.ifCond .eq 28, 3) := by decide +kernel
theorem dX7_isAtHome_11 : decode cX7_isAtHome 11 = .ok (.aload_n 0, 1) := by decide +kernel
theorem dX7_isAtHome_12 : decode cX7_isAtHome 12 = .ok (.getfield 47, 3) := by decide +kernel
theorem dX7_isAtHome_15 : decode cX7_isAtHome 15 = .ok (.getfield 133, 3) := by decide +kernel
theorem dX7_isAtHome_18 : decode cX7_isAtHome 18 = .ok (.iload_n 1, 1) := by decide +kernel
theorem dX7_isAtHome_19 : decode cX7_isAtHome 19 = .ok (.iaload, 1) := by decide +kernel
theorem dX7_isAtHome_20 : decode cX7_isAtHome 20 = .ok (.aload_n 0, 1) := by decide +kernel
theorem dX7_isAtHome_21 : decode cX7_isAtHome 21 = .ok (.getfield 66, 3) := by decide +kernel
theorem dX7_isAtHome_24 : decode cX7_isAtHome 24 = .ok (.getfield 124, 3) := by decide +kernel
theorem dX7_isAtHome_27 : decode cX7_isAtHome 27 = .ok (.iload_n 1, 1) := by decide +kernel
theorem dX7_isAtHome_28 : decode cX7_isAtHome 28 = .ok (.iaload, 1) := by decide +kernel
theorem dX7_isAtHome_29 : decode cX7_isAtHome 29 = .ok (.if_icmp .ne 7, 3) := by decide +kernel
theorem dX7_isAtHome_32 : decode cX7_isAtHome 32 = .ok (.iconst 1, 1) := by decide +kernel
theorem dX7_isAtHome_33 : decode cX7_isAtHome 33 = .ok (.goto 4, 3) := by decide +kernel
theorem dX7_isAtHome_36 : decode cX7_isAtHome 36 = .ok (.iconst 0, 1) := by decide +kernel
theorem dX7_isAtHome_37 : decode cX7_isAtHome 37 = .ok (.ireturn, 1) := by decide +kernel
theorem dX7_isMissing_0 : decode cX7_isMissing 0 = .ok (.aload_n 0, 1) := by decide +kernel
theorem dX7_isMissing_1 : decode cX7_isMissing 1 = .ok (.getfield 47, 3) := by decide +kernel
theorem dX7_isMissing_4 : decode cX7_isMissing 4 = .ok (.iload_n 1, 1) := by decide +kernel
theorem dX7_isMissing_5 : decode cX7_isMissing 5 = .ok (.invokevirtual 167, 3) := by decide +kernel
theorem dX7_isMissing_8 : decode cX7_isMissing 8 = .ok (.ifCond .eq 30, 3) := by decide +kernel
theorem dX7_isMissing_11 : decode cX7_isMissing 11 = .ok (.aload_n 0, 1) := by decide +kernel
theorem dX7_isMissing_12 : decode cX7_isMissing 12 = .ok (.getfield 47, 3) := by decide +kernel
theorem dX7_isMissing_15 : decode cX7_isMissing 15 = .ok (.getfield 133, 3) := by decide +kernel
theorem dX7_isMissing_18 : decode cX7_isMissing 18 = .ok (.iload_n 1, 1) := by decide +kernel
theorem dX7_isMissing_19 : decode cX7_isMissing 19 = .ok (.iaload, 1) := by decide +kernel
theorem dX7_isMissing_20 : decode cX7_isMissing 20 = .ok (.aload_n 0, 1) := by decide +kernel
theorem dX7_isMissing_21 : decode cX7_isMissing 21 = .ok (.getfield 66, 3) := by decide +kernel
theorem dX7_isMissing_24 : decode cX7_isMissing 24 = .ok (.getfield 124, 3) := by decide +kernel
theorem dX7_isMissing_27 : decode cX7_isMissing 27 = .ok (.iload_n 1, 1) := by decide +kernel
theorem dX7_isMissing_28 : decode cX7_isMissing 28 = .ok (.iaload, 1) := by decide +kernel
theorem dX7_isMissing_29 : decode cX7_isMissing 29 = .ok (.if_icmp .eq 7, 3) := by decide +kernel
theorem dX7_isMissing_32 : decode cX7_isMissing 32 = .ok (.iconst 1, 1) := by decide +kernel
theorem dX7_isMissing_33 : decode cX7_isMissing 33 = .ok (.goto 4, 3) := by decide +kernel
theorem dX7_isMissing_36 : decode cX7_isMissing 36 = .ok (.iconst 0, 1) := by decide +kernel
theorem dX7_isMissing_37 : decode cX7_isMissing 37 = .ok (.ireturn, 1) := by decide +kernel
theorem dX7_isMissing_38 : decode cX7_isMissing 38 = .ok (.iload_n 2, 1) := by decide +kernel
theorem dX7_isMissing_39 : decode cX7_isMissing 39 = .ok (.aload_n 0, 1) := by decide +kernel
theorem dX7_isMissing_40 : decode cX7_isMissing 40 = .ok (.getfield 47, 3) := by decide +kernel
theorem dX7_isMissing_43 : decode cX7_isMissing 43 = .ok (.iload_n 1, 1) := by decide +kernel
theorem dX7_isMissing_44 : decode cX7_isMissing 44 = .ok (.aload_n 0, 1) := by decide +kernel
theorem dX7_isMissing_45 : decode cX7_isMissing 45 = .ok (.getfield 66, 3) := by decide +kernel
theorem dX7_isMissing_48 : decode cX7_isMissing 48 = .ok (.invokevirtual 174, 3) := by decide +kernel
theorem dX7_isMissing_51 : decode cX7_isMissing 51 = .ok (.if_icmp .ge 7, 3) := by decide +kernel
theorem dX7_isMissing_54 : decode cX7_isMissing 54 = .ok (.iconst 1, 1) := by decide +kernel
theorem dX7_isMissing_55 : decode cX7_isMissing 55 = .ok (.goto 4, 3) := by decide +kernel
theorem dX7_isMissing_58 : decode cX7_isMissing 58 = .ok (.iconst 0, 1) := by decide +kernel
theorem dX7_isMissing_59 : decode cX7_isMissing 59 = .ok (.ireturn, 1) := by decide +kernel
theorem dX7_missingOf_0 : decode cX7_missingOf 0 = .ok (.iconst 0, 1) := by decide +kernel
theorem dX7_missingOf_1 : decode cX7_missingOf 1 = .ok (.istore_n 2, 1) := by decide +kernel
theorem dX7_missingOf_2 : decode cX7_missingOf 2 = .ok (.iconst 0, 1) := by decide +kernel
theorem dX7_missingOf_3 : decode cX7_missingOf 3 = .ok (.istore_n 3, 1) := by decide +kernel
theorem dX7_missingOf_4 : decode cX7_missingOf 4 = .ok (.iload_n 3, 1) := by decide +kernel
theorem dX7_missingOf_5 : decode cX7_missingOf 5 = .ok (.aload_n 0, 1) := by decide +kernel
theorem dX7_missingOf_6 : decode cX7_missingOf 6 = .ok (.getfield 66, 3) := by decide +kernel
theorem dX7_missingOf_9 : decode cX7_missingOf 9 = .ok (.getfield 93, 3) := by decide +kernel
theorem dX7_missingOf_12 : decode cX7_missingOf 12 = .ok (.if_icmp .ge 43, 3) := by decide +kernel
theorem dX7_missingOf_15 : decode cX7_missingOf 15 = .ok (.aload_n 0, 1) := by decide +kernel
theorem dX7_missingOf_16 : decode cX7_missingOf 16 = .ok (.getfield 66, 3) := by decide +kernel
theorem dX7_missingOf_19 : decode cX7_missingOf 19 = .ok (.getfield 124, 3) := by decide +kernel
theorem dX7_missingOf_22 : decode cX7_missingOf 22 = .ok (.iload_n 3, 1) := by decide +kernel
theorem dX7_missingOf_23 : decode cX7_missingOf 23 = .ok (.iaload, 1) := by decide +kernel
theorem dX7_missingOf_24 : decode cX7_missingOf 24 = .ok (.iload_n 1, 1) := by decide +kernel
theorem dX7_missingOf_25 : decode cX7_missingOf 25 = .ok (.if_icmp .ne 24, 3) := by decide +kernel
theorem dX7_missingOf_28 : decode cX7_missingOf 28 = .ok (.aload_n 0, 1) := by decide +kernel
theorem dX7_missingOf_29 : decode cX7_missingOf 29 = .ok (.iload_n 3, 1) := by decide +kernel
theorem dX7_missingOf_30 : decode cX7_missingOf 30 = .ok (.aload_n 0, 1) := by decide +kernel
theorem dX7_missingOf_31 : decode cX7_missingOf 31 = .ok (.getfield 47, 3) := by decide +kernel
theorem dX7_missingOf_34 : decode cX7_missingOf 34 = .ok (.getfield 103, 3) := by decide +kernel
theorem dX7_missingOf_37 : decode cX7_missingOf 37 = .ok (.invokevirtual 256, 3) := by decide +kernel
theorem dX7_missingOf_40 : decode cX7_missingOf 40 = .ok (.ifCond .eq 9, 3) := by decide +kernel
theorem dX7_missingOf_43 : decode cX7_missingOf 43 = .ok (.iload_n 2, 1) := by decide +kernel
theorem dX7_missingOf_44 : decode cX7_missingOf 44 = .ok (.iconst 1, 1) := by decide +kernel
theorem dX7_missingOf_45 : decode cX7_missingOf 45 = .ok (.iload_n 3, 1) := by decide +kernel
theorem dX7_missingOf_46 : decode cX7_missingOf 46 = .ok (.ishl, 1) := by decide +kernel
theorem dX7_missingOf_47 : decode cX7_missingOf 47 = .ok (.ior, 1) := by decide +kernel
theorem dX7_missingOf_48 : decode cX7_missingOf 48 = .ok (.istore_n 2, 1) := by decide +kernel
theorem dX7_missingOf_49 : decode cX7_missingOf 49 = .ok (.iinc 3 1, 3) := by decide +kernel
theorem dX7_missingOf_52 : decode cX7_missingOf 52 = .ok (.goto (-48), 3) := by decide +kernel
theorem dX7_missingOf_55 : decode cX7_missingOf 55 = .ok (.iload_n 2, 1) := by decide +kernel
theorem dX7_missingOf_56 : decode cX7_missingOf 56 = .ok (.ireturn, 1) := by decide +kernel
theorem dX7_rememberedBy_0 : decode cX7_rememberedBy 0 = .ok (.iconst 0, 1) := by decide +kernel
theorem dX7_rememberedBy_1 : decode cX7_rememberedBy 1 = .ok (.istore_n 3, 1) := by decide +kernel
theorem dX7_rememberedBy_2 : decode cX7_rememberedBy 2 = .ok (.iconst 0, 1) := by decide +kernel
theorem dX7_rememberedBy_3 : decode cX7_rememberedBy 3 = .ok (.istore 4, 2) := by decide +kernel
theorem dX7_rememberedBy_5 : decode cX7_rememberedBy 5 = .ok (.iload 4, 2) := by decide +kernel
theorem dX7_rememberedBy_7 : decode cX7_rememberedBy 7 = .ok (.aload_n 0, 1) := by decide +kernel
theorem dX7_rememberedBy_8 : decode cX7_rememberedBy 8 = .ok (.getfield 66, 3) := by decide +kernel
theorem dX7_rememberedBy_11 : decode cX7_rememberedBy 11 = .ok (.getfield 93, 3) := by decide +kernel
theorem dX7_rememberedBy_14 : decode cX7_rememberedBy 14 = .ok (.if_icmp .ge 72, 3) := by decide +kernel
theorem dX7_rememberedBy_17 : decode cX7_rememberedBy 17 = .ok (.aload_n 0, 1) := by decide +kernel
theorem dX7_rememberedBy_18 : decode cX7_rememberedBy 18 = .ok (.getfield 66, 3) := by decide +kernel
theorem dX7_rememberedBy_21 : decode cX7_rememberedBy 21 = .ok (.getfield 124, 3) := by decide +kernel
theorem dX7_rememberedBy_24 : decode cX7_rememberedBy 24 = .ok (.iload 4, 2) := by decide +kernel
theorem dX7_rememberedBy_26 : decode cX7_rememberedBy 26 = .ok (.iaload, 1) := by decide +kernel
theorem dX7_rememberedBy_27 : decode cX7_rememberedBy 27 = .ok (.aload_n 0, 1) := by decide +kernel
theorem dX7_rememberedBy_28 : decode cX7_rememberedBy 28 = .ok (.getfield 66, 3) := by decide +kernel
theorem dX7_rememberedBy_31 : decode cX7_rememberedBy 31 = .ok (.getfield 124, 3) := by decide +kernel
theorem dX7_rememberedBy_34 : decode cX7_rememberedBy 34 = .ok (.iload_n 1, 1) := by decide +kernel
theorem dX7_rememberedBy_35 : decode cX7_rememberedBy 35 = .ok (.iaload, 1) := by decide +kernel
theorem dX7_rememberedBy_36 : decode cX7_rememberedBy 36 = .ok (.if_icmp .ne 44, 3) := by decide +kernel
theorem dX7_rememberedBy_39 : decode cX7_rememberedBy 39 = .ok (.aload_n 0, 1) := by decide +kernel
theorem dX7_rememberedBy_40 : decode cX7_rememberedBy 40 = .ok (.iload 4, 2) := by decide +kernel
theorem dX7_rememberedBy_42 : decode cX7_rememberedBy 42 = .ok (.iload_n 2, 1) := by decide +kernel
theorem dX7_rememberedBy_43 : decode cX7_rememberedBy 43 = .ok (.invokevirtual 256, 3) := by decide +kernel
theorem dX7_rememberedBy_46 : decode cX7_rememberedBy 46 = .ok (.ifCond .eq 34, 3) := by decide +kernel
theorem dX7_rememberedBy_49 : decode cX7_rememberedBy 49 = .ok (.iload_n 2, 1) := by decide +kernel
theorem dX7_rememberedBy_50 : decode cX7_rememberedBy 50 = .ok (.aload_n 0, 1) := by decide +kernel
theorem dX7_rememberedBy_51 : decode cX7_rememberedBy 51 = .ok (.getfield 47, 3) := by decide +kernel
theorem dX7_rememberedBy_54 : decode cX7_rememberedBy 54 = .ok (.getfield 136, 3) := by decide +kernel
theorem dX7_rememberedBy_57 : decode cX7_rememberedBy 57 = .ok (.iload 4, 2) := by decide +kernel
theorem dX7_rememberedBy_59 : decode cX7_rememberedBy 59 = .ok (.iaload, 1) := by decide +kernel
theorem dX7_rememberedBy_60 : decode cX7_rememberedBy 60 = .ok (.isub, 1) := by decide +kernel
theorem dX7_rememberedBy_61 : decode cX7_rememberedBy 61 = .ok (.aload_n 0, 1) := by decide +kernel
theorem dX7_rememberedBy_62 : decode cX7_rememberedBy 62 = .ok (.getfield 66, 3) := by decide +kernel
theorem dX7_rememberedBy_65 : decode cX7_rememberedBy 65 = .ok (.getfield 130, 3) := by decide +kernel
theorem dX7_rememberedBy_68 : decode cX7_rememberedBy 68 = .ok (.iload_n 1, 1) := by decide +kernel
theorem dX7_rememberedBy_69 : decode cX7_rememberedBy 69 = .ok (.iaload, 1) := by decide +kernel
theorem dX7_rememberedBy_70 : decode cX7_rememberedBy 70 = .ok (.if_icmp .gt 10, 3) := by decide +kernel
theorem dX7_rememberedBy_73 : decode cX7_rememberedBy 73 = .ok (.iload_n 3, 1) := by decide +kernel
theorem dX7_rememberedBy_74 : decode cX7_rememberedBy 74 = .ok (.iconst 1, 1) := by decide +kernel
theorem dX7_rememberedBy_75 : decode cX7_rememberedBy 75 = .ok (.iload 4, 2) := by decide +kernel
theorem dX7_rememberedBy_77 : decode cX7_rememberedBy 77 = .ok (.ishl, 1) := by decide +kernel
theorem dX7_rememberedBy_78 : decode cX7_rememberedBy 78 = .ok (.ior, 1) := by decide +kernel
theorem dX7_rememberedBy_79 : decode cX7_rememberedBy 79 = .ok (.istore_n 3, 1) := by decide +kernel
theorem dX7_rememberedBy_80 : decode cX7_rememberedBy 80 = .ok (.iinc 4 1, 3) := by decide +kernel
theorem dX7_rememberedBy_83 : decode cX7_rememberedBy 83 = .ok (.goto (-78), 3) := by decide +kernel
theorem dX7_rememberedBy_86 : decode cX7_rememberedBy 86 = .ok (.iload_n 3, 1) := by decide +kernel
theorem dX7_rememberedBy_87 : decode cX7_rememberedBy 87 = .ok (.ireturn, 1) := by decide +kernel
theorem dX7_missedBy_0 : decode cX7_missedBy 0 = .ok (.aload_n 0, 1) := by decide +kernel
theorem dX7_missedBy_1 : decode cX7_missedBy 1 = .ok (.iload_n 1, 1) := by decide +kernel
theorem dX7_missedBy_2 : decode cX7_missedBy 2 = .ok (.invokevirtual 253, 3) := by decide +kernel
theorem dX7_missedBy_5 : decode cX7_missedBy 5 = .ok (.ifCond .eq 22, 3) := by decide +kernel
theorem dX7_missedBy_8 : decode cX7_missedBy 8 = .ok (.aload_n 0, 1) := by decide +kernel
theorem dX7_missedBy_9 : decode cX7_missedBy 9 = .ok (.getfield 66, 3) := by decide +kernel
theorem dX7_missedBy_12 : decode cX7_missedBy 12 = .ok (.getfield 142, 3) := by decide +kernel
theorem dX7_missedBy_15 : decode cX7_missedBy 15 = .ok (.iload_n 1, 1) := by decide +kernel
theorem dX7_missedBy_16 : decode cX7_missedBy 16 = .ok (.iaload, 1) := by decide +kernel
theorem dX7_missedBy_17 : decode cX7_missedBy 17 = .ok (.aload_n 0, 1) := by decide +kernel
theorem dX7_missedBy_18 : decode cX7_missedBy 18 = .ok (.iload_n 1, 1) := by decide +kernel
theorem dX7_missedBy_19 : decode cX7_missedBy 19 = .ok (.iload_n 2, 1) := by decide +kernel
theorem dX7_missedBy_20 : decode cX7_missedBy 20 = .ok (.invokevirtual 259, 3) := by decide +kernel
theorem dX7_missedBy_23 : decode cX7_missedBy 23 = .ok (.iand, 1) := by decide +kernel
theorem dX7_missedBy_24 : decode cX7_missedBy 24 = .ok (.goto 4, 3) := by decide +kernel
theorem dX7_missedBy_27 : decode cX7_missedBy 27 = .ok (.iconst 0, 1) := by decide +kernel
theorem dX7_missedBy_28 : decode cX7_missedBy 28 = .ok (.ireturn, 1) := by decide +kernel
theorem dX7_isMissed_0 : decode cX7_isMissed 0 = .ok (.iconst 0, 1) := by decide +kernel
theorem dX7_isMissed_1 : decode cX7_isMissed 1 = .ok (.istore_n 3, 1) := by decide +kernel
theorem dX7_isMissed_2 : decode cX7_isMissed 2 = .ok (.iload_n 3, 1) := by decide +kernel
theorem dX7_isMissed_3 : decode cX7_isMissed 3 = .ok (.aload_n 0, 1) := by decide +kernel
theorem dX7_isMissed_4 : decode cX7_isMissed 4 = .ok (.getfield 66, 3) := by decide +kernel
theorem dX7_isMissed_7 : decode cX7_isMissed 7 = .ok (.getfield 93, 3) := by decide +kernel
theorem dX7_isMissed_10 : decode cX7_isMissed 10 = .ok (.if_icmp .ge 24, 3) := by decide +kernel
theorem dX7_isMissed_13 : decode cX7_isMissed 13 = .ok (.aload_n 0, 1) := by decide +kernel
theorem dX7_isMissed_14 : decode cX7_isMissed 14 = .ok (.iload_n 3, 1) := by decide +kernel
theorem dX7_isMissed_15 : decode cX7_isMissed 15 = .ok (.iload_n 2, 1) := by decide +kernel
theorem dX7_isMissed_16 : decode cX7_isMissed 16 = .ok (.invokevirtual 145, 3) := by decide +kernel
theorem dX7_isMissed_19 : decode cX7_isMissed 19 = .ok (.iload_n 1, 1) := by decide +kernel
theorem dX7_isMissed_20 : decode cX7_isMissed 20 = .ok (.invokestatic 220, 3) := by decide +kernel
theorem dX7_isMissed_23 : decode cX7_isMissed 23 = .ok (.ifCond .eq 5, 3) := by decide +kernel
theorem dX7_isMissed_26 : decode cX7_isMissed 26 = .ok (.iconst 1, 1) := by decide +kernel
theorem dX7_isMissed_27 : decode cX7_isMissed 27 = .ok (.ireturn, 1) := by decide +kernel
theorem dX7_isMissed_28 : decode cX7_isMissed 28 = .ok (.iinc 3 1, 3) := by decide +kernel
theorem dX7_isMissed_31 : decode cX7_isMissed 31 = .ok (.goto (-29), 3) := by decide +kernel
theorem dX7_isMissed_34 : decode cX7_isMissed 34 = .ok (.iconst 0, 1) := by decide +kernel
theorem dX7_isMissed_35 : decode cX7_isMissed 35 = .ok (.ireturn, 1) := by decide +kernel
theorem dX7_missedOf_0 : decode cX7_missedOf 0 = .ok (.iconst 0, 1) := by decide +kernel
theorem dX7_missedOf_1 : decode cX7_missedOf 1 = .ok (.istore_n 2, 1) := by decide +kernel
theorem dX7_missedOf_2 : decode cX7_missedOf 2 = .ok (.iconst 0, 1) := by decide +kernel
theorem dX7_missedOf_3 : decode cX7_missedOf 3 = .ok (.istore_n 3, 1) := by decide +kernel
theorem dX7_missedOf_4 : decode cX7_missedOf 4 = .ok (.iload_n 3, 1) := by decide +kernel
theorem dX7_missedOf_5 : decode cX7_missedOf 5 = .ok (.aload_n 0, 1) := by decide +kernel
theorem dX7_missedOf_6 : decode cX7_missedOf 6 = .ok (.getfield 66, 3) := by decide +kernel
theorem dX7_missedOf_9 : decode cX7_missedOf 9 = .ok (.getfield 93, 3) := by decide +kernel
theorem dX7_missedOf_12 : decode cX7_missedOf 12 = .ok (.if_icmp .ge 24, 3) := by decide +kernel
theorem dX7_missedOf_15 : decode cX7_missedOf 15 = .ok (.iload_n 2, 1) := by decide +kernel
theorem dX7_missedOf_16 : decode cX7_missedOf 16 = .ok (.aload_n 0, 1) := by decide +kernel
theorem dX7_missedOf_17 : decode cX7_missedOf 17 = .ok (.iload_n 3, 1) := by decide +kernel
theorem dX7_missedOf_18 : decode cX7_missedOf 18 = .ok (.aload_n 0, 1) := by decide +kernel
theorem dX7_missedOf_19 : decode cX7_missedOf 19 = .ok (.getfield 47, 3) := by decide +kernel
theorem dX7_missedOf_22 : decode cX7_missedOf 22 = .ok (.getfield 103, 3) := by decide +kernel
theorem dX7_missedOf_25 : decode cX7_missedOf 25 = .ok (.invokevirtual 145, 3) := by decide +kernel
theorem dX7_missedOf_28 : decode cX7_missedOf 28 = .ok (.ior, 1) := by decide +kernel
theorem dX7_missedOf_29 : decode cX7_missedOf 29 = .ok (.istore_n 2, 1) := by decide +kernel
theorem dX7_missedOf_30 : decode cX7_missedOf 30 = .ok (.iinc 3 1, 3) := by decide +kernel
theorem dX7_missedOf_33 : decode cX7_missedOf 33 = .ok (.goto (-29), 3) := by decide +kernel
theorem dX7_missedOf_36 : decode cX7_missedOf 36 = .ok (.iload_n 2, 1) := by decide +kernel
theorem dX7_missedOf_37 : decode cX7_missedOf 37 = .ok (.iload_n 1, 1) := by decide +kernel
theorem dX7_missedOf_38 : decode cX7_missedOf 38 = .ok (.iand, 1) := by decide +kernel
theorem dX7_missedOf_39 : decode cX7_missedOf 39 = .ok (.ireturn, 1) := by decide +kernel
theorem dX7_countOf_0 : decode cX7_countOf 0 = .ok (.aload_n 0, 1) := by decide +kernel
theorem dX7_countOf_1 : decode cX7_countOf 1 = .ok (.getfield 66, 3) := by decide +kernel
theorem dX7_countOf_4 : decode cX7_countOf 4 = .ok (.iload_n 1, 1) := by decide +kernel
theorem dX7_countOf_5 : decode cX7_countOf 5 = .ok (.invokevirtual 161, 3) := by decide +kernel
theorem dX7_countOf_8 : decode cX7_countOf 8 = .ok (.istore_n 2, 1) := by decide +kernel
theorem dX7_countOf_9 : decode cX7_countOf 9 = .ok (.aload_n 0, 1) := by decide +kernel
theorem dX7_countOf_10 : decode cX7_countOf 10 = .ok (.invokevirtual 262, 3) := by decide +kernel
theorem dX7_countOf_13 : decode cX7_countOf 13 = .ok (.aload_n 0, 1) := by decide +kernel
theorem dX7_countOf_14 : decode cX7_countOf 14 = .ok (.iload_n 2, 1) := by decide +kernel
theorem dX7_countOf_15 : decode cX7_countOf 15 = .ok (.invokevirtual 265, 3) := by decide +kernel
theorem dX7_countOf_18 : decode cX7_countOf 18 = .ok (.aload_n 0, 1) := by decide +kernel
theorem dX7_countOf_19 : decode cX7_countOf 19 = .ok (.getfield 47, 3) := by decide +kernel
theorem dX7_countOf_22 : decode cX7_countOf 22 = .ok (.getfield 158, 3) := by decide +kernel
theorem dX7_countOf_25 : decode cX7_countOf 25 = .ok (.iload_n 1, 1) := by decide +kernel
theorem dX7_countOf_26 : decode cX7_countOf 26 = .ok (.iaload, 1) := by decide +kernel
theorem dX7_countOf_27 : decode cX7_countOf 27 = .ok (.iadd, 1) := by decide +kernel
theorem dX7_countOf_28 : decode cX7_countOf 28 = .ok (.ireturn, 1) := by decide +kernel
theorem dX7_fillMisses_0 : decode cX7_fillMisses 0 = .ok (.iconst 0, 1) := by decide +kernel
theorem dX7_fillMisses_1 : decode cX7_fillMisses 1 = .ok (.istore_n 1, 1) := by decide +kernel
theorem dX7_fillMisses_2 : decode cX7_fillMisses 2 = .ok (.iload_n 1, 1) := by decide +kernel
theorem dX7_fillMisses_3 : decode cX7_fillMisses 3 = .ok (.aload_n 0, 1) := by decide +kernel
theorem dX7_fillMisses_4 : decode cX7_fillMisses 4 = .ok (.getfield 66, 3) := by decide +kernel
theorem dX7_fillMisses_7 : decode cX7_fillMisses 7 = .ok (.getfield 93, 3) := by decide +kernel
theorem dX7_fillMisses_10 : decode cX7_fillMisses 10 = .ok (.if_icmp .ge 27, 3) := by decide +kernel
theorem dX7_fillMisses_13 : decode cX7_fillMisses 13 = .ok (.aload_n 0, 1) := by decide +kernel
theorem dX7_fillMisses_14 : decode cX7_fillMisses 14 = .ok (.getfield 59, 3) := by decide +kernel
theorem dX7_fillMisses_17 : decode cX7_fillMisses 17 = .ok (.iload_n 1, 1) := by decide +kernel
theorem dX7_fillMisses_18 : decode cX7_fillMisses 18 = .ok (.aload_n 0, 1) := by decide +kernel
theorem dX7_fillMisses_19 : decode cX7_fillMisses 19 = .ok (.iload_n 1, 1) := by decide +kernel
theorem dX7_fillMisses_20 : decode cX7_fillMisses 20 = .ok (.aload_n 0, 1) := by decide +kernel
theorem dX7_fillMisses_21 : decode cX7_fillMisses 21 = .ok (.getfield 47, 3) := by decide +kernel
theorem dX7_fillMisses_24 : decode cX7_fillMisses 24 = .ok (.getfield 103, 3) := by decide +kernel
theorem dX7_fillMisses_27 : decode cX7_fillMisses 27 = .ok (.invokevirtual 145, 3) := by decide +kernel
theorem dX7_fillMisses_30 : decode cX7_fillMisses 30 = .ok (.iastore, 1) := by decide +kernel
theorem dX7_fillMisses_31 : decode cX7_fillMisses 31 = .ok (.iinc 1 1, 3) := by decide +kernel
theorem dX7_fillMisses_34 : decode cX7_fillMisses 34 = .ok (.goto (-32), 3) := by decide +kernel
theorem dX7_fillMisses_37 : decode cX7_fillMisses 37 = .ok (.return_, 1) := by decide +kernel
theorem dX7_countMissedBy_0 : decode cX7_countMissedBy 0 = .ok (.aload_n 0, 1) := by decide +kernel
theorem dX7_countMissedBy_1 : decode cX7_countMissedBy 1 = .ok (.getfield 26, 3) := by decide +kernel
theorem dX7_countMissedBy_4 : decode cX7_countMissedBy 4 = .ok (.invokevirtual 268, 3) := by decide +kernel
theorem dX7_countMissedBy_7 : decode cX7_countMissedBy 7 = .ok (.iconst 0, 1) := by decide +kernel
theorem dX7_countMissedBy_8 : decode cX7_countMissedBy 8 = .ok (.istore_n 2, 1) := by decide +kernel
theorem dX7_countMissedBy_9 : decode cX7_countMissedBy 9 = .ok (.iload_n 2, 1) := by decide +kernel
theorem dX7_countMissedBy_10 : decode cX7_countMissedBy 10 = .ok (.aload_n 0, 1) := by decide +kernel
theorem dX7_countMissedBy_11 : decode cX7_countMissedBy 11 = .ok (.getfield 66, 3) := by decide +kernel
theorem dX7_countMissedBy_14 : decode cX7_countMissedBy 14 = .ok (.getfield 93, 3) := by decide +kernel
theorem dX7_countMissedBy_17 : decode cX7_countMissedBy 17 = .ok (.if_icmp .ge 30, 3) := by decide +kernel
theorem dX7_countMissedBy_20 : decode cX7_countMissedBy 20 = .ok (.iload_n 1, 1) := by decide +kernel
theorem dX7_countMissedBy_21 : decode cX7_countMissedBy 21 = .ok (.iload_n 2, 1) := by decide +kernel
theorem dX7_countMissedBy_22 : decode cX7_countMissedBy 22 = .ok (.invokestatic 220, 3) := by decide +kernel
theorem dX7_countMissedBy_25 : decode cX7_countMissedBy 25 = .ok (.ifCond .eq 16, 3) := by decide +kernel
theorem dX7_countMissedBy_28 : decode cX7_countMissedBy 28 = .ok (.aload_n 0, 1) := by decide +kernel
theorem dX7_countMissedBy_29 : decode cX7_countMissedBy 29 = .ok (.getfield 26, 3) := by decide +kernel
theorem dX7_countMissedBy_32 : decode cX7_countMissedBy 32 = .ok (.aload_n 0, 1) := by decide +kernel
theorem dX7_countMissedBy_33 : decode cX7_countMissedBy 33 = .ok (.getfield 59, 3) := by decide +kernel
theorem dX7_countMissedBy_36 : decode cX7_countMissedBy 36 = .ok (.iload_n 2, 1) := by decide +kernel
theorem dX7_countMissedBy_37 : decode cX7_countMissedBy 37 = .ok (.iaload, 1) := by decide +kernel
theorem dX7_countMissedBy_38 : decode cX7_countMissedBy 38 = .ok (.invokevirtual 269, 3) := by decide +kernel
theorem dX7_countMissedBy_41 : decode cX7_countMissedBy 41 = .ok (.iinc 2 1, 3) := by decide +kernel
theorem dX7_countMissedBy_44 : decode cX7_countMissedBy 44 = .ok (.goto (-35), 3) := by decide +kernel
theorem dX7_countMissedBy_47 : decode cX7_countMissedBy 47 = .ok (.aload_n 0, 1) := by decide +kernel
theorem dX7_countMissedBy_48 : decode cX7_countMissedBy 48 = .ok (.getfield 26, 3) := by decide +kernel
theorem dX7_countMissedBy_51 : decode cX7_countMissedBy 51 = .ok (.aload_n 0, 1) := by decide +kernel
theorem dX7_countMissedBy_52 : decode cX7_countMissedBy 52 = .ok (.getfield 66, 3) := by decide +kernel
theorem dX7_countMissedBy_55 : decode cX7_countMissedBy 55 = .ok (.invokevirtual 273, 3) := by decide +kernel
theorem dX7_countMissedBy_58 : decode cX7_countMissedBy 58 = .ok (.ireturn, 1) := by decide +kernel
theorem dX7_mostCountByLies_0 : decode cX7_mostCountByLies 0 = .ok (.aload_n 0, 1) := by decide +kernel
theorem dX7_mostCountByLies_1 : decode cX7_mostCountByLies 1 = .ok (.getfield 26, 3) := by decide +kernel
theorem dX7_mostCountByLies_4 : decode cX7_mostCountByLies 4 = .ok (.invokevirtual 268, 3) := by decide +kernel
theorem dX7_mostCountByLies_7 : decode cX7_mostCountByLies 7 = .ok (.iconst 0, 1) := by decide +kernel
theorem dX7_mostCountByLies_8 : decode cX7_mostCountByLies 8 = .ok (.istore_n 2, 1) := by decide +kernel
theorem dX7_mostCountByLies_9 : decode cX7_mostCountByLies 9 = .ok (.iload_n 2, 1) := by decide +kernel
theorem dX7_mostCountByLies_10 : decode cX7_mostCountByLies 10 = .ok (.aload_n 0, 1) := by decide +kernel
theorem dX7_mostCountByLies_11 : decode cX7_mostCountByLies 11 = .ok (.getfield 66, 3) := by decide +kernel
theorem dX7_mostCountByLies_14 : decode cX7_mostCountByLies 14 = .ok (.getfield 93, 3) := by decide +kernel
theorem dX7_mostCountByLies_17 : decode cX7_mostCountByLies 17 = .ok (.if_icmp .ge 49, 3) := by decide +kernel
theorem dX7_mostCountByLies_20 : decode cX7_mostCountByLies 20 = .ok (.aload_n 0, 1) := by decide +kernel
theorem dX7_mostCountByLies_21 : decode cX7_mostCountByLies 21 = .ok (.getfield 66, 3) := by decide +kernel
theorem dX7_mostCountByLies_24 : decode cX7_mostCountByLies 24 = .ok (.getfield 124, 3) := by decide +kernel
theorem dX7_mostCountByLies_27 : decode cX7_mostCountByLies 27 = .ok (.iload_n 2, 1) := by decide +kernel
theorem dX7_mostCountByLies_28 : decode cX7_mostCountByLies 28 = .ok (.iaload, 1) := by decide +kernel
theorem dX7_mostCountByLies_29 : decode cX7_mostCountByLies 29 = .ok (.iload_n 1, 1) := by decide +kernel
theorem dX7_mostCountByLies_30 : decode cX7_mostCountByLies 30 = .ok (.if_icmp .ne 30, 3) := by decide +kernel
theorem dX7_mostCountByLies_33 : decode cX7_mostCountByLies 33 = .ok (.aload_n 0, 1) := by decide +kernel
theorem dX7_mostCountByLies_34 : decode cX7_mostCountByLies 34 = .ok (.iload_n 2, 1) := by decide +kernel
theorem dX7_mostCountByLies_35 : decode cX7_mostCountByLies 35 = .ok (.invokevirtual 253, 3) := by decide +kernel
theorem dX7_mostCountByLies_38 : decode cX7_mostCountByLies 38 = .ok (.ifCond .eq 22, 3) := by decide +kernel
theorem dX7_mostCountByLies_41 : decode cX7_mostCountByLies 41 = .ok (.aload_n 0, 1) := by decide +kernel
theorem dX7_mostCountByLies_42 : decode cX7_mostCountByLies 42 = .ok (.getfield 26, 3) := by decide +kernel
theorem dX7_mostCountByLies_45 : decode cX7_mostCountByLies 45 = .ok (.aload_n 0, 1) := by decide +kernel
theorem dX7_mostCountByLies_46 : decode cX7_mostCountByLies 46 = .ok (.iload_n 2, 1) := by decide +kernel
theorem dX7_mostCountByLies_47 : decode cX7_mostCountByLies 47 = .ok (.aload_n 0, 1) := by decide +kernel
theorem dX7_mostCountByLies_48 : decode cX7_mostCountByLies 48 = .ok (.getfield 47, 3) := by decide +kernel
theorem dX7_mostCountByLies_51 : decode cX7_mostCountByLies 51 = .ok (.getfield 103, 3) := by decide +kernel
theorem dX7_mostCountByLies_54 : decode cX7_mostCountByLies 54 = .ok (.invokevirtual 259, 3) := by decide +kernel
theorem dX7_mostCountByLies_57 : decode cX7_mostCountByLies 57 = .ok (.invokevirtual 269, 3) := by decide +kernel
theorem dX7_mostCountByLies_60 : decode cX7_mostCountByLies 60 = .ok (.iinc 2 1, 3) := by decide +kernel
theorem dX7_mostCountByLies_63 : decode cX7_mostCountByLies 63 = .ok (.goto (-54), 3) := by decide +kernel
theorem dX7_mostCountByLies_66 : decode cX7_mostCountByLies 66 = .ok (.aload_n 0, 1) := by decide +kernel
theorem dX7_mostCountByLies_67 : decode cX7_mostCountByLies 67 = .ok (.getfield 26, 3) := by decide +kernel
theorem dX7_mostCountByLies_70 : decode cX7_mostCountByLies 70 = .ok (.aload_n 0, 1) := by decide +kernel
theorem dX7_mostCountByLies_71 : decode cX7_mostCountByLies 71 = .ok (.getfield 66, 3) := by decide +kernel
theorem dX7_mostCountByLies_74 : decode cX7_mostCountByLies 74 = .ok (.invokevirtual 273, 3) := by decide +kernel
theorem dX7_mostCountByLies_77 : decode cX7_mostCountByLies 77 = .ok (.aload_n 0, 1) := by decide +kernel
theorem dX7_mostCountByLies_78 : decode cX7_mostCountByLies 78 = .ok (.getfield 47, 3) := by decide +kernel
theorem dX7_mostCountByLies_81 : decode cX7_mostCountByLies 81 = .ok (.getfield 158, 3) := by decide +kernel
theorem dX7_mostCountByLies_84 : decode cX7_mostCountByLies 84 = .ok (.iload_n 1, 1) := by decide +kernel
theorem dX7_mostCountByLies_85 : decode cX7_mostCountByLies 85 = .ok (.iaload, 1) := by decide +kernel
theorem dX7_mostCountByLies_86 : decode cX7_mostCountByLies 86 = .ok (.iadd, 1) := by decide +kernel
theorem dX7_mostCountByLies_87 : decode cX7_mostCountByLies 87 = .ok (.ireturn, 1) := by decide +kernel
theorem dX7_fewestToLeave_0 : decode cX7_fewestToLeave 0 = .ok (.aload_n 0, 1) := by decide +kernel
theorem dX7_fewestToLeave_1 : decode cX7_fewestToLeave 1 = .ok (.invokevirtual 262, 3) := by decide +kernel
theorem dX7_fewestToLeave_4 : decode cX7_fewestToLeave 4 = .ok (.iconst 1, 1) := by decide +kernel
theorem dX7_fewestToLeave_5 : decode cX7_fewestToLeave 5 = .ok (.iload_n 1, 1) := by decide +kernel
theorem dX7_fewestToLeave_6 : decode cX7_fewestToLeave 6 = .ok (.invokestatic 197, 3) := by decide +kernel
theorem dX7_fewestToLeave_9 : decode cX7_fewestToLeave 9 = .ok (.ishl, 1) := by decide +kernel
theorem dX7_fewestToLeave_10 : decode cX7_fewestToLeave 10 = .ok (.istore_n 3, 1) := by decide +kernel
theorem dX7_fewestToLeave_11 : decode cX7_fewestToLeave 11 = .ok (.iload_n 1, 1) := by decide +kernel
theorem dX7_fewestToLeave_12 : decode cX7_fewestToLeave 12 = .ok (.istore 4, 2) := by decide +kernel
theorem dX7_fewestToLeave_14 : decode cX7_fewestToLeave 14 = .ok (.iconst 0, 1) := by decide +kernel
theorem dX7_fewestToLeave_15 : decode cX7_fewestToLeave 15 = .ok (.istore 5, 2) := by decide +kernel
theorem dX7_fewestToLeave_17 : decode cX7_fewestToLeave 17 = .ok (.iconst 0, 1) := by decide +kernel
theorem dX7_fewestToLeave_18 : decode cX7_fewestToLeave 18 = .ok (.istore 6, 2) := by decide +kernel
theorem dX7_fewestToLeave_20 : decode cX7_fewestToLeave 20 = .ok (.iload 6, 2) := by decide +kernel
theorem dX7_fewestToLeave_22 : decode cX7_fewestToLeave 22 = .ok (.iload_n 3, 1) := by decide +kernel
theorem dX7_fewestToLeave_23 : decode cX7_fewestToLeave 23 = .ok (.if_icmp .ge 48, 3) := by decide +kernel
theorem dX7_fewestToLeave_26 : decode cX7_fewestToLeave 26 = .ok (.iload 5, 2) := by decide +kernel
theorem dX7_fewestToLeave_28 : decode cX7_fewestToLeave 28 = .ok (.invokestatic 197, 3) := by decide +kernel
theorem dX7_fewestToLeave_31 : decode cX7_fewestToLeave 31 = .ok (.iload 4, 2) := by decide +kernel
theorem dX7_fewestToLeave_33 : decode cX7_fewestToLeave 33 = .ok (.invokestatic 197, 3) := by decide +kernel
theorem dX7_fewestToLeave_36 : decode cX7_fewestToLeave 36 = .ok (.if_icmp .ge 21, 3) := by decide +kernel
theorem dX7_fewestToLeave_39 : decode cX7_fewestToLeave 39 = .ok (.aload_n 0, 1) := by decide +kernel
theorem dX7_fewestToLeave_40 : decode cX7_fewestToLeave 40 = .ok (.iload_n 1, 1) := by decide +kernel
theorem dX7_fewestToLeave_41 : decode cX7_fewestToLeave 41 = .ok (.iload 5, 2) := by decide +kernel
theorem dX7_fewestToLeave_43 : decode cX7_fewestToLeave 43 = .ok (.iconst (-1), 1) := by decide +kernel
theorem dX7_fewestToLeave_44 : decode cX7_fewestToLeave 44 = .ok (.ixor, 1) := by decide +kernel
theorem dX7_fewestToLeave_45 : decode cX7_fewestToLeave 45 = .ok (.iand, 1) := by decide +kernel
theorem dX7_fewestToLeave_46 : decode cX7_fewestToLeave 46 = .ok (.invokevirtual 265, 3) := by decide +kernel
theorem dX7_fewestToLeave_49 : decode cX7_fewestToLeave 49 = .ok (.iload_n 2, 1) := by decide +kernel
theorem dX7_fewestToLeave_50 : decode cX7_fewestToLeave 50 = .ok (.if_icmp .gt 7, 3) := by decide +kernel
theorem dX7_fewestToLeave_53 : decode cX7_fewestToLeave 53 = .ok (.iload 5, 2) := by decide +kernel
theorem dX7_fewestToLeave_55 : decode cX7_fewestToLeave 55 = .ok (.istore 4, 2) := by decide +kernel
theorem dX7_fewestToLeave_57 : decode cX7_fewestToLeave 57 = .ok (.iload 5, 2) := by decide +kernel
theorem dX7_fewestToLeave_59 : decode cX7_fewestToLeave 59 = .ok (.iload_n 1, 1) := by decide +kernel
theorem dX7_fewestToLeave_60 : decode cX7_fewestToLeave 60 = .ok (.invokestatic 213, 3) := by decide +kernel
theorem dX7_fewestToLeave_63 : decode cX7_fewestToLeave 63 = .ok (.istore 5, 2) := by decide +kernel
theorem dX7_fewestToLeave_65 : decode cX7_fewestToLeave 65 = .ok (.iinc 6 1, 3) := by decide +kernel
theorem dX7_fewestToLeave_68 : decode cX7_fewestToLeave 68 = .ok (.goto (-48), 3) := by decide +kernel
theorem dX7_fewestToLeave_71 : decode cX7_fewestToLeave 71 = .ok (.iload 4, 2) := by decide +kernel
theorem dX7_fewestToLeave_73 : decode cX7_fewestToLeave 73 = .ok (.ireturn, 1) := by decide +kernel
theorem dX7_countIfAway_0 : decode cX7_countIfAway 0 = .ok (.aload_n 0, 1) := by decide +kernel
theorem dX7_countIfAway_1 : decode cX7_countIfAway 1 = .ok (.getfield 26, 3) := by decide +kernel
theorem dX7_countIfAway_4 : decode cX7_countIfAway 4 = .ok (.invokevirtual 268, 3) := by decide +kernel
theorem dX7_countIfAway_7 : decode cX7_countIfAway 7 = .ok (.iconst 0, 1) := by decide +kernel
theorem dX7_countIfAway_8 : decode cX7_countIfAway 8 = .ok (.istore_n 3, 1) := by decide +kernel
theorem dX7_countIfAway_9 : decode cX7_countIfAway 9 = .ok (.iload_n 3, 1) := by decide +kernel
theorem dX7_countIfAway_10 : decode cX7_countIfAway 10 = .ok (.aload_n 0, 1) := by decide +kernel
theorem dX7_countIfAway_11 : decode cX7_countIfAway 11 = .ok (.getfield 66, 3) := by decide +kernel
theorem dX7_countIfAway_14 : decode cX7_countIfAway 14 = .ok (.getfield 93, 3) := by decide +kernel
theorem dX7_countIfAway_17 : decode cX7_countIfAway 17 = .ok (.if_icmp .ge 39, 3) := by decide +kernel
theorem dX7_countIfAway_20 : decode cX7_countIfAway 20 = .ok (.iload_n 1, 1) := by decide +kernel
theorem dX7_countIfAway_21 : decode cX7_countIfAway 21 = .ok (.iload_n 2, 1) := by decide +kernel
theorem dX7_countIfAway_22 : decode cX7_countIfAway 22 = .ok (.iconst (-1), 1) := by decide +kernel
theorem dX7_countIfAway_23 : decode cX7_countIfAway 23 = .ok (.ixor, 1) := by decide +kernel
theorem dX7_countIfAway_24 : decode cX7_countIfAway 24 = .ok (.iand, 1) := by decide +kernel
theorem dX7_countIfAway_25 : decode cX7_countIfAway 25 = .ok (.iload_n 3, 1) := by decide +kernel
theorem dX7_countIfAway_26 : decode cX7_countIfAway 26 = .ok (.invokestatic 220, 3) := by decide +kernel
theorem dX7_countIfAway_29 : decode cX7_countIfAway 29 = .ok (.ifCond .eq 21, 3) := by decide +kernel
theorem dX7_countIfAway_32 : decode cX7_countIfAway 32 = .ok (.aload_n 0, 1) := by decide +kernel
theorem dX7_countIfAway_33 : decode cX7_countIfAway 33 = .ok (.getfield 26, 3) := by decide +kernel
theorem dX7_countIfAway_36 : decode cX7_countIfAway 36 = .ok (.aload_n 0, 1) := by decide +kernel
theorem dX7_countIfAway_37 : decode cX7_countIfAway 37 = .ok (.getfield 66, 3) := by decide +kernel
theorem dX7_countIfAway_40 : decode cX7_countIfAway 40 = .ok (.getfield 142, 3) := by decide +kernel
theorem dX7_countIfAway_43 : decode cX7_countIfAway 43 = .ok (.iload_n 3, 1) := by decide +kernel
theorem dX7_countIfAway_44 : decode cX7_countIfAway 44 = .ok (.iaload, 1) := by decide +kernel
theorem dX7_countIfAway_45 : decode cX7_countIfAway 45 = .ok (.iload_n 2, 1) := by decide +kernel
theorem dX7_countIfAway_46 : decode cX7_countIfAway 46 = .ok (.iand, 1) := by decide +kernel
theorem dX7_countIfAway_47 : decode cX7_countIfAway 47 = .ok (.invokevirtual 269, 3) := by decide +kernel
theorem dX7_countIfAway_50 : decode cX7_countIfAway 50 = .ok (.iinc 3 1, 3) := by decide +kernel
theorem dX7_countIfAway_53 : decode cX7_countIfAway 53 = .ok (.goto (-44), 3) := by decide +kernel
theorem dX7_countIfAway_56 : decode cX7_countIfAway 56 = .ok (.aload_n 0, 1) := by decide +kernel
theorem dX7_countIfAway_57 : decode cX7_countIfAway 57 = .ok (.getfield 26, 3) := by decide +kernel
theorem dX7_countIfAway_60 : decode cX7_countIfAway 60 = .ok (.aload_n 0, 1) := by decide +kernel
theorem dX7_countIfAway_61 : decode cX7_countIfAway 61 = .ok (.getfield 66, 3) := by decide +kernel
theorem dX7_countIfAway_64 : decode cX7_countIfAway 64 = .ok (.invokevirtual 273, 3) := by decide +kernel
theorem dX7_countIfAway_67 : decode cX7_countIfAway 67 = .ok (.ireturn, 1) := by decide +kernel
theorem dX7_setsWithout_0 : decode cX7_setsWithout 0 = .ok (.iload_n 1, 1) := by decide +kernel
theorem dX7_setsWithout_1 : decode cX7_setsWithout 1 = .ok (.iload_n 3, 1) := by decide +kernel
theorem dX7_setsWithout_2 : decode cX7_setsWithout 2 = .ok (.iconst (-1), 1) := by decide +kernel
theorem dX7_setsWithout_3 : decode cX7_setsWithout 3 = .ok (.ixor, 1) := by decide +kernel
theorem dX7_setsWithout_4 : decode cX7_setsWithout 4 = .ok (.iand, 1) := by decide +kernel
theorem dX7_setsWithout_5 : decode cX7_setsWithout 5 = .ok (.istore 4, 2) := by decide +kernel
theorem dX7_setsWithout_7 : decode cX7_setsWithout 7 = .ok (.iconst 1, 1) := by decide +kernel
theorem dX7_setsWithout_8 : decode cX7_setsWithout 8 = .ok (.iload 4, 2) := by decide +kernel
theorem dX7_setsWithout_10 : decode cX7_setsWithout 10 = .ok (.invokestatic 197, 3) := by decide +kernel
theorem dX7_setsWithout_13 : decode cX7_setsWithout 13 = .ok (.ishl, 1) := by decide +kernel
theorem dX7_setsWithout_14 : decode cX7_setsWithout 14 = .ok (.istore 5, 2) := by decide +kernel
theorem dX7_setsWithout_16 : decode cX7_setsWithout 16 = .ok (.iconst 0, 1) := by decide +kernel
theorem dX7_setsWithout_17 : decode cX7_setsWithout 17 = .ok (.istore 6, 2) := by decide +kernel
theorem dX7_setsWithout_19 : decode cX7_setsWithout 19 = .ok (.iconst 0, 1) := by decide +kernel
theorem dX7_setsWithout_20 : decode cX7_setsWithout 20 = .ok (.istore 7, 2) := by decide +kernel
theorem dX7_setsWithout_22 : decode cX7_setsWithout 22 = .ok (.iconst 0, 1) := by decide +kernel
theorem dX7_setsWithout_23 : decode cX7_setsWithout 23 = .ok (.istore 8, 2) := by decide +kernel
theorem dX7_setsWithout_25 : decode cX7_setsWithout 25 = .ok (.iload 8, 2) := by decide +kernel
theorem dX7_setsWithout_27 : decode cX7_setsWithout 27 = .ok (.iload 5, 2) := by decide +kernel
theorem dX7_setsWithout_29 : decode cX7_setsWithout 29 = .ok (.if_icmp .ge 32, 3) := by decide +kernel
theorem dX7_setsWithout_32 : decode cX7_setsWithout 32 = .ok (.aload_n 0, 1) := by decide +kernel
theorem dX7_setsWithout_33 : decode cX7_setsWithout 33 = .ok (.iload_n 1, 1) := by decide +kernel
theorem dX7_setsWithout_34 : decode cX7_setsWithout 34 = .ok (.iload 7, 2) := by decide +kernel
theorem dX7_setsWithout_36 : decode cX7_setsWithout 36 = .ok (.invokevirtual 202, 3) := by decide +kernel
theorem dX7_setsWithout_39 : decode cX7_setsWithout 39 = .ok (.iload_n 2, 1) := by decide +kernel
theorem dX7_setsWithout_40 : decode cX7_setsWithout 40 = .ok (.if_icmp .ne 6, 3) := by decide +kernel
theorem dX7_setsWithout_43 : decode cX7_setsWithout 43 = .ok (.iinc 6 1, 3) := by decide +kernel
theorem dX7_setsWithout_46 : decode cX7_setsWithout 46 = .ok (.iload 7, 2) := by decide +kernel
theorem dX7_setsWithout_48 : decode cX7_setsWithout 48 = .ok (.iload 4, 2) := by decide +kernel
theorem dX7_setsWithout_50 : decode cX7_setsWithout 50 = .ok (.invokestatic 213, 3) := by decide +kernel
theorem dX7_setsWithout_53 : decode cX7_setsWithout 53 = .ok (.istore 7, 2) := by decide +kernel
theorem dX7_setsWithout_55 : decode cX7_setsWithout 55 = .ok (.iinc 8 1, 3) := by decide +kernel
theorem dX7_setsWithout_58 : decode cX7_setsWithout 58 = .ok (.goto (-33), 3) := by decide +kernel
theorem dX7_setsWithout_61 : decode cX7_setsWithout 61 = .ok (.iload 6, 2) := by decide +kernel
theorem dX7_setsWithout_63 : decode cX7_setsWithout 63 = .ok (.ireturn, 1) := by decide +kernel
theorem dX7_has_0 : decode cX7_has 0 = .ok (.iload_n 0, 1) := by decide +kernel
theorem dX7_has_1 : decode cX7_has 1 = .ok (.iload_n 1, 1) := by decide +kernel
theorem dX7_has_2 : decode cX7_has 2 = .ok (.ishr, 1) := by decide +kernel
theorem dX7_has_3 : decode cX7_has 3 = .ok (.iconst 1, 1) := by decide +kernel
theorem dX7_has_4 : decode cX7_has 4 = .ok (.iand, 1) := by decide +kernel
theorem dX7_has_5 : decode cX7_has 5 = .ok (.ifCond .eq 7, 3) := by decide +kernel
theorem dX7_has_8 : decode cX7_has 8 = .ok (.iconst 1, 1) := by decide +kernel
theorem dX7_has_9 : decode cX7_has 9 = .ok (.goto 4, 3) := by decide +kernel
theorem dX7_has_12 : decode cX7_has 12 = .ok (.iconst 0, 1) := by decide +kernel
theorem dX7_has_13 : decode cX7_has 13 = .ok (.ireturn, 1) := by decide +kernel
theorem dX7_nextPart_0 : decode cX7_nextPart 0 = .ok (.iload_n 0, 1) := by decide +kernel
theorem dX7_nextPart_1 : decode cX7_nextPart 1 = .ok (.iload_n 1, 1) := by decide +kernel
theorem dX7_nextPart_2 : decode cX7_nextPart 2 = .ok (.isub, 1) := by decide +kernel
theorem dX7_nextPart_3 : decode cX7_nextPart 3 = .ok (.iload_n 1, 1) := by decide +kernel
theorem dX7_nextPart_4 : decode cX7_nextPart 4 = .ok (.iand, 1) := by decide +kernel
theorem dX7_nextPart_5 : decode cX7_nextPart 5 = .ok (.ireturn, 1) := by decide +kernel
theorem dX7_power_0 : decode cX7_power 0 = .ok (.lconst 1, 1) := by decide +kernel
theorem dX7_power_1 : decode cX7_power 1 = .ok (.lstore_n 2, 1) := by decide +kernel
theorem dX7_power_2 : decode cX7_power 2 = .ok (.iconst 0, 1) := by decide +kernel
theorem dX7_power_3 : decode cX7_power 3 = .ok (.istore 4, 2) := by decide +kernel
theorem dX7_power_5 : decode cX7_power 5 = .ok (.iload 4, 2) := by decide +kernel
theorem dX7_power_7 : decode cX7_power 7 = .ok (.iload_n 1, 1) := by decide +kernel
theorem dX7_power_8 : decode cX7_power 8 = .ok (.if_icmp .ge 14, 3) := by decide +kernel
theorem dX7_power_11 : decode cX7_power 11 = .ok (.lload_n 2, 1) := by decide +kernel
theorem dX7_power_12 : decode cX7_power 12 = .ok (.iload_n 0, 1) := by decide +kernel
theorem dX7_power_13 : decode cX7_power 13 = .ok (.i2l, 1) := by decide +kernel
theorem dX7_power_14 : decode cX7_power 14 = .ok (.lmul, 1) := by decide +kernel
theorem dX7_power_15 : decode cX7_power 15 = .ok (.lstore_n 2, 1) := by decide +kernel
theorem dX7_power_16 : decode cX7_power 16 = .ok (.iinc 4 1, 3) := by decide +kernel
theorem dX7_power_19 : decode cX7_power 19 = .ok (.goto (-14), 3) := by decide +kernel
theorem dX7_power_22 : decode cX7_power 22 = .ok (.lload_n 2, 1) := by decide +kernel
theorem dX7_power_23 : decode cX7_power 23 = .ok (.lreturn, 1) := by decide +kernel
theorem dX7_powerOfTen_0 : decode cX7_powerOfTen 0 = .ok (.bipush 10, 2) := by decide +kernel
theorem dX7_powerOfTen_2 : decode cX7_powerOfTen 2 = .ok (.iload_n 0, 1) := by decide +kernel
theorem dX7_powerOfTen_3 : decode cX7_powerOfTen 3 = .ok (.invokestatic 240, 3) := by decide +kernel
theorem dX7_powerOfTen_6 : decode cX7_powerOfTen 6 = .ok (.l2i, 1) := by decide +kernel
theorem dX7_powerOfTen_7 : decode cX7_powerOfTen 7 = .ok (.ireturn, 1) := by decide +kernel
theorem dX7_commonDivisor_0 : decode cX7_commonDivisor 0 = .ok (.iconst 0, 1) := by decide +kernel
theorem dX7_commonDivisor_1 : decode cX7_commonDivisor 1 = .ok (.istore 4, 2) := by decide +kernel
theorem dX7_commonDivisor_3 : decode cX7_commonDivisor 3 = .ok (.iload 4, 2) := by decide +kernel
theorem dX7_commonDivisor_5 : decode cX7_commonDivisor 5 = .ok (.bipush 100, 2) := by decide +kernel
theorem dX7_commonDivisor_7 : decode cX7_commonDivisor 7 = .ok (.if_icmp .ge 25, 3) := by decide +kernel
theorem dX7_commonDivisor_10 : decode cX7_commonDivisor 10 = .ok (.lload_n 2, 1) := by decide +kernel
theorem dX7_commonDivisor_11 : decode cX7_commonDivisor 11 = .ok (.lconst 0, 1) := by decide +kernel
theorem dX7_commonDivisor_12 : decode cX7_commonDivisor 12 = .ok (.lcmp, 1) := by decide +kernel
theorem dX7_commonDivisor_13 : decode cX7_commonDivisor 13 = .ok (.ifCond .eq 19, 3) := by decide +kernel
theorem dX7_commonDivisor_16 : decode cX7_commonDivisor 16 = .ok (.lload_n 0, 1) := by decide +kernel
theorem dX7_commonDivisor_17 : decode cX7_commonDivisor 17 = .ok (.lload_n 2, 1) := by decide +kernel
theorem dX7_commonDivisor_18 : decode cX7_commonDivisor 18 = .ok (.lrem, 1) := by decide +kernel
theorem dX7_commonDivisor_19 : decode cX7_commonDivisor 19 = .ok (.lstore 5, 2) := by decide +kernel
theorem dX7_commonDivisor_21 : decode cX7_commonDivisor 21 = .ok (.lload_n 2, 1) := by decide +kernel
theorem dX7_commonDivisor_22 : decode cX7_commonDivisor 22 = .ok (.lstore_n 0, 1) := by decide +kernel
theorem dX7_commonDivisor_23 : decode cX7_commonDivisor 23 = .ok (.lload 5, 2) := by decide +kernel
theorem dX7_commonDivisor_25 : decode cX7_commonDivisor 25 = .ok (.lstore_n 2, 1) := by decide +kernel
theorem dX7_commonDivisor_26 : decode cX7_commonDivisor 26 = .ok (.iinc 4 1, 3) := by decide +kernel
theorem dX7_commonDivisor_29 : decode cX7_commonDivisor 29 = .ok (.goto (-26), 3) := by decide +kernel
theorem dX7_commonDivisor_32 : decode cX7_commonDivisor 32 = .ok (.lload_n 0, 1) := by decide +kernel
theorem dX7_commonDivisor_33 : decode cX7_commonDivisor 33 = .ok (.lreturn, 1) := by decide +kernel
theorem dJ6_bitCount_0f7a4_0 : decode cJ6_bitCount_0f7a4 0 = .ok (.iload_n 0, 1) := by decide +kernel
theorem dJ6_bitCount_0f7a4_1 : decode cJ6_bitCount_0f7a4 1 = .ok (.iload_n 0, 1) := by decide +kernel
theorem dJ6_bitCount_0f7a4_2 : decode cJ6_bitCount_0f7a4 2 = .ok (.iconst 1, 1) := by decide +kernel
theorem dJ6_bitCount_0f7a4_3 : decode cJ6_bitCount_0f7a4 3 = .ok (.iushr, 1) := by decide +kernel
theorem dJ6_bitCount_0f7a4_4 : decode cJ6_bitCount_0f7a4 4 = .ok (.ldc_w 265, 3) := by decide +kernel
theorem dJ6_bitCount_0f7a4_7 : decode cJ6_bitCount_0f7a4 7 = .ok (.iand, 1) := by decide +kernel
theorem dJ6_bitCount_0f7a4_8 : decode cJ6_bitCount_0f7a4 8 = .ok (.isub, 1) := by decide +kernel
theorem dJ6_bitCount_0f7a4_9 : decode cJ6_bitCount_0f7a4 9 = .ok (.istore_n 0, 1) := by decide +kernel
theorem dJ6_bitCount_0f7a4_10 : decode cJ6_bitCount_0f7a4 10 = .ok (.iload_n 0, 1) := by decide +kernel
theorem dJ6_bitCount_0f7a4_11 : decode cJ6_bitCount_0f7a4 11 = .ok (.ldc_w 266, 3) := by decide +kernel
theorem dJ6_bitCount_0f7a4_14 : decode cJ6_bitCount_0f7a4 14 = .ok (.iand, 1) := by decide +kernel
theorem dJ6_bitCount_0f7a4_15 : decode cJ6_bitCount_0f7a4 15 = .ok (.iload_n 0, 1) := by decide +kernel
theorem dJ6_bitCount_0f7a4_16 : decode cJ6_bitCount_0f7a4 16 = .ok (.iconst 2, 1) := by decide +kernel
theorem dJ6_bitCount_0f7a4_17 : decode cJ6_bitCount_0f7a4 17 = .ok (.iushr, 1) := by decide +kernel
theorem dJ6_bitCount_0f7a4_18 : decode cJ6_bitCount_0f7a4 18 = .ok (.ldc_w 266, 3) := by decide +kernel
theorem dJ6_bitCount_0f7a4_21 : decode cJ6_bitCount_0f7a4 21 = .ok (.iand, 1) := by decide +kernel
theorem dJ6_bitCount_0f7a4_22 : decode cJ6_bitCount_0f7a4 22 = .ok (.iadd, 1) := by decide +kernel
theorem dJ6_bitCount_0f7a4_23 : decode cJ6_bitCount_0f7a4 23 = .ok (.istore_n 0, 1) := by decide +kernel
theorem dJ6_bitCount_0f7a4_24 : decode cJ6_bitCount_0f7a4 24 = .ok (.iload_n 0, 1) := by decide +kernel
theorem dJ6_bitCount_0f7a4_25 : decode cJ6_bitCount_0f7a4 25 = .ok (.iload_n 0, 1) := by decide +kernel
theorem dJ6_bitCount_0f7a4_26 : decode cJ6_bitCount_0f7a4 26 = .ok (.iconst 4, 1) := by decide +kernel
theorem dJ6_bitCount_0f7a4_27 : decode cJ6_bitCount_0f7a4 27 = .ok (.iushr, 1) := by decide +kernel
theorem dJ6_bitCount_0f7a4_28 : decode cJ6_bitCount_0f7a4 28 = .ok (.iadd, 1) := by decide +kernel
theorem dJ6_bitCount_0f7a4_29 : decode cJ6_bitCount_0f7a4 29 = .ok (.ldc_w 267, 3) := by decide +kernel
theorem dJ6_bitCount_0f7a4_32 : decode cJ6_bitCount_0f7a4 32 = .ok (.iand, 1) := by decide +kernel
theorem dJ6_bitCount_0f7a4_33 : decode cJ6_bitCount_0f7a4 33 = .ok (.istore_n 0, 1) := by decide +kernel
theorem dJ6_bitCount_0f7a4_34 : decode cJ6_bitCount_0f7a4 34 = .ok (.iload_n 0, 1) := by decide +kernel
theorem dJ6_bitCount_0f7a4_35 : decode cJ6_bitCount_0f7a4 35 = .ok (.iload_n 0, 1) := by decide +kernel
theorem dJ6_bitCount_0f7a4_36 : decode cJ6_bitCount_0f7a4 36 = .ok (.bipush 8, 2) := by decide +kernel
theorem dJ6_bitCount_0f7a4_38 : decode cJ6_bitCount_0f7a4 38 = .ok (.iushr, 1) := by decide +kernel
theorem dJ6_bitCount_0f7a4_39 : decode cJ6_bitCount_0f7a4 39 = .ok (.iadd, 1) := by decide +kernel
theorem dJ6_bitCount_0f7a4_40 : decode cJ6_bitCount_0f7a4 40 = .ok (.istore_n 0, 1) := by decide +kernel
theorem dJ6_bitCount_0f7a4_41 : decode cJ6_bitCount_0f7a4 41 = .ok (.iload_n 0, 1) := by decide +kernel
theorem dJ6_bitCount_0f7a4_42 : decode cJ6_bitCount_0f7a4 42 = .ok (.iload_n 0, 1) := by decide +kernel
theorem dJ6_bitCount_0f7a4_43 : decode cJ6_bitCount_0f7a4 43 = .ok (.bipush 16, 2) := by decide +kernel
theorem dJ6_bitCount_0f7a4_45 : decode cJ6_bitCount_0f7a4 45 = .ok (.iushr, 1) := by decide +kernel
theorem dJ6_bitCount_0f7a4_46 : decode cJ6_bitCount_0f7a4 46 = .ok (.iadd, 1) := by decide +kernel
theorem dJ6_bitCount_0f7a4_47 : decode cJ6_bitCount_0f7a4 47 = .ok (.istore_n 0, 1) := by decide +kernel
theorem dJ6_bitCount_0f7a4_48 : decode cJ6_bitCount_0f7a4 48 = .ok (.iload_n 0, 1) := by decide +kernel
theorem dJ6_bitCount_0f7a4_49 : decode cJ6_bitCount_0f7a4 49 = .ok (.bipush 63, 2) := by decide +kernel
theorem dJ6_bitCount_0f7a4_51 : decode cJ6_bitCount_0f7a4 51 = .ok (.iand, 1) := by decide +kernel
theorem dJ6_bitCount_0f7a4_52 : decode cJ6_bitCount_0f7a4 52 = .ok (.ireturn, 1) := by decide +kernel
theorem dJ9_abs_0f7a4_0 : decode cJ9_abs_0f7a4 0 = .ok (.iload_n 0, 1) := by decide +kernel
theorem dJ9_abs_0f7a4_1 : decode cJ9_abs_0f7a4 1 = .ok (.ifCond .ge 8, 3) := by decide +kernel
theorem dJ9_abs_0f7a4_4 : decode cJ9_abs_0f7a4 4 = .ok (.iload_n 0, 1) := by decide +kernel
theorem dJ9_abs_0f7a4_5 : decode cJ9_abs_0f7a4 5 = .ok (.ineg, 1) := by decide +kernel
theorem dJ9_abs_0f7a4_6 : decode cJ9_abs_0f7a4 6 = .ok (.goto 4, 3) := by decide +kernel
theorem dJ9_abs_0f7a4_9 : decode cJ9_abs_0f7a4 9 = .ok (.iload_n 0, 1) := by decide +kernel
theorem dJ9_abs_0f7a4_10 : decode cJ9_abs_0f7a4 10 = .ok (.ireturn, 1) := by decide +kernel
theorem dJ9_max_7cf53_0 : decode cJ9_max_7cf53 0 = .ok (.iload_n 0, 1) := by decide +kernel
theorem dJ9_max_7cf53_1 : decode cJ9_max_7cf53 1 = .ok (.iload_n 1, 1) := by decide +kernel
theorem dJ9_max_7cf53_2 : decode cJ9_max_7cf53 2 = .ok (.if_icmp .lt 7, 3) := by decide +kernel
theorem dJ9_max_7cf53_5 : decode cJ9_max_7cf53 5 = .ok (.iload_n 0, 1) := by decide +kernel
theorem dJ9_max_7cf53_6 : decode cJ9_max_7cf53 6 = .ok (.goto 4, 3) := by decide +kernel
theorem dJ9_max_7cf53_9 : decode cJ9_max_7cf53 9 = .ok (.iload_n 1, 1) := by decide +kernel
theorem dJ9_max_7cf53_10 : decode cJ9_max_7cf53 10 = .ok (.ireturn, 1) := by decide +kernel
theorem dJ9_max_f86c9_0 : decode cJ9_max_f86c9 0 = .ok (.lload_n 0, 1) := by decide +kernel
theorem dJ9_max_f86c9_1 : decode cJ9_max_f86c9 1 = .ok (.lload_n 2, 1) := by decide +kernel
theorem dJ9_max_f86c9_2 : decode cJ9_max_f86c9 2 = .ok (.lcmp, 1) := by decide +kernel
theorem dJ9_max_f86c9_3 : decode cJ9_max_f86c9 3 = .ok (.ifCond .lt 7, 3) := by decide +kernel
theorem dJ9_max_f86c9_6 : decode cJ9_max_f86c9 6 = .ok (.lload_n 0, 1) := by decide +kernel
theorem dJ9_max_f86c9_7 : decode cJ9_max_f86c9 7 = .ok (.goto 4, 3) := by decide +kernel
theorem dJ9_max_f86c9_10 : decode cJ9_max_f86c9 10 = .ok (.lload_n 2, 1) := by decide +kernel
theorem dJ9_max_f86c9_11 : decode cJ9_max_f86c9 11 = .ok (.lreturn, 1) := by decide +kernel
theorem dJ9_min_7cf53_0 : decode cJ9_min_7cf53 0 = .ok (.iload_n 0, 1) := by decide +kernel
theorem dJ9_min_7cf53_1 : decode cJ9_min_7cf53 1 = .ok (.iload_n 1, 1) := by decide +kernel
theorem dJ9_min_7cf53_2 : decode cJ9_min_7cf53 2 = .ok (.if_icmp .gt 7, 3) := by decide +kernel
theorem dJ9_min_7cf53_5 : decode cJ9_min_7cf53 5 = .ok (.iload_n 0, 1) := by decide +kernel
theorem dJ9_min_7cf53_6 : decode cJ9_min_7cf53 6 = .ok (.goto 4, 3) := by decide +kernel
theorem dJ9_min_7cf53_9 : decode cJ9_min_7cf53 9 = .ok (.iload_n 1, 1) := by decide +kernel
theorem dJ9_min_7cf53_10 : decode cJ9_min_7cf53 10 = .ok (.ireturn, 1) := by decide +kernel
