theorem dX0_init_0 : decode cX0_init 0 = .ok (.aload_n 0, 1) := by decide +kernel
theorem dX0_init_1 : decode cX0_init 1 = .ok (.invokespecial 3, 3) := by decide +kernel
theorem dX0_init_4 : decode cX0_init 4 = .ok (.aload_n 0, 1) := by decide +kernel
theorem dX0_init_5 : decode cX0_init 5 = .ok (.bipush 60, 2) := by decide +kernel
theorem dX0_init_7 : decode cX0_init 7 = .ok (.newarray .int, 2) := by decide +kernel
theorem dX0_init_9 : decode cX0_init 9 = .ok (.putfield 9, 3) := by decide +kernel
theorem dX0_init_12 : decode cX0_init 12 = .ok (.aload_n 0, 1) := by decide +kernel
theorem dX0_init_13 : decode cX0_init 13 = .ok (.bipush 60, 2) := by decide +kernel
theorem dX0_init_15 : decode cX0_init 15 = .ok (.newarray .int, 2) := by decide +kernel
theorem dX0_init_17 : decode cX0_init 17 = .ok (.putfield 15, 3) := by decide +kernel
theorem dX0_init_20 : decode cX0_init 20 = .ok (.aload_n 0, 1) := by decide +kernel
theorem dX0_init_21 : decode cX0_init 21 = .ok (.bipush 60, 2) := by decide +kernel
theorem dX0_init_23 : decode cX0_init 23 = .ok (.newarray .int, 2) := by decide +kernel
theorem dX0_init_25 : decode cX0_init 25 = .ok (.putfield 18, 3) := by decide +kernel
theorem dX0_init_28 : decode cX0_init 28 = .ok (.aload_n 0, 1) := by decide +kernel
theorem dX0_init_29 : decode cX0_init 29 = .ok (.bipush 60, 2) := by decide +kernel
theorem dX0_init_31 : decode cX0_init 31 = .ok (.newarray .int, 2) := by decide +kernel
theorem dX0_init_33 : decode cX0_init 33 = .ok (.putfield 21, 3) := by decide +kernel
theorem dX0_init_36 : decode cX0_init 36 = .ok (.aload_n 0, 1) := by decide +kernel
theorem dX0_init_37 : decode cX0_init 37 = .ok (.bipush 60, 2) := by decide +kernel
theorem dX0_init_39 : decode cX0_init 39 = .ok (.newarray .int, 2) := by decide +kernel
theorem dX0_init_41 : decode cX0_init 41 = .ok (.putfield 24, 3) := by decide +kernel
theorem dX0_init_44 : decode cX0_init 44 = .ok (.aload_n 0, 1) := by decide +kernel
theorem dX0_init_45 : decode cX0_init 45 = .ok (.bipush 60, 2) := by decide +kernel
theorem dX0_init_47 : decode cX0_init 47 = .ok (.newarray .int, 2) := by decide +kernel
theorem dX0_init_49 : decode cX0_init 49 = .ok (.putfield 27, 3) := by decide +kernel
theorem dX0_init_52 : decode cX0_init 52 = .ok (.aload_n 0, 1) := by decide +kernel
theorem dX0_init_53 : decode cX0_init 53 = .ok (.iconst 0, 1) := by decide +kernel
theorem dX0_init_54 : decode cX0_init 54 = .ok (.putfield 30, 3) := by decide +kernel
theorem dX0_init_57 : decode cX0_init 57 = .ok (.return_, 1) := by decide +kernel
theorem dX0_isFull_0 : decode cX0_isFull 0 = .ok (.aload_n 0, 1) := by decide +kernel
theorem dX0_isFull_1 : decode cX0_isFull 1 = .ok (.getfield 30, 3) := by decide +kernel
theorem dX0_isFull_4 : decode cX0_isFull 4 = .ok (.bipush 60, 2) := by decide +kernel
theorem dX0_isFull_6 : decode cX0_isFull 6 = .ok (.if_icmp .lt 7, 3) := by decide +kernel
theorem dX0_isFull_9 : decode cX0_isFull 9 = .ok (.iconst 1, 1) := by decide +kernel
theorem dX0_isFull_10 : decode cX0_isFull 10 = .ok (.goto 4, 3) := by decide +kernel
theorem dX0_isFull_13 : decode cX0_isFull 13 = .ok (.iconst 0, 1) := by decide +kernel
theorem dX0_isFull_14 : decode cX0_isFull 14 = .ok (.ireturn, 1) := by decide +kernel
theorem dX0_add_0 : decode cX0_add 0 = .ok (.aload_n 0, 1) := by decide +kernel
theorem dX0_add_1 : decode cX0_add 1 = .ok (.getfield 30, 3) := by decide +kernel
theorem dX0_add_4 : decode cX0_add 4 = .ok (.bipush 60, 2) := by decide +kernel
theorem dX0_add_6 : decode cX0_add 6 = .ok (.if_icmp .lt 5, 3) := by decide +kernel
theorem dX0_add_9 : decode cX0_add 9 = .ok (.iconst (-1), 1) := by decide +kernel
theorem dX0_add_10 : decode cX0_add 10 = .ok (.ireturn, 1) := by decide +kernel
theorem dX0_add_11 : decode cX0_add 11 = .ok (.aload_n 0, 1) := by decide +kernel
theorem dX0_add_12 : decode cX0_add 12 = .ok (.getfield 9, 3) := by decide +kernel
theorem dX0_add_15 : decode cX0_add 15 = .ok (.aload_n 0, 1) := by decide +kernel
theorem dX0_add_16 : decode cX0_add 16 = .ok (.getfield 30, 3) := by decide +kernel
theorem dX0_add_19 : decode cX0_add 19 = .ok (.iload_n 1, 1) := by decide +kernel
theorem dX0_add_20 : decode cX0_add 20 = .ok (.iastore, 1) := by decide +kernel
theorem dX0_add_21 : decode cX0_add 21 = .ok (.aload_n 0, 1) := by decide +kernel
theorem dX0_add_22 : decode cX0_add 22 = .ok (.getfield 15, 3) := by decide +kernel
theorem dX0_add_25 : decode cX0_add 25 = .ok (.aload_n 0, 1) := by decide +kernel
theorem dX0_add_26 : decode cX0_add 26 = .ok (.getfield 30, 3) := by decide +kernel
theorem dX0_add_29 : decode cX0_add 29 = .ok (.iload_n 2, 1) := by decide +kernel
theorem dX0_add_30 : decode cX0_add 30 = .ok (.iastore, 1) := by decide +kernel
theorem dX0_add_31 : decode cX0_add 31 = .ok (.aload_n 0, 1) := by decide +kernel
theorem dX0_add_32 : decode cX0_add 32 = .ok (.getfield 18, 3) := by decide +kernel
theorem dX0_add_35 : decode cX0_add 35 = .ok (.aload_n 0, 1) := by decide +kernel
theorem dX0_add_36 : decode cX0_add 36 = .ok (.getfield 30, 3) := by decide +kernel
theorem dX0_add_39 : decode cX0_add 39 = .ok (.iload_n 3, 1) := by decide +kernel
theorem dX0_add_40 : decode cX0_add 40 = .ok (.iastore, 1) := by decide +kernel
theorem dX0_add_41 : decode cX0_add 41 = .ok (.aload_n 0, 1) := by decide +kernel
theorem dX0_add_42 : decode cX0_add 42 = .ok (.getfield 21, 3) := by decide +kernel
theorem dX0_add_45 : decode cX0_add 45 = .ok (.aload_n 0, 1) := by decide +kernel
theorem dX0_add_46 : decode cX0_add 46 = .ok (.getfield 30, 3) := by decide +kernel
theorem dX0_add_49 : decode cX0_add 49 = .ok (.iload 4, 2) := by decide +kernel
theorem dX0_add_51 : decode cX0_add 51 = .ok (.iastore, 1) := by decide +kernel
theorem dX0_add_52 : decode cX0_add 52 = .ok (.aload_n 0, 1) := by decide +kernel
theorem dX0_add_53 : decode cX0_add 53 = .ok (.getfield 24, 3) := by decide +kernel
theorem dX0_add_56 : decode cX0_add 56 = .ok (.aload_n 0, 1) := by decide +kernel
theorem dX0_add_57 : decode cX0_add 57 = .ok (.getfield 30, 3) := by decide +kernel
theorem dX0_add_60 : decode cX0_add 60 = .ok (.iconst 0, 1) := by decide +kernel
theorem dX0_add_61 : decode cX0_add 61 = .ok (.iastore, 1) := by decide +kernel
theorem dX0_add_62 : decode cX0_add 62 = .ok (.aload_n 0, 1) := by decide +kernel
theorem dX0_add_63 : decode cX0_add 63 = .ok (.getfield 27, 3) := by decide +kernel
theorem dX0_add_66 : decode cX0_add 66 = .ok (.aload_n 0, 1) := by decide +kernel
theorem dX0_add_67 : decode cX0_add 67 = .ok (.getfield 30, 3) := by decide +kernel
theorem dX0_add_70 : decode cX0_add 70 = .ok (.iconst (-1), 1) := by decide +kernel
theorem dX0_add_71 : decode cX0_add 71 = .ok (.iastore, 1) := by decide +kernel
theorem dX0_add_72 : decode cX0_add 72 = .ok (.aload_n 0, 1) := by decide +kernel
theorem dX0_add_73 : decode cX0_add 73 = .ok (.dup, 1) := by decide +kernel
theorem dX0_add_74 : decode cX0_add 74 = .ok (.getfield 30, 3) := by decide +kernel
theorem dX0_add_77 : decode cX0_add 77 = .ok (.dup_x1, 1) := by decide +kernel
theorem dX0_add_78 : decode cX0_add 78 = .ok (.iconst 1, 1) := by decide +kernel
theorem dX0_add_79 : decode cX0_add 79 = .ok (.iadd, 1) := by decide +kernel
theorem dX0_add_80 : decode cX0_add 80 = .ok (.putfield 30, 3) := by decide +kernel
theorem dX0_add_83 : decode cX0_add 83 = .ok (.ireturn, 1) := by decide +kernel
theorem dX0_isActive_0 : decode cX0_isActive 0 = .ok (.aload_n 0, 1) := by decide +kernel
theorem dX0_isActive_1 : decode cX0_isActive 1 = .ok (.getfield 24, 3) := by decide +kernel
theorem dX0_isActive_4 : decode cX0_isActive 4 = .ok (.iload_n 1, 1) := by decide +kernel
theorem dX0_isActive_5 : decode cX0_isActive 5 = .ok (.iaload, 1) := by decide +kernel
theorem dX0_isActive_6 : decode cX0_isActive 6 = .ok (.ifCond .eq 13, 3) := by decide +kernel
theorem dX0_isActive_9 : decode cX0_isActive 9 = .ok (.aload_n 0, 1) := by decide +kernel
theorem dX0_isActive_10 : decode cX0_isActive 10 = .ok (.getfield 24, 3) := by decide +kernel
theorem dX0_isActive_13 : decode cX0_isActive 13 = .ok (.iload_n 1, 1) := by decide +kernel
theorem dX0_isActive_14 : decode cX0_isActive 14 = .ok (.iaload, 1) := by decide +kernel
theorem dX0_isActive_15 : decode cX0_isActive 15 = .ok (.iconst 1, 1) := by decide +kernel
theorem dX0_isActive_16 : decode cX0_isActive 16 = .ok (.if_icmp .ne 7, 3) := by decide +kernel
theorem dX0_isActive_19 : decode cX0_isActive 19 = .ok (.iconst 1, 1) := by decide +kernel
theorem dX0_isActive_20 : decode cX0_isActive 20 = .ok (.goto 4, 3) := by decide +kernel
theorem dX0_isActive_23 : decode cX0_isActive 23 = .ok (.iconst 0, 1) := by decide +kernel
theorem dX0_isActive_24 : decode cX0_isActive 24 = .ok (.ireturn, 1) := by decide +kernel
theorem dX0_isToArrive_0 : decode cX0_isToArrive 0 = .ok (.aload_n 0, 1) := by decide +kernel
theorem dX0_isToArrive_1 : decode cX0_isToArrive 1 = .ok (.getfield 24, 3) := by decide +kernel
theorem dX0_isToArrive_4 : decode cX0_isToArrive 4 = .ok (.iload_n 1, 1) := by decide +kernel
theorem dX0_isToArrive_5 : decode cX0_isToArrive 5 = .ok (.iaload, 1) := by decide +kernel
theorem dX0_isToArrive_6 : decode cX0_isToArrive 6 = .ok (.ifCond .ne 17, 3) := by decide +kernel
theorem dX0_isToArrive_9 : decode cX0_isToArrive 9 = .ok (.aload_n 0, 1) := by decide +kernel
theorem dX0_isToArrive_10 : decode cX0_isToArrive 10 = .ok (.getfield 15, 3) := by decide +kernel
theorem dX0_isToArrive_13 : decode cX0_isToArrive 13 = .ok (.iload_n 1, 1) := by decide +kernel
theorem dX0_isToArrive_14 : decode cX0_isToArrive 14 = .ok (.iaload, 1) := by decide +kernel
theorem dX0_isToArrive_15 : decode cX0_isToArrive 15 = .ok (.iload_n 2, 1) := by decide +kernel
theorem dX0_isToArrive_16 : decode cX0_isToArrive 16 = .ok (.if_icmp .ne 7, 3) := by decide +kernel
theorem dX0_isToArrive_19 : decode cX0_isToArrive 19 = .ok (.iconst 1, 1) := by decide +kernel
theorem dX0_isToArrive_20 : decode cX0_isToArrive 20 = .ok (.goto 4, 3) := by decide +kernel
theorem dX0_isToArrive_23 : decode cX0_isToArrive 23 = .ok (.iconst 0, 1) := by decide +kernel
theorem dX0_isToArrive_24 : decode cX0_isToArrive 24 = .ok (.ireturn, 1) := by decide +kernel
theorem dX0_isToDepart_0 : decode cX0_isToDepart 0 = .ok (.aload_n 0, 1) := by decide +kernel
theorem dX0_isToDepart_1 : decode cX0_isToDepart 1 = .ok (.iload_n 1, 1) := by decide +kernel
theorem dX0_isToDepart_2 : decode cX0_isToDepart 2 = .ok (.invokevirtual 34, 3) := by decide +kernel
theorem dX0_isToDepart_5 : decode cX0_isToDepart 5 = .ok (.ifCond .eq 17, 3) := by decide +kernel
theorem dX0_isToDepart_8 : decode cX0_isToDepart 8 = .ok (.aload_n 0, 1) := by decide +kernel
theorem dX0_isToDepart_9 : decode cX0_isToDepart 9 = .ok (.getfield 18, 3) := by decide +kernel
theorem dX0_isToDepart_12 : decode cX0_isToDepart 12 = .ok (.iload_n 1, 1) := by decide +kernel
theorem dX0_isToDepart_13 : decode cX0_isToDepart 13 = .ok (.iaload, 1) := by decide +kernel
theorem dX0_isToDepart_14 : decode cX0_isToDepart 14 = .ok (.iload_n 2, 1) := by decide +kernel
theorem dX0_isToDepart_15 : decode cX0_isToDepart 15 = .ok (.if_icmp .ne 7, 3) := by decide +kernel
theorem dX0_isToDepart_18 : decode cX0_isToDepart 18 = .ok (.iconst 1, 1) := by decide +kernel
theorem dX0_isToDepart_19 : decode cX0_isToDepart 19 = .ok (.goto 4, 3) := by decide +kernel
theorem dX0_isToDepart_22 : decode cX0_isToDepart 22 = .ok (.iconst 0, 1) := by decide +kernel
theorem dX0_isToDepart_23 : decode cX0_isToDepart 23 = .ok (.ireturn, 1) := by decide +kernel
theorem dX0_takenOn_0 : decode cX0_takenOn 0 = .ok (.iconst 0, 1) := by decide +kernel
theorem dX0_takenOn_1 : decode cX0_takenOn 1 = .ok (.istore_n 3, 1) := by decide +kernel
theorem dX0_takenOn_2 : decode cX0_takenOn 2 = .ok (.iconst 0, 1) := by decide +kernel
theorem dX0_takenOn_3 : decode cX0_takenOn 3 = .ok (.istore 4, 2) := by decide +kernel
theorem dX0_takenOn_5 : decode cX0_takenOn 5 = .ok (.iload 4, 2) := by decide +kernel
theorem dX0_takenOn_7 : decode cX0_takenOn 7 = .ok (.aload_n 0, 1) := by decide +kernel
theorem dX0_takenOn_8 : decode cX0_takenOn 8 = .ok (.getfield 30, 3) := by decide +kernel
theorem dX0_takenOn_11 : decode cX0_takenOn 11 = .ok (.if_icmp .ge 54, 3) := by decide +kernel
theorem dX0_takenOn_14 : decode cX0_takenOn 14 = .ok (.aload_n 0, 1) := by decide +kernel
theorem dX0_takenOn_15 : decode cX0_takenOn 15 = .ok (.getfield 15, 3) := by decide +kernel
theorem dX0_takenOn_18 : decode cX0_takenOn 18 = .ok (.iload 4, 2) := by decide +kernel
theorem dX0_takenOn_20 : decode cX0_takenOn 20 = .ok (.iaload, 1) := by decide +kernel
theorem dX0_takenOn_21 : decode cX0_takenOn 21 = .ok (.iload_n 2, 1) := by decide +kernel
theorem dX0_takenOn_22 : decode cX0_takenOn 22 = .ok (.if_icmp .gt 37, 3) := by decide +kernel
theorem dX0_takenOn_25 : decode cX0_takenOn 25 = .ok (.iload_n 2, 1) := by decide +kernel
theorem dX0_takenOn_26 : decode cX0_takenOn 26 = .ok (.aload_n 0, 1) := by decide +kernel
theorem dX0_takenOn_27 : decode cX0_takenOn 27 = .ok (.getfield 18, 3) := by decide +kernel
theorem dX0_takenOn_30 : decode cX0_takenOn 30 = .ok (.iload 4, 2) := by decide +kernel
theorem dX0_takenOn_32 : decode cX0_takenOn 32 = .ok (.iaload, 1) := by decide +kernel
theorem dX0_takenOn_33 : decode cX0_takenOn 33 = .ok (.if_icmp .ge 26, 3) := by decide +kernel
theorem dX0_takenOn_36 : decode cX0_takenOn 36 = .ok (.aload_n 0, 1) := by decide +kernel
theorem dX0_takenOn_37 : decode cX0_takenOn 37 = .ok (.getfield 9, 3) := by decide +kernel
theorem dX0_takenOn_40 : decode cX0_takenOn 40 = .ok (.iload 4, 2) := by decide +kernel
theorem dX0_takenOn_42 : decode cX0_takenOn 42 = .ok (.iaload, 1) := by decide +kernel
theorem dX0_takenOn_43 : decode cX0_takenOn 43 = .ok (.iload_n 1, 1) := by decide +kernel
theorem dX0_takenOn_44 : decode cX0_takenOn 44 = .ok (.if_icmp .ne 15, 3) := by decide +kernel
theorem dX0_takenOn_47 : decode cX0_takenOn 47 = .ok (.aload_n 0, 1) := by decide +kernel
theorem dX0_takenOn_48 : decode cX0_takenOn 48 = .ok (.iload 4, 2) := by decide +kernel
theorem dX0_takenOn_50 : decode cX0_takenOn 50 = .ok (.invokevirtual 34, 3) := by decide +kernel
theorem dX0_takenOn_53 : decode cX0_takenOn 53 = .ok (.ifCond .eq 6, 3) := by decide +kernel
theorem dX0_takenOn_56 : decode cX0_takenOn 56 = .ok (.iinc 3 1, 3) := by decide +kernel
theorem dX0_takenOn_59 : decode cX0_takenOn 59 = .ok (.iinc 4 1, 3) := by decide +kernel
theorem dX0_takenOn_62 : decode cX0_takenOn 62 = .ok (.goto (-57), 3) := by decide +kernel
theorem dX0_takenOn_65 : decode cX0_takenOn 65 = .ok (.iload_n 3, 1) := by decide +kernel
theorem dX0_takenOn_66 : decode cX0_takenOn 66 = .ok (.ireturn, 1) := by decide +kernel
theorem dX0_isSomebodyAt_0 : decode cX0_isSomebodyAt 0 = .ok (.iconst 0, 1) := by decide +kernel
theorem dX0_isSomebodyAt_1 : decode cX0_isSomebodyAt 1 = .ok (.istore_n 2, 1) := by decide +kernel
theorem dX0_isSomebodyAt_2 : decode cX0_isSomebodyAt 2 = .ok (.iload_n 2, 1) := by decide +kernel
theorem dX0_isSomebodyAt_3 : decode cX0_isSomebodyAt 3 = .ok (.aload_n 0, 1) := by decide +kernel
theorem dX0_isSomebodyAt_4 : decode cX0_isSomebodyAt 4 = .ok (.getfield 30, 3) := by decide +kernel
theorem dX0_isSomebodyAt_7 : decode cX0_isSomebodyAt 7 = .ok (.if_icmp .ge 31, 3) := by decide +kernel
theorem dX0_isSomebodyAt_10 : decode cX0_isSomebodyAt 10 = .ok (.aload_n 0, 1) := by decide +kernel
theorem dX0_isSomebodyAt_11 : decode cX0_isSomebodyAt 11 = .ok (.getfield 24, 3) := by decide +kernel
theorem dX0_isSomebodyAt_14 : decode cX0_isSomebodyAt 14 = .ok (.iload_n 2, 1) := by decide +kernel
theorem dX0_isSomebodyAt_15 : decode cX0_isSomebodyAt 15 = .ok (.iaload, 1) := by decide +kernel
theorem dX0_isSomebodyAt_16 : decode cX0_isSomebodyAt 16 = .ok (.iconst 1, 1) := by decide +kernel
theorem dX0_isSomebodyAt_17 : decode cX0_isSomebodyAt 17 = .ok (.if_icmp .ne 15, 3) := by decide +kernel
theorem dX0_isSomebodyAt_20 : decode cX0_isSomebodyAt 20 = .ok (.aload_n 0, 1) := by decide +kernel
theorem dX0_isSomebodyAt_21 : decode cX0_isSomebodyAt 21 = .ok (.getfield 27, 3) := by decide +kernel
theorem dX0_isSomebodyAt_24 : decode cX0_isSomebodyAt 24 = .ok (.iload_n 2, 1) := by decide +kernel
theorem dX0_isSomebodyAt_25 : decode cX0_isSomebodyAt 25 = .ok (.iaload, 1) := by decide +kernel
theorem dX0_isSomebodyAt_26 : decode cX0_isSomebodyAt 26 = .ok (.iload_n 1, 1) := by decide +kernel
theorem dX0_isSomebodyAt_27 : decode cX0_isSomebodyAt 27 = .ok (.if_icmp .ne 5, 3) := by decide +kernel
theorem dX0_isSomebodyAt_30 : decode cX0_isSomebodyAt 30 = .ok (.iconst 1, 1) := by decide +kernel
theorem dX0_isSomebodyAt_31 : decode cX0_isSomebodyAt 31 = .ok (.ireturn, 1) := by decide +kernel
theorem dX0_isSomebodyAt_32 : decode cX0_isSomebodyAt 32 = .ok (.iinc 2 1, 3) := by decide +kernel
theorem dX0_isSomebodyAt_35 : decode cX0_isSomebodyAt 35 = .ok (.goto (-33), 3) := by decide +kernel
theorem dX0_isSomebodyAt_38 : decode cX0_isSomebodyAt 38 = .ok (.iconst 0, 1) := by decide +kernel
theorem dX0_isSomebodyAt_39 : decode cX0_isSomebodyAt 39 = .ok (.ireturn, 1) := by decide +kernel
theorem dX0_isDearer_0 : decode cX0_isDearer 0 = .ok (.aload_n 0, 1) := by decide +kernel
theorem dX0_isDearer_1 : decode cX0_isDearer 1 = .ok (.getfield 18, 3) := by decide +kernel
theorem dX0_isDearer_4 : decode cX0_isDearer 4 = .ok (.iload_n 1, 1) := by decide +kernel
theorem dX0_isDearer_5 : decode cX0_isDearer 5 = .ok (.iaload, 1) := by decide +kernel
theorem dX0_isDearer_6 : decode cX0_isDearer 6 = .ok (.aload_n 0, 1) := by decide +kernel
theorem dX0_isDearer_7 : decode cX0_isDearer 7 = .ok (.getfield 15, 3) := by decide +kernel
theorem dX0_isDearer_10 : decode cX0_isDearer 10 = .ok (.iload_n 1, 1) := by decide +kernel
theorem dX0_isDearer_11 : decode cX0_isDearer 11 = .ok (.iaload, 1) := by decide +kernel
theorem dX0_isDearer_12 : decode cX0_isDearer 12 = .ok (.isub, 1) := by decide +kernel
theorem dX0_isDearer_13 : decode cX0_isDearer 13 = .ok (.i2l, 1) := by decide +kernel
theorem dX0_isDearer_14 : decode cX0_isDearer 14 = .ok (.lstore_n 3, 1) := by decide +kernel
theorem dX0_isDearer_15 : decode cX0_isDearer 15 = .ok (.aload_n 0, 1) := by decide +kernel
theorem dX0_isDearer_16 : decode cX0_isDearer 16 = .ok (.getfield 18, 3) := by decide +kernel
theorem dX0_isDearer_19 : decode cX0_isDearer 19 = .ok (.iload_n 2, 1) := by decide +kernel
theorem dX0_isDearer_20 : decode cX0_isDearer 20 = .ok (.iaload, 1) := by decide +kernel
theorem dX0_isDearer_21 : decode cX0_isDearer 21 = .ok (.aload_n 0, 1) := by decide +kernel
theorem dX0_isDearer_22 : decode cX0_isDearer 22 = .ok (.getfield 15, 3) := by decide +kernel
theorem dX0_isDearer_25 : decode cX0_isDearer 25 = .ok (.iload_n 2, 1) := by decide +kernel
theorem dX0_isDearer_26 : decode cX0_isDearer 26 = .ok (.iaload, 1) := by decide +kernel
theorem dX0_isDearer_27 : decode cX0_isDearer 27 = .ok (.isub, 1) := by decide +kernel
theorem dX0_isDearer_28 : decode cX0_isDearer 28 = .ok (.i2l, 1) := by decide +kernel
theorem dX0_isDearer_29 : decode cX0_isDearer 29 = .ok (.lstore 5, 2) := by decide +kernel
theorem dX0_isDearer_31 : decode cX0_isDearer 31 = .ok (.aload_n 0, 1) := by decide +kernel
theorem dX0_isDearer_32 : decode cX0_isDearer 32 = .ok (.getfield 21, 3) := by decide +kernel
theorem dX0_isDearer_35 : decode cX0_isDearer 35 = .ok (.iload_n 1, 1) := by decide +kernel
theorem dX0_isDearer_36 : decode cX0_isDearer 36 = .ok (.iaload, 1) := by decide +kernel
theorem dX0_isDearer_37 : decode cX0_isDearer 37 = .ok (.i2l, 1) := by decide +kernel
theorem dX0_isDearer_38 : decode cX0_isDearer 38 = .ok (.lload 5, 2) := by decide +kernel
theorem dX0_isDearer_40 : decode cX0_isDearer 40 = .ok (.lmul, 1) := by decide +kernel
theorem dX0_isDearer_41 : decode cX0_isDearer 41 = .ok (.aload_n 0, 1) := by decide +kernel
theorem dX0_isDearer_42 : decode cX0_isDearer 42 = .ok (.getfield 21, 3) := by decide +kernel
theorem dX0_isDearer_45 : decode cX0_isDearer 45 = .ok (.iload_n 2, 1) := by decide +kernel
theorem dX0_isDearer_46 : decode cX0_isDearer 46 = .ok (.iaload, 1) := by decide +kernel
theorem dX0_isDearer_47 : decode cX0_isDearer 47 = .ok (.i2l, 1) := by decide +kernel
theorem dX0_isDearer_48 : decode cX0_isDearer 48 = .ok (.lload_n 3, 1) := by decide +kernel
theorem dX0_isDearer_49 : decode cX0_isDearer 49 = .ok (.lmul, 1) := by decide +kernel
theorem dX0_isDearer_50 : decode cX0_isDearer 50 = .ok (.lcmp, 1) := by decide +kernel
theorem dX0_isDearer_51 : decode cX0_isDearer 51 = .ok (.ifCond .le 7, 3) := by decide +kernel
theorem dX0_isDearer_54 : decode cX0_isDearer 54 = .ok (.iconst 1, 1) := by decide +kernel
theorem dX0_isDearer_55 : decode cX0_isDearer 55 = .ok (.goto 4, 3) := by decide +kernel
theorem dX0_isDearer_58 : decode cX0_isDearer 58 = .ok (.iconst 0, 1) := by decide +kernel
theorem dX0_isDearer_59 : decode cX0_isDearer 59 = .ok (.ireturn, 1) := by decide +kernel
theorem dX0_endNight_0 : decode cX0_endNight 0 = .ok (.iconst 0, 1) := by decide +kernel
theorem dX0_endNight_1 : decode cX0_endNight 1 = .ok (.istore_n 2, 1) := by decide +kernel
theorem dX0_endNight_2 : decode cX0_endNight 2 = .ok (.iload_n 2, 1) := by decide +kernel
theorem dX0_endNight_3 : decode cX0_endNight 3 = .ok (.aload_n 0, 1) := by decide +kernel
theorem dX0_endNight_4 : decode cX0_endNight 4 = .ok (.getfield 30, 3) := by decide +kernel
theorem dX0_endNight_7 : decode cX0_endNight 7 = .ok (.if_icmp .ge 67, 3) := by decide +kernel
theorem dX0_endNight_10 : decode cX0_endNight 10 = .ok (.aload_n 0, 1) := by decide +kernel
theorem dX0_endNight_11 : decode cX0_endNight 11 = .ok (.getfield 24, 3) := by decide +kernel
theorem dX0_endNight_14 : decode cX0_endNight 14 = .ok (.iload_n 2, 1) := by decide +kernel
theorem dX0_endNight_15 : decode cX0_endNight 15 = .ok (.iaload, 1) := by decide +kernel
theorem dX0_endNight_16 : decode cX0_endNight 16 = .ok (.ifCond .ne 23, 3) := by decide +kernel
theorem dX0_endNight_19 : decode cX0_endNight 19 = .ok (.aload_n 0, 1) := by decide +kernel
theorem dX0_endNight_20 : decode cX0_endNight 20 = .ok (.getfield 15, 3) := by decide +kernel
theorem dX0_endNight_23 : decode cX0_endNight 23 = .ok (.iload_n 2, 1) := by decide +kernel
theorem dX0_endNight_24 : decode cX0_endNight 24 = .ok (.iaload, 1) := by decide +kernel
theorem dX0_endNight_25 : decode cX0_endNight 25 = .ok (.iload_n 1, 1) := by decide +kernel
theorem dX0_endNight_26 : decode cX0_endNight 26 = .ok (.if_icmp .gt 13, 3) := by decide +kernel
theorem dX0_endNight_29 : decode cX0_endNight 29 = .ok (.aload_n 0, 1) := by decide +kernel
theorem dX0_endNight_30 : decode cX0_endNight 30 = .ok (.getfield 24, 3) := by decide +kernel
theorem dX0_endNight_33 : decode cX0_endNight 33 = .ok (.iload_n 2, 1) := by decide +kernel
theorem dX0_endNight_34 : decode cX0_endNight 34 = .ok (.iconst 4, 1) := by decide +kernel
theorem dX0_endNight_35 : decode cX0_endNight 35 = .ok (.iastore, 1) := by decide +kernel
theorem dX0_endNight_36 : decode cX0_endNight 36 = .ok (.goto 32, 3) := by decide +kernel
theorem dX0_endNight_39 : decode cX0_endNight 39 = .ok (.aload_n 0, 1) := by decide +kernel
theorem dX0_endNight_40 : decode cX0_endNight 40 = .ok (.getfield 24, 3) := by decide +kernel
theorem dX0_endNight_43 : decode cX0_endNight 43 = .ok (.iload_n 2, 1) := by decide +kernel
theorem dX0_endNight_44 : decode cX0_endNight 44 = .ok (.iaload, 1) := by decide +kernel
theorem dX0_endNight_45 : decode cX0_endNight 45 = .ok (.iconst 1, 1) := by decide +kernel
theorem dX0_endNight_46 : decode cX0_endNight 46 = .ok (.if_icmp .ne 22, 3) := by decide +kernel
theorem dX0_endNight_49 : decode cX0_endNight 49 = .ok (.aload_n 0, 1) := by decide +kernel
theorem dX0_endNight_50 : decode cX0_endNight 50 = .ok (.getfield 18, 3) := by decide +kernel
theorem dX0_endNight_53 : decode cX0_endNight 53 = .ok (.iload_n 2, 1) := by decide +kernel
theorem dX0_endNight_54 : decode cX0_endNight 54 = .ok (.iaload, 1) := by decide +kernel
theorem dX0_endNight_55 : decode cX0_endNight 55 = .ok (.iload_n 1, 1) := by decide +kernel
theorem dX0_endNight_56 : decode cX0_endNight 56 = .ok (.iconst 1, 1) := by decide +kernel
theorem dX0_endNight_57 : decode cX0_endNight 57 = .ok (.iadd, 1) := by decide +kernel
theorem dX0_endNight_58 : decode cX0_endNight 58 = .ok (.if_icmp .gt 10, 3) := by decide +kernel
theorem dX0_endNight_61 : decode cX0_endNight 61 = .ok (.aload_n 0, 1) := by decide +kernel
theorem dX0_endNight_62 : decode cX0_endNight 62 = .ok (.getfield 24, 3) := by decide +kernel
theorem dX0_endNight_65 : decode cX0_endNight 65 = .ok (.iload_n 2, 1) := by decide +kernel
theorem dX0_endNight_66 : decode cX0_endNight 66 = .ok (.iconst 2, 1) := by decide +kernel
theorem dX0_endNight_67 : decode cX0_endNight 67 = .ok (.iastore, 1) := by decide +kernel
theorem dX0_endNight_68 : decode cX0_endNight 68 = .ok (.iinc 2 1, 3) := by decide +kernel
theorem dX0_endNight_71 : decode cX0_endNight 71 = .ok (.goto (-69), 3) := by decide +kernel
theorem dX0_endNight_74 : decode cX0_endNight 74 = .ok (.return_, 1) := by decide +kernel
theorem dX0_copyFrom_0 : decode cX0_copyFrom 0 = .ok (.aload_n 1, 1) := by decide +kernel
theorem dX0_copyFrom_1 : decode cX0_copyFrom 1 = .ok (.getfield 9, 3) := by decide +kernel
theorem dX0_copyFrom_4 : decode cX0_copyFrom 4 = .ok (.aload_n 0, 1) := by decide +kernel
theorem dX0_copyFrom_5 : decode cX0_copyFrom 5 = .ok (.getfield 9, 3) := by decide +kernel
theorem dX0_copyFrom_8 : decode cX0_copyFrom 8 = .ok (.invokestatic 38, 3) := by decide +kernel
theorem dX0_copyFrom_11 : decode cX0_copyFrom 11 = .ok (.aload_n 1, 1) := by decide +kernel
theorem dX0_copyFrom_12 : decode cX0_copyFrom 12 = .ok (.getfield 15, 3) := by decide +kernel
theorem dX0_copyFrom_15 : decode cX0_copyFrom 15 = .ok (.aload_n 0, 1) := by decide +kernel
theorem dX0_copyFrom_16 : decode cX0_copyFrom 16 = .ok (.getfield 15, 3) := by decide +kernel
theorem dX0_copyFrom_19 : decode cX0_copyFrom 19 = .ok (.invokestatic 38, 3) := by decide +kernel
theorem dX0_copyFrom_22 : decode cX0_copyFrom 22 = .ok (.aload_n 1, 1) := by decide +kernel
theorem dX0_copyFrom_23 : decode cX0_copyFrom 23 = .ok (.getfield 18, 3) := by decide +kernel
theorem dX0_copyFrom_26 : decode cX0_copyFrom 26 = .ok (.aload_n 0, 1) := by decide +kernel
theorem dX0_copyFrom_27 : decode cX0_copyFrom 27 = .ok (.getfield 18, 3) := by decide +kernel
theorem dX0_copyFrom_30 : decode cX0_copyFrom 30 = .ok (.invokestatic 38, 3) := by decide +kernel
theorem dX0_copyFrom_33 : decode cX0_copyFrom 33 = .ok (.aload_n 1, 1) := by decide +kernel
theorem dX0_copyFrom_34 : decode cX0_copyFrom 34 = .ok (.getfield 21, 3) := by decide +kernel
theorem dX0_copyFrom_37 : decode cX0_copyFrom 37 = .ok (.aload_n 0, 1) := by decide +kernel
theorem dX0_copyFrom_38 : decode cX0_copyFrom 38 = .ok (.getfield 21, 3) := by decide +kernel
theorem dX0_copyFrom_41 : decode cX0_copyFrom 41 = .ok (.invokestatic 38, 3) := by decide +kernel
theorem dX0_copyFrom_44 : decode cX0_copyFrom 44 = .ok (.aload_n 1, 1) := by decide +kernel
theorem dX0_copyFrom_45 : decode cX0_copyFrom 45 = .ok (.getfield 24, 3) := by decide +kernel
theorem dX0_copyFrom_48 : decode cX0_copyFrom 48 = .ok (.aload_n 0, 1) := by decide +kernel
theorem dX0_copyFrom_49 : decode cX0_copyFrom 49 = .ok (.getfield 24, 3) := by decide +kernel
theorem dX0_copyFrom_52 : decode cX0_copyFrom 52 = .ok (.invokestatic 38, 3) := by decide +kernel
theorem dX0_copyFrom_55 : decode cX0_copyFrom 55 = .ok (.aload_n 1, 1) := by decide +kernel
theorem dX0_copyFrom_56 : decode cX0_copyFrom 56 = .ok (.getfield 27, 3) := by decide +kernel
theorem dX0_copyFrom_59 : decode cX0_copyFrom 59 = .ok (.aload_n 0, 1) := by decide +kernel
theorem dX0_copyFrom_60 : decode cX0_copyFrom 60 = .ok (.getfield 27, 3) := by decide +kernel
theorem dX0_copyFrom_63 : decode cX0_copyFrom 63 = .ok (.invokestatic 38, 3) := by decide +kernel
theorem dX0_copyFrom_66 : decode cX0_copyFrom 66 = .ok (.aload_n 0, 1) := by decide +kernel
theorem dX0_copyFrom_67 : decode cX0_copyFrom 67 = .ok (.aload_n 1, 1) := by decide +kernel
theorem dX0_copyFrom_68 : decode cX0_copyFrom 68 = .ok (.getfield 30, 3) := by decide +kernel
theorem dX0_copyFrom_71 : decode cX0_copyFrom 71 = .ok (.putfield 30, 3) := by decide +kernel
theorem dX0_copyFrom_74 : decode cX0_copyFrom 74 = .ok (.return_, 1) := by decide +kernel
theorem dX1_init_0 : decode cX1_init 0 = .ok (.aload_n 0, 1) := by decide +kernel
theorem dX1_init_1 : decode cX1_init 1 = .ok (.invokespecial 3, 3) := by decide +kernel
theorem dX1_init_4 : decode cX1_init 4 = .ok (.aload_n 0, 1) := by decide +kernel
theorem dX1_init_5 : decode cX1_init 5 = .ok (.new 9, 3) := by decide +kernel
theorem dX1_init_8 : decode cX1_init 8 = .ok (.dup, 1) := by decide +kernel
theorem dX1_init_9 : decode cX1_init 9 = .ok (.invokespecial 11, 3) := by decide +kernel
theorem dX1_init_12 : decode cX1_init 12 = .ok (.putfield 12, 3) := by decide +kernel
theorem dX1_init_15 : decode cX1_init 15 = .ok (.aload_n 0, 1) := by decide +kernel
theorem dX1_init_16 : decode cX1_init 16 = .ok (.new 18, 3) := by decide +kernel
theorem dX1_init_19 : decode cX1_init 19 = .ok (.dup, 1) := by decide +kernel
theorem dX1_init_20 : decode cX1_init 20 = .ok (.invokespecial 20, 3) := by decide +kernel
theorem dX1_init_23 : decode cX1_init 23 = .ok (.putfield 21, 3) := by decide +kernel
theorem dX1_init_26 : decode cX1_init 26 = .ok (.aload_n 0, 1) := by decide +kernel
theorem dX1_init_27 : decode cX1_init 27 = .ok (.new 25, 3) := by decide +kernel
theorem dX1_init_30 : decode cX1_init 30 = .ok (.dup, 1) := by decide +kernel
theorem dX1_init_31 : decode cX1_init 31 = .ok (.invokespecial 27, 3) := by decide +kernel
theorem dX1_init_34 : decode cX1_init 34 = .ok (.putfield 28, 3) := by decide +kernel
theorem dX1_init_37 : decode cX1_init 37 = .ok (.aload_n 0, 1) := by decide +kernel
theorem dX1_init_38 : decode cX1_init 38 = .ok (.new 32, 3) := by decide +kernel
theorem dX1_init_41 : decode cX1_init 41 = .ok (.dup, 1) := by decide +kernel
theorem dX1_init_42 : decode cX1_init 42 = .ok (.invokespecial 34, 3) := by decide +kernel
theorem dX1_init_45 : decode cX1_init 45 = .ok (.putfield 35, 3) := by decide +kernel
theorem dX1_init_48 : decode cX1_init 48 = .ok (.aload_n 0, 1) := by decide +kernel
theorem dX1_init_49 : decode cX1_init 49 = .ok (.new 39, 3) := by decide +kernel
theorem dX1_init_52 : decode cX1_init 52 = .ok (.dup, 1) := by decide +kernel
theorem dX1_init_53 : decode cX1_init 53 = .ok (.invokespecial 41, 3) := by decide +kernel
theorem dX1_init_56 : decode cX1_init 56 = .ok (.putfield 42, 3) := by decide +kernel
theorem dX1_init_59 : decode cX1_init 59 = .ok (.aload_n 0, 1) := by decide +kernel
theorem dX1_init_60 : decode cX1_init 60 = .ok (.iconst 0, 1) := by decide +kernel
theorem dX1_init_61 : decode cX1_init 61 = .ok (.putfield 46, 3) := by decide +kernel
theorem dX1_init_64 : decode cX1_init 64 = .ok (.return_, 1) := by decide +kernel
theorem dX1_clear_0 : decode cX1_clear 0 = .ok (.aload_n 0, 1) := by decide +kernel
theorem dX1_clear_1 : decode cX1_clear 1 = .ok (.getfield 12, 3) := by decide +kernel
theorem dX1_clear_4 : decode cX1_clear 4 = .ok (.iconst 0, 1) := by decide +kernel
theorem dX1_clear_5 : decode cX1_clear 5 = .ok (.putfield 50, 3) := by decide +kernel
theorem dX1_clear_8 : decode cX1_clear 8 = .ok (.aload_n 0, 1) := by decide +kernel
theorem dX1_clear_9 : decode cX1_clear 9 = .ok (.getfield 21, 3) := by decide +kernel
theorem dX1_clear_12 : decode cX1_clear 12 = .ok (.iconst 0, 1) := by decide +kernel
theorem dX1_clear_13 : decode cX1_clear 13 = .ok (.putfield 53, 3) := by decide +kernel
theorem dX1_clear_16 : decode cX1_clear 16 = .ok (.aload_n 0, 1) := by decide +kernel
theorem dX1_clear_17 : decode cX1_clear 17 = .ok (.getfield 28, 3) := by decide +kernel
theorem dX1_clear_20 : decode cX1_clear 20 = .ok (.iconst 0, 1) := by decide +kernel
theorem dX1_clear_21 : decode cX1_clear 21 = .ok (.putfield 54, 3) := by decide +kernel
theorem dX1_clear_24 : decode cX1_clear 24 = .ok (.aload_n 0, 1) := by decide +kernel
theorem dX1_clear_25 : decode cX1_clear 25 = .ok (.getfield 35, 3) := by decide +kernel
theorem dX1_clear_28 : decode cX1_clear 28 = .ok (.iconst 0, 1) := by decide +kernel
theorem dX1_clear_29 : decode cX1_clear 29 = .ok (.putfield 55, 3) := by decide +kernel
theorem dX1_clear_32 : decode cX1_clear 32 = .ok (.aload_n 0, 1) := by decide +kernel
theorem dX1_clear_33 : decode cX1_clear 33 = .ok (.getfield 42, 3) := by decide +kernel
theorem dX1_clear_36 : decode cX1_clear 36 = .ok (.iconst 0, 1) := by decide +kernel
theorem dX1_clear_37 : decode cX1_clear 37 = .ok (.putfield 56, 3) := by decide +kernel
theorem dX1_clear_40 : decode cX1_clear 40 = .ok (.aload_n 0, 1) := by decide +kernel
theorem dX1_clear_41 : decode cX1_clear 41 = .ok (.iconst 0, 1) := by decide +kernel
theorem dX1_clear_42 : decode cX1_clear 42 = .ok (.putfield 46, 3) := by decide +kernel
theorem dX1_clear_45 : decode cX1_clear 45 = .ok (.return_, 1) := by decide +kernel
theorem dX1_copyFrom_0 : decode cX1_copyFrom 0 = .ok (.aload_n 0, 1) := by decide +kernel
theorem dX1_copyFrom_1 : decode cX1_copyFrom 1 = .ok (.getfield 12, 3) := by decide +kernel
theorem dX1_copyFrom_4 : decode cX1_copyFrom 4 = .ok (.aload_n 1, 1) := by decide +kernel
theorem dX1_copyFrom_5 : decode cX1_copyFrom 5 = .ok (.getfield 12, 3) := by decide +kernel
theorem dX1_copyFrom_8 : decode cX1_copyFrom 8 = .ok (.invokevirtual 57, 3) := by decide +kernel
theorem dX1_copyFrom_11 : decode cX1_copyFrom 11 = .ok (.aload_n 0, 1) := by decide +kernel
theorem dX1_copyFrom_12 : decode cX1_copyFrom 12 = .ok (.getfield 21, 3) := by decide +kernel
theorem dX1_copyFrom_15 : decode cX1_copyFrom 15 = .ok (.aload_n 1, 1) := by decide +kernel
theorem dX1_copyFrom_16 : decode cX1_copyFrom 16 = .ok (.getfield 21, 3) := by decide +kernel
theorem dX1_copyFrom_19 : decode cX1_copyFrom 19 = .ok (.invokevirtual 61, 3) := by decide +kernel
theorem dX1_copyFrom_22 : decode cX1_copyFrom 22 = .ok (.aload_n 0, 1) := by decide +kernel
theorem dX1_copyFrom_23 : decode cX1_copyFrom 23 = .ok (.getfield 28, 3) := by decide +kernel
theorem dX1_copyFrom_26 : decode cX1_copyFrom 26 = .ok (.aload_n 1, 1) := by decide +kernel
theorem dX1_copyFrom_27 : decode cX1_copyFrom 27 = .ok (.getfield 28, 3) := by decide +kernel
theorem dX1_copyFrom_30 : decode cX1_copyFrom 30 = .ok (.invokevirtual 64, 3) := by decide +kernel
theorem dX1_copyFrom_33 : decode cX1_copyFrom 33 = .ok (.aload_n 0, 1) := by decide +kernel
theorem dX1_copyFrom_34 : decode cX1_copyFrom 34 = .ok (.getfield 35, 3) := by decide +kernel
theorem dX1_copyFrom_37 : decode cX1_copyFrom 37 = .ok (.aload_n 1, 1) := by decide +kernel
theorem dX1_copyFrom_38 : decode cX1_copyFrom 38 = .ok (.getfield 35, 3) := by decide +kernel
theorem dX1_copyFrom_41 : decode cX1_copyFrom 41 = .ok (.invokevirtual 67, 3) := by decide +kernel
theorem dX1_copyFrom_44 : decode cX1_copyFrom 44 = .ok (.aload_n 0, 1) := by decide +kernel
theorem dX1_copyFrom_45 : decode cX1_copyFrom 45 = .ok (.getfield 42, 3) := by decide +kernel
theorem dX1_copyFrom_48 : decode cX1_copyFrom 48 = .ok (.aload_n 1, 1) := by decide +kernel
theorem dX1_copyFrom_49 : decode cX1_copyFrom 49 = .ok (.getfield 42, 3) := by decide +kernel
theorem dX1_copyFrom_52 : decode cX1_copyFrom 52 = .ok (.invokevirtual 70, 3) := by decide +kernel
theorem dX1_copyFrom_55 : decode cX1_copyFrom 55 = .ok (.aload_n 0, 1) := by decide +kernel
theorem dX1_copyFrom_56 : decode cX1_copyFrom 56 = .ok (.aload_n 1, 1) := by decide +kernel
theorem dX1_copyFrom_57 : decode cX1_copyFrom 57 = .ok (.getfield 46, 3) := by decide +kernel
theorem dX1_copyFrom_60 : decode cX1_copyFrom 60 = .ok (.putfield 46, 3) := by decide +kernel
theorem dX1_copyFrom_63 : decode cX1_copyFrom 63 = .ok (.return_, 1) := by decide +kernel
theorem dX1_capacityOn_0 : decode cX1_capacityOn 0 = .ok (.iload_n 2, 1) := by decide +kernel
theorem dX1_capacityOn_1 : decode cX1_capacityOn 1 = .ok (.aload_n 0, 1) := by decide +kernel
theorem dX1_capacityOn_2 : decode cX1_capacityOn 2 = .ok (.getfield 46, 3) := by decide +kernel
theorem dX1_capacityOn_5 : decode cX1_capacityOn 5 = .ok (.if_icmp .lt 10, 3) := by decide +kernel
theorem dX1_capacityOn_8 : decode cX1_capacityOn 8 = .ok (.iload_n 2, 1) := by decide +kernel
theorem dX1_capacityOn_9 : decode cX1_capacityOn 9 = .ok (.sipush 998, 3) := by decide +kernel
theorem dX1_capacityOn_12 : decode cX1_capacityOn 12 = .ok (.if_icmp .le 7, 3) := by decide +kernel
theorem dX1_capacityOn_15 : decode cX1_capacityOn 15 = .ok (.iconst 0, 1) := by decide +kernel
theorem dX1_capacityOn_16 : decode cX1_capacityOn 16 = .ok (.goto 12, 3) := by decide +kernel
theorem dX1_capacityOn_19 : decode cX1_capacityOn 19 = .ok (.aload_n 0, 1) := by decide +kernel
theorem dX1_capacityOn_20 : decode cX1_capacityOn 20 = .ok (.getfield 21, 3) := by decide +kernel
theorem dX1_capacityOn_23 : decode cX1_capacityOn 23 = .ok (.iload_n 1, 1) := by decide +kernel
theorem dX1_capacityOn_24 : decode cX1_capacityOn 24 = .ok (.iload_n 2, 1) := by decide +kernel
theorem dX1_capacityOn_25 : decode cX1_capacityOn 25 = .ok (.invokevirtual 73, 3) := by decide +kernel
theorem dX1_capacityOn_28 : decode cX1_capacityOn 28 = .ok (.ireturn, 1) := by decide +kernel
theorem dX1_releasedOn_0 : decode cX1_releasedOn 0 = .ok (.iload_n 2, 1) := by decide +kernel
theorem dX1_releasedOn_1 : decode cX1_releasedOn 1 = .ok (.aload_n 0, 1) := by decide +kernel
theorem dX1_releasedOn_2 : decode cX1_releasedOn 2 = .ok (.getfield 46, 3) := by decide +kernel
theorem dX1_releasedOn_5 : decode cX1_releasedOn 5 = .ok (.if_icmp .lt 10, 3) := by decide +kernel
theorem dX1_releasedOn_8 : decode cX1_releasedOn 8 = .ok (.iload_n 2, 1) := by decide +kernel
theorem dX1_releasedOn_9 : decode cX1_releasedOn 9 = .ok (.sipush 998, 3) := by decide +kernel
theorem dX1_releasedOn_12 : decode cX1_releasedOn 12 = .ok (.if_icmp .le 5, 3) := by decide +kernel
theorem dX1_releasedOn_15 : decode cX1_releasedOn 15 = .ok (.iconst 0, 1) := by decide +kernel
theorem dX1_releasedOn_16 : decode cX1_releasedOn 16 = .ok (.ireturn, 1) := by decide +kernel
theorem dX1_releasedOn_17 : decode cX1_releasedOn 17 = .ok (.aload_n 0, 1) := by decide +kernel
theorem dX1_releasedOn_18 : decode cX1_releasedOn 18 = .ok (.getfield 12, 3) := by decide +kernel
theorem dX1_releasedOn_21 : decode cX1_releasedOn 21 = .ok (.iload_n 1, 1) := by decide +kernel
theorem dX1_releasedOn_22 : decode cX1_releasedOn 22 = .ok (.iload_n 2, 1) := by decide +kernel
theorem dX1_releasedOn_23 : decode cX1_releasedOn 23 = .ok (.aload_n 0, 1) := by decide +kernel
theorem dX1_releasedOn_24 : decode cX1_releasedOn 24 = .ok (.getfield 46, 3) := by decide +kernel
theorem dX1_releasedOn_27 : decode cX1_releasedOn 27 = .ok (.isub, 1) := by decide +kernel
theorem dX1_releasedOn_28 : decode cX1_releasedOn 28 = .ok (.invokevirtual 77, 3) := by decide +kernel
theorem dX1_releasedOn_31 : decode cX1_releasedOn 31 = .ok (.aload_n 0, 1) := by decide +kernel
theorem dX1_releasedOn_32 : decode cX1_releasedOn 32 = .ok (.getfield 21, 3) := by decide +kernel
theorem dX1_releasedOn_35 : decode cX1_releasedOn 35 = .ok (.iload_n 1, 1) := by decide +kernel
theorem dX1_releasedOn_36 : decode cX1_releasedOn 36 = .ok (.iload_n 2, 1) := by decide +kernel
theorem dX1_releasedOn_37 : decode cX1_releasedOn 37 = .ok (.invokevirtual 73, 3) := by decide +kernel
theorem dX1_releasedOn_40 : decode cX1_releasedOn 40 = .ok (.invokestatic 80, 3) := by decide +kernel
theorem dX1_releasedOn_43 : decode cX1_releasedOn 43 = .ok (.ireturn, 1) := by decide +kernel
theorem dX1_takenInAll_0 : decode cX1_takenInAll 0 = .ok (.iconst 0, 1) := by decide +kernel
theorem dX1_takenInAll_1 : decode cX1_takenInAll 1 = .ok (.istore 4, 2) := by decide +kernel
theorem dX1_takenInAll_3 : decode cX1_takenInAll 3 = .ok (.iload_n 2, 1) := by decide +kernel
theorem dX1_takenInAll_4 : decode cX1_takenInAll 4 = .ok (.istore 5, 2) := by decide +kernel
theorem dX1_takenInAll_6 : decode cX1_takenInAll 6 = .ok (.iload 5, 2) := by decide +kernel
theorem dX1_takenInAll_8 : decode cX1_takenInAll 8 = .ok (.iload_n 3, 1) := by decide +kernel
theorem dX1_takenInAll_9 : decode cX1_takenInAll 9 = .ok (.if_icmp .gt 24, 3) := by decide +kernel
theorem dX1_takenInAll_12 : decode cX1_takenInAll 12 = .ok (.iload 4, 2) := by decide +kernel
theorem dX1_takenInAll_14 : decode cX1_takenInAll 14 = .ok (.aload_n 0, 1) := by decide +kernel
theorem dX1_takenInAll_15 : decode cX1_takenInAll 15 = .ok (.getfield 35, 3) := by decide +kernel
theorem dX1_takenInAll_18 : decode cX1_takenInAll 18 = .ok (.iload_n 1, 1) := by decide +kernel
theorem dX1_takenInAll_19 : decode cX1_takenInAll 19 = .ok (.iload 5, 2) := by decide +kernel
theorem dX1_takenInAll_21 : decode cX1_takenInAll 21 = .ok (.invokevirtual 85, 3) := by decide +kernel
theorem dX1_takenInAll_24 : decode cX1_takenInAll 24 = .ok (.iadd, 1) := by decide +kernel
theorem dX1_takenInAll_25 : decode cX1_takenInAll 25 = .ok (.istore 4, 2) := by decide +kernel
theorem dX1_takenInAll_27 : decode cX1_takenInAll 27 = .ok (.iinc 5 1, 3) := by decide +kernel
theorem dX1_takenInAll_30 : decode cX1_takenInAll 30 = .ok (.goto (-24), 3) := by decide +kernel
theorem dX1_takenInAll_33 : decode cX1_takenInAll 33 = .ok (.iload 4, 2) := by decide +kernel
theorem dX1_takenInAll_35 : decode cX1_takenInAll 35 = .ok (.ireturn, 1) := by decide +kernel
theorem dX1_capacityInAll_0 : decode cX1_capacityInAll 0 = .ok (.iconst 0, 1) := by decide +kernel
theorem dX1_capacityInAll_1 : decode cX1_capacityInAll 1 = .ok (.istore 4, 2) := by decide +kernel
theorem dX1_capacityInAll_3 : decode cX1_capacityInAll 3 = .ok (.iload_n 2, 1) := by decide +kernel
theorem dX1_capacityInAll_4 : decode cX1_capacityInAll 4 = .ok (.istore 5, 2) := by decide +kernel
theorem dX1_capacityInAll_6 : decode cX1_capacityInAll 6 = .ok (.iload 5, 2) := by decide +kernel
theorem dX1_capacityInAll_8 : decode cX1_capacityInAll 8 = .ok (.iload_n 3, 1) := by decide +kernel
theorem dX1_capacityInAll_9 : decode cX1_capacityInAll 9 = .ok (.if_icmp .gt 21, 3) := by decide +kernel
theorem dX1_capacityInAll_12 : decode cX1_capacityInAll 12 = .ok (.iload 4, 2) := by decide +kernel
theorem dX1_capacityInAll_14 : decode cX1_capacityInAll 14 = .ok (.aload_n 0, 1) := by decide +kernel
theorem dX1_capacityInAll_15 : decode cX1_capacityInAll 15 = .ok (.iload_n 1, 1) := by decide +kernel
theorem dX1_capacityInAll_16 : decode cX1_capacityInAll 16 = .ok (.iload 5, 2) := by decide +kernel
theorem dX1_capacityInAll_18 : decode cX1_capacityInAll 18 = .ok (.invokevirtual 88, 3) := by decide +kernel
theorem dX1_capacityInAll_21 : decode cX1_capacityInAll 21 = .ok (.iadd, 1) := by decide +kernel
theorem dX1_capacityInAll_22 : decode cX1_capacityInAll 22 = .ok (.istore 4, 2) := by decide +kernel
theorem dX1_capacityInAll_24 : decode cX1_capacityInAll 24 = .ok (.iinc 5 1, 3) := by decide +kernel
theorem dX1_capacityInAll_27 : decode cX1_capacityInAll 27 = .ok (.goto (-21), 3) := by decide +kernel
theorem dX1_capacityInAll_30 : decode cX1_capacityInAll 30 = .ok (.iload 4, 2) := by decide +kernel
theorem dX1_capacityInAll_32 : decode cX1_capacityInAll 32 = .ok (.ireturn, 1) := by decide +kernel
theorem dX1_canSpare_0 : decode cX1_canSpare 0 = .ok (.aload_n 0, 1) := by decide +kernel
theorem dX1_canSpare_1 : decode cX1_canSpare 1 = .ok (.getfield 46, 3) := by decide +kernel
theorem dX1_canSpare_4 : decode cX1_canSpare 4 = .ok (.istore_n 3, 1) := by decide +kernel
theorem dX1_canSpare_5 : decode cX1_canSpare 5 = .ok (.iload_n 3, 1) := by decide +kernel
theorem dX1_canSpare_6 : decode cX1_canSpare 6 = .ok (.iload_n 2, 1) := by decide +kernel
theorem dX1_canSpare_7 : decode cX1_canSpare 7 = .ok (.if_icmp .ge 29, 3) := by decide +kernel
theorem dX1_canSpare_10 : decode cX1_canSpare 10 = .ok (.aload_n 0, 1) := by decide +kernel
theorem dX1_canSpare_11 : decode cX1_canSpare 11 = .ok (.iload_n 1, 1) := by decide +kernel
theorem dX1_canSpare_12 : decode cX1_canSpare 12 = .ok (.iload_n 3, 1) := by decide +kernel
theorem dX1_canSpare_13 : decode cX1_canSpare 13 = .ok (.invokevirtual 88, 3) := by decide +kernel
theorem dX1_canSpare_16 : decode cX1_canSpare 16 = .ok (.aload_n 0, 1) := by decide +kernel
theorem dX1_canSpare_17 : decode cX1_canSpare 17 = .ok (.getfield 35, 3) := by decide +kernel
theorem dX1_canSpare_20 : decode cX1_canSpare 20 = .ok (.iload_n 1, 1) := by decide +kernel
theorem dX1_canSpare_21 : decode cX1_canSpare 21 = .ok (.iload_n 3, 1) := by decide +kernel
theorem dX1_canSpare_22 : decode cX1_canSpare 22 = .ok (.invokevirtual 85, 3) := by decide +kernel
theorem dX1_canSpare_25 : decode cX1_canSpare 25 = .ok (.if_icmp .gt 5, 3) := by decide +kernel
theorem dX1_canSpare_28 : decode cX1_canSpare 28 = .ok (.iconst 0, 1) := by decide +kernel
theorem dX1_canSpare_29 : decode cX1_canSpare 29 = .ok (.ireturn, 1) := by decide +kernel
theorem dX1_canSpare_30 : decode cX1_canSpare 30 = .ok (.iinc 3 1, 3) := by decide +kernel
theorem dX1_canSpare_33 : decode cX1_canSpare 33 = .ok (.goto (-28), 3) := by decide +kernel
theorem dX1_canSpare_36 : decode cX1_canSpare 36 = .ok (.iconst 1, 1) := by decide +kernel
theorem dX1_canSpare_37 : decode cX1_canSpare 37 = .ok (.ireturn, 1) := by decide +kernel
theorem dX1_isVacant_0 : decode cX1_isVacant 0 = .ok (.aload_n 0, 1) := by decide +kernel
theorem dX1_isVacant_1 : decode cX1_isVacant 1 = .ok (.getfield 21, 3) := by decide +kernel
theorem dX1_isVacant_4 : decode cX1_isVacant 4 = .ok (.iload_n 1, 1) := by decide +kernel
theorem dX1_isVacant_5 : decode cX1_isVacant 5 = .ok (.aload_n 0, 1) := by decide +kernel
theorem dX1_isVacant_6 : decode cX1_isVacant 6 = .ok (.getfield 46, 3) := by decide +kernel
theorem dX1_isVacant_9 : decode cX1_isVacant 9 = .ok (.invokevirtual 91, 3) := by decide +kernel
theorem dX1_isVacant_12 : decode cX1_isVacant 12 = .ok (.ifCond .ne 18, 3) := by decide +kernel
theorem dX1_isVacant_15 : decode cX1_isVacant 15 = .ok (.aload_n 0, 1) := by decide +kernel
theorem dX1_isVacant_16 : decode cX1_isVacant 16 = .ok (.getfield 35, 3) := by decide +kernel
theorem dX1_isVacant_19 : decode cX1_isVacant 19 = .ok (.iload_n 1, 1) := by decide +kernel
theorem dX1_isVacant_20 : decode cX1_isVacant 20 = .ok (.invokevirtual 95, 3) := by decide +kernel
theorem dX1_isVacant_23 : decode cX1_isVacant 23 = .ok (.ifCond .ne 7, 3) := by decide +kernel
theorem dX1_isVacant_26 : decode cX1_isVacant 26 = .ok (.iconst 1, 1) := by decide +kernel
theorem dX1_isVacant_27 : decode cX1_isVacant 27 = .ok (.goto 4, 3) := by decide +kernel
theorem dX1_isVacant_30 : decode cX1_isVacant 30 = .ok (.iconst 0, 1) := by decide +kernel
theorem dX1_isVacant_31 : decode cX1_isVacant 31 = .ok (.ireturn, 1) := by decide +kernel
theorem dX1_lowestVacantSite_0 : decode cX1_lowestVacantSite 0 = .ok (.iconst 0, 1) := by decide +kernel
theorem dX1_lowestVacantSite_1 : decode cX1_lowestVacantSite 1 = .ok (.istore_n 2, 1) := by decide +kernel
theorem dX1_lowestVacantSite_2 : decode cX1_lowestVacantSite 2 = .ok (.iload_n 2, 1) := by decide +kernel
theorem dX1_lowestVacantSite_3 : decode cX1_lowestVacantSite 3 = .ok (.aload_n 0, 1) := by decide +kernel
theorem dX1_lowestVacantSite_4 : decode cX1_lowestVacantSite 4 = .ok (.getfield 21, 3) := by decide +kernel
theorem dX1_lowestVacantSite_7 : decode cX1_lowestVacantSite 7 = .ok (.getfield 53, 3) := by decide +kernel
theorem dX1_lowestVacantSite_10 : decode cX1_lowestVacantSite 10 = .ok (.if_icmp .ge 32, 3) := by decide +kernel
theorem dX1_lowestVacantSite_13 : decode cX1_lowestVacantSite 13 = .ok (.aload_n 0, 1) := by decide +kernel
theorem dX1_lowestVacantSite_14 : decode cX1_lowestVacantSite 14 = .ok (.getfield 21, 3) := by decide +kernel
theorem dX1_lowestVacantSite_17 : decode cX1_lowestVacantSite 17 = .ok (.getfield 99, 3) := by decide +kernel
theorem dX1_lowestVacantSite_20 : decode cX1_lowestVacantSite 20 = .ok (.iload_n 2, 1) := by decide +kernel
theorem dX1_lowestVacantSite_21 : decode cX1_lowestVacantSite 21 = .ok (.iaload, 1) := by decide +kernel
theorem dX1_lowestVacantSite_22 : decode cX1_lowestVacantSite 22 = .ok (.iload_n 1, 1) := by decide +kernel
theorem dX1_lowestVacantSite_23 : decode cX1_lowestVacantSite 23 = .ok (.if_icmp .ne 13, 3) := by decide +kernel
theorem dX1_lowestVacantSite_26 : decode cX1_lowestVacantSite 26 = .ok (.aload_n 0, 1) := by decide +kernel
theorem dX1_lowestVacantSite_27 : decode cX1_lowestVacantSite 27 = .ok (.iload_n 2, 1) := by decide +kernel
theorem dX1_lowestVacantSite_28 : decode cX1_lowestVacantSite 28 = .ok (.invokevirtual 103, 3) := by decide +kernel
theorem dX1_lowestVacantSite_31 : decode cX1_lowestVacantSite 31 = .ok (.ifCond .eq 5, 3) := by decide +kernel
theorem dX1_lowestVacantSite_34 : decode cX1_lowestVacantSite 34 = .ok (.iload_n 2, 1) := by decide +kernel
theorem dX1_lowestVacantSite_35 : decode cX1_lowestVacantSite 35 = .ok (.ireturn, 1) := by decide +kernel
theorem dX1_lowestVacantSite_36 : decode cX1_lowestVacantSite 36 = .ok (.iinc 2 1, 3) := by decide +kernel
theorem dX1_lowestVacantSite_39 : decode cX1_lowestVacantSite 39 = .ok (.goto (-37), 3) := by decide +kernel
theorem dX1_lowestVacantSite_42 : decode cX1_lowestVacantSite 42 = .ok (.iconst (-1), 1) := by decide +kernel
theorem dX1_lowestVacantSite_43 : decode cX1_lowestVacantSite 43 = .ok (.ireturn, 1) := by decide +kernel
theorem dX1_addBooking_0 : decode cX1_addBooking 0 = .ok (.iload_n 2, 1) := by decide +kernel
theorem dX1_addBooking_1 : decode cX1_addBooking 1 = .ok (.iload_n 3, 1) := by decide +kernel
theorem dX1_addBooking_2 : decode cX1_addBooking 2 = .ok (.iadd, 1) := by decide +kernel
theorem dX1_addBooking_3 : decode cX1_addBooking 3 = .ok (.istore 4, 2) := by decide +kernel
theorem dX1_addBooking_5 : decode cX1_addBooking 5 = .ok (.aload_n 0, 1) := by decide +kernel
theorem dX1_addBooking_6 : decode cX1_addBooking 6 = .ok (.getfield 28, 3) := by decide +kernel
theorem dX1_addBooking_9 : decode cX1_addBooking 9 = .ok (.iload_n 1, 1) := by decide +kernel
theorem dX1_addBooking_10 : decode cX1_addBooking 10 = .ok (.iload_n 2, 1) := by decide +kernel
theorem dX1_addBooking_11 : decode cX1_addBooking 11 = .ok (.iload 4, 2) := by decide +kernel
theorem dX1_addBooking_13 : decode cX1_addBooking 13 = .ok (.invokevirtual 106, 3) := by decide +kernel
theorem dX1_addBooking_16 : decode cX1_addBooking 16 = .ok (.istore 5, 2) := by decide +kernel
theorem dX1_addBooking_18 : decode cX1_addBooking 18 = .ok (.aload_n 0, 1) := by decide +kernel
theorem dX1_addBooking_19 : decode cX1_addBooking 19 = .ok (.getfield 35, 3) := by decide +kernel
theorem dX1_addBooking_22 : decode cX1_addBooking 22 = .ok (.iload_n 1, 1) := by decide +kernel
theorem dX1_addBooking_23 : decode cX1_addBooking 23 = .ok (.iload_n 2, 1) := by decide +kernel
theorem dX1_addBooking_24 : decode cX1_addBooking 24 = .ok (.iload 4, 2) := by decide +kernel
theorem dX1_addBooking_26 : decode cX1_addBooking 26 = .ok (.iload 5, 2) := by decide +kernel
theorem dX1_addBooking_28 : decode cX1_addBooking 28 = .ok (.invokevirtual 110, 3) := by decide +kernel
theorem dX1_addBooking_31 : decode cX1_addBooking 31 = .ok (.ireturn, 1) := by decide +kernel
theorem dX1_bookRequest_0 : decode cX1_bookRequest 0 = .ok (.aload_n 0, 1) := by decide +kernel
theorem dX1_bookRequest_1 : decode cX1_bookRequest 1 = .ok (.aload_n 0, 1) := by decide +kernel
theorem dX1_bookRequest_2 : decode cX1_bookRequest 2 = .ok (.getfield 42, 3) := by decide +kernel
theorem dX1_bookRequest_5 : decode cX1_bookRequest 5 = .ok (.getfield 114, 3) := by decide +kernel
theorem dX1_bookRequest_8 : decode cX1_bookRequest 8 = .ok (.iload_n 1, 1) := by decide +kernel
theorem dX1_bookRequest_9 : decode cX1_bookRequest 9 = .ok (.iaload, 1) := by decide +kernel
theorem dX1_bookRequest_10 : decode cX1_bookRequest 10 = .ok (.aload_n 0, 1) := by decide +kernel
theorem dX1_bookRequest_11 : decode cX1_bookRequest 11 = .ok (.getfield 42, 3) := by decide +kernel
theorem dX1_bookRequest_14 : decode cX1_bookRequest 14 = .ok (.getfield 115, 3) := by decide +kernel
theorem dX1_bookRequest_17 : decode cX1_bookRequest 17 = .ok (.iload_n 1, 1) := by decide +kernel
theorem dX1_bookRequest_18 : decode cX1_bookRequest 18 = .ok (.iaload, 1) := by decide +kernel
theorem dX1_bookRequest_19 : decode cX1_bookRequest 19 = .ok (.aload_n 0, 1) := by decide +kernel
theorem dX1_bookRequest_20 : decode cX1_bookRequest 20 = .ok (.getfield 42, 3) := by decide +kernel
theorem dX1_bookRequest_23 : decode cX1_bookRequest 23 = .ok (.getfield 118, 3) := by decide +kernel
theorem dX1_bookRequest_26 : decode cX1_bookRequest 26 = .ok (.iload_n 1, 1) := by decide +kernel
theorem dX1_bookRequest_27 : decode cX1_bookRequest 27 = .ok (.iaload, 1) := by decide +kernel
theorem dX1_bookRequest_28 : decode cX1_bookRequest 28 = .ok (.invokevirtual 121, 3) := by decide +kernel
theorem dX1_bookRequest_31 : decode cX1_bookRequest 31 = .ok (.istore_n 2, 1) := by decide +kernel
theorem dX1_bookRequest_32 : decode cX1_bookRequest 32 = .ok (.aload_n 0, 1) := by decide +kernel
theorem dX1_bookRequest_33 : decode cX1_bookRequest 33 = .ok (.getfield 42, 3) := by decide +kernel
theorem dX1_bookRequest_36 : decode cX1_bookRequest 36 = .ok (.getfield 124, 3) := by decide +kernel
theorem dX1_bookRequest_39 : decode cX1_bookRequest 39 = .ok (.iload_n 1, 1) := by decide +kernel
theorem dX1_bookRequest_40 : decode cX1_bookRequest 40 = .ok (.iload_n 2, 1) := by decide +kernel
theorem dX1_bookRequest_41 : decode cX1_bookRequest 41 = .ok (.iastore, 1) := by decide +kernel
theorem dX1_bookRequest_42 : decode cX1_bookRequest 42 = .ok (.aload_n 0, 1) := by decide +kernel
theorem dX1_bookRequest_43 : decode cX1_bookRequest 43 = .ok (.getfield 42, 3) := by decide +kernel
theorem dX1_bookRequest_46 : decode cX1_bookRequest 46 = .ok (.getfield 127, 3) := by decide +kernel
theorem dX1_bookRequest_49 : decode cX1_bookRequest 49 = .ok (.iload_n 1, 1) := by decide +kernel
theorem dX1_bookRequest_50 : decode cX1_bookRequest 50 = .ok (.iconst 1, 1) := by decide +kernel
theorem dX1_bookRequest_51 : decode cX1_bookRequest 51 = .ok (.iastore, 1) := by decide +kernel
theorem dX1_bookRequest_52 : decode cX1_bookRequest 52 = .ok (.return_, 1) := by decide +kernel
theorem dX1_refundOfCancelling_0 : decode cX1_refundOfCancelling 0 = .ok (.aload_n 0, 1) := by decide +kernel
theorem dX1_refundOfCancelling_1 : decode cX1_refundOfCancelling 1 = .ok (.getfield 35, 3) := by decide +kernel
theorem dX1_refundOfCancelling_4 : decode cX1_refundOfCancelling 4 = .ok (.getfield 130, 3) := by decide +kernel
theorem dX1_refundOfCancelling_7 : decode cX1_refundOfCancelling 7 = .ok (.iload_n 1, 1) := by decide +kernel
theorem dX1_refundOfCancelling_8 : decode cX1_refundOfCancelling 8 = .ok (.iaload, 1) := by decide +kernel
theorem dX1_refundOfCancelling_9 : decode cX1_refundOfCancelling 9 = .ok (.aload_n 0, 1) := by decide +kernel
theorem dX1_refundOfCancelling_10 : decode cX1_refundOfCancelling 10 = .ok (.getfield 46, 3) := by decide +kernel
theorem dX1_refundOfCancelling_13 : decode cX1_refundOfCancelling 13 = .ok (.isub, 1) := by decide +kernel
theorem dX1_refundOfCancelling_14 : decode cX1_refundOfCancelling 14 = .ok (.istore_n 2, 1) := by decide +kernel
theorem dX1_refundOfCancelling_15 : decode cX1_refundOfCancelling 15 = .ok (.iload_n 2, 1) := by decide +kernel
theorem dX1_refundOfCancelling_16 : decode cX1_refundOfCancelling 16 = .ok (.bipush 14, 2) := by decide +kernel
theorem dX1_refundOfCancelling_18 : decode cX1_refundOfCancelling 18 = .ok (.if_icmp .lt 13, 3) := by decide +kernel
theorem dX1_refundOfCancelling_21 : decode cX1_refundOfCancelling 21 = .ok (.aload_n 0, 1) := by decide +kernel
theorem dX1_refundOfCancelling_22 : decode cX1_refundOfCancelling 22 = .ok (.getfield 35, 3) := by decide +kernel
theorem dX1_refundOfCancelling_25 : decode cX1_refundOfCancelling 25 = .ok (.getfield 131, 3) := by decide +kernel
theorem dX1_refundOfCancelling_28 : decode cX1_refundOfCancelling 28 = .ok (.iload_n 1, 1) := by decide +kernel
theorem dX1_refundOfCancelling_29 : decode cX1_refundOfCancelling 29 = .ok (.iaload, 1) := by decide +kernel
theorem dX1_refundOfCancelling_30 : decode cX1_refundOfCancelling 30 = .ok (.ireturn, 1) := by decide +kernel
theorem dX1_refundOfCancelling_31 : decode cX1_refundOfCancelling 31 = .ok (.iload_n 2, 1) := by decide +kernel
theorem dX1_refundOfCancelling_32 : decode cX1_refundOfCancelling 32 = .ok (.iconst 3, 1) := by decide +kernel
theorem dX1_refundOfCancelling_33 : decode cX1_refundOfCancelling 33 = .ok (.if_icmp .lt 17, 3) := by decide +kernel
theorem dX1_refundOfCancelling_36 : decode cX1_refundOfCancelling 36 = .ok (.aload_n 0, 1) := by decide +kernel
theorem dX1_refundOfCancelling_37 : decode cX1_refundOfCancelling 37 = .ok (.getfield 35, 3) := by decide +kernel
theorem dX1_refundOfCancelling_40 : decode cX1_refundOfCancelling 40 = .ok (.getfield 131, 3) := by decide +kernel
theorem dX1_refundOfCancelling_43 : decode cX1_refundOfCancelling 43 = .ok (.iload_n 1, 1) := by decide +kernel
theorem dX1_refundOfCancelling_44 : decode cX1_refundOfCancelling 44 = .ok (.iaload, 1) := by decide +kernel
theorem dX1_refundOfCancelling_45 : decode cX1_refundOfCancelling 45 = .ok (.iconst 2, 1) := by decide +kernel
theorem dX1_refundOfCancelling_46 : decode cX1_refundOfCancelling 46 = .ok (.idiv, 1) := by decide +kernel
theorem dX1_refundOfCancelling_47 : decode cX1_refundOfCancelling 47 = .ok (.goto 4, 3) := by decide +kernel
theorem dX1_refundOfCancelling_50 : decode cX1_refundOfCancelling 50 = .ok (.iconst 0, 1) := by decide +kernel
theorem dX1_refundOfCancelling_51 : decode cX1_refundOfCancelling 51 = .ok (.ireturn, 1) := by decide +kernel
theorem dX1_refundOfDeparting_0 : decode cX1_refundOfDeparting 0 = .ok (.aload_n 0, 1) := by decide +kernel
theorem dX1_refundOfDeparting_1 : decode cX1_refundOfDeparting 1 = .ok (.getfield 28, 3) := by decide +kernel
theorem dX1_refundOfDeparting_4 : decode cX1_refundOfDeparting 4 = .ok (.aload_n 0, 1) := by decide +kernel
theorem dX1_refundOfDeparting_5 : decode cX1_refundOfDeparting 5 = .ok (.getfield 35, 3) := by decide +kernel
theorem dX1_refundOfDeparting_8 : decode cX1_refundOfDeparting 8 = .ok (.getfield 134, 3) := by decide +kernel
theorem dX1_refundOfDeparting_11 : decode cX1_refundOfDeparting 11 = .ok (.iload_n 1, 1) := by decide +kernel
theorem dX1_refundOfDeparting_12 : decode cX1_refundOfDeparting 12 = .ok (.iaload, 1) := by decide +kernel
theorem dX1_refundOfDeparting_13 : decode cX1_refundOfDeparting 13 = .ok (.aload_n 0, 1) := by decide +kernel
theorem dX1_refundOfDeparting_14 : decode cX1_refundOfDeparting 14 = .ok (.getfield 46, 3) := by decide +kernel
theorem dX1_refundOfDeparting_17 : decode cX1_refundOfDeparting 17 = .ok (.iconst 1, 1) := by decide +kernel
theorem dX1_refundOfDeparting_18 : decode cX1_refundOfDeparting 18 = .ok (.iadd, 1) := by decide +kernel
theorem dX1_refundOfDeparting_19 : decode cX1_refundOfDeparting 19 = .ok (.aload_n 0, 1) := by decide +kernel
theorem dX1_refundOfDeparting_20 : decode cX1_refundOfDeparting 20 = .ok (.getfield 35, 3) := by decide +kernel
theorem dX1_refundOfDeparting_23 : decode cX1_refundOfDeparting 23 = .ok (.getfield 135, 3) := by decide +kernel
theorem dX1_refundOfDeparting_26 : decode cX1_refundOfDeparting 26 = .ok (.iload_n 1, 1) := by decide +kernel
theorem dX1_refundOfDeparting_27 : decode cX1_refundOfDeparting 27 = .ok (.iaload, 1) := by decide +kernel
theorem dX1_refundOfDeparting_28 : decode cX1_refundOfDeparting 28 = .ok (.invokevirtual 106, 3) := by decide +kernel
theorem dX1_refundOfDeparting_31 : decode cX1_refundOfDeparting 31 = .ok (.istore_n 2, 1) := by decide +kernel
theorem dX1_refundOfDeparting_32 : decode cX1_refundOfDeparting 32 = .ok (.iload_n 2, 1) := by decide +kernel
theorem dX1_refundOfDeparting_33 : decode cX1_refundOfDeparting 33 = .ok (.iconst 2, 1) := by decide +kernel
theorem dX1_refundOfDeparting_34 : decode cX1_refundOfDeparting 34 = .ok (.idiv, 1) := by decide +kernel
theorem dX1_refundOfDeparting_35 : decode cX1_refundOfDeparting 35 = .ok (.aload_n 0, 1) := by decide +kernel
theorem dX1_refundOfDeparting_36 : decode cX1_refundOfDeparting 36 = .ok (.getfield 35, 3) := by decide +kernel
theorem dX1_refundOfDeparting_39 : decode cX1_refundOfDeparting 39 = .ok (.getfield 131, 3) := by decide +kernel
theorem dX1_refundOfDeparting_42 : decode cX1_refundOfDeparting 42 = .ok (.iload_n 1, 1) := by decide +kernel
theorem dX1_refundOfDeparting_43 : decode cX1_refundOfDeparting 43 = .ok (.iaload, 1) := by decide +kernel
theorem dX1_refundOfDeparting_44 : decode cX1_refundOfDeparting 44 = .ok (.invokestatic 80, 3) := by decide +kernel
theorem dX1_refundOfDeparting_47 : decode cX1_refundOfDeparting 47 = .ok (.ireturn, 1) := by decide +kernel
theorem dX1_endToday_0 : decode cX1_endToday 0 = .ok (.aload_n 0, 1) := by decide +kernel
theorem dX1_endToday_1 : decode cX1_endToday 1 = .ok (.getfield 35, 3) := by decide +kernel
theorem dX1_endToday_4 : decode cX1_endToday 4 = .ok (.aload_n 0, 1) := by decide +kernel
theorem dX1_endToday_5 : decode cX1_endToday 5 = .ok (.getfield 46, 3) := by decide +kernel
theorem dX1_endToday_8 : decode cX1_endToday 8 = .ok (.invokevirtual 138, 3) := by decide +kernel
theorem dX1_endToday_11 : decode cX1_endToday 11 = .ok (.aload_n 0, 1) := by decide +kernel
theorem dX1_endToday_12 : decode cX1_endToday 12 = .ok (.dup, 1) := by decide +kernel
theorem dX1_endToday_13 : decode cX1_endToday 13 = .ok (.getfield 46, 3) := by decide +kernel
theorem dX1_endToday_16 : decode cX1_endToday 16 = .ok (.iconst 1, 1) := by decide +kernel
theorem dX1_endToday_17 : decode cX1_endToday 17 = .ok (.iadd, 1) := by decide +kernel
theorem dX1_endToday_18 : decode cX1_endToday 18 = .ok (.putfield 46, 3) := by decide +kernel
theorem dX1_endToday_21 : decode cX1_endToday 21 = .ok (.aload_n 0, 1) := by decide +kernel
theorem dX1_endToday_22 : decode cX1_endToday 22 = .ok (.getfield 42, 3) := by decide +kernel
theorem dX1_endToday_25 : decode cX1_endToday 25 = .ok (.aload_n 0, 1) := by decide +kernel
theorem dX1_endToday_26 : decode cX1_endToday 26 = .ok (.getfield 46, 3) := by decide +kernel
theorem dX1_endToday_29 : decode cX1_endToday 29 = .ok (.invokevirtual 142, 3) := by decide +kernel
theorem dX1_endToday_32 : decode cX1_endToday 32 = .ok (.return_, 1) := by decide +kernel
theorem dX2_init_0 : decode cX2_init 0 = .ok (.aload_n 0, 1) := by decide +kernel
theorem dX2_init_1 : decode cX2_init 1 = .ok (.invokespecial 3, 3) := by decide +kernel
theorem dX2_init_4 : decode cX2_init 4 = .ok (.aload_n 0, 1) := by decide +kernel
theorem dX2_init_5 : decode cX2_init 5 = .ok (.iconst 4, 1) := by decide +kernel
theorem dX2_init_6 : decode cX2_init 6 = .ok (.newarray .int, 2) := by decide +kernel
theorem dX2_init_8 : decode cX2_init 8 = .ok (.putfield 9, 3) := by decide +kernel
theorem dX2_init_11 : decode cX2_init 11 = .ok (.aload_n 0, 1) := by decide +kernel
theorem dX2_init_12 : decode cX2_init 12 = .ok (.iconst 4, 1) := by decide +kernel
theorem dX2_init_13 : decode cX2_init 13 = .ok (.newarray .int, 2) := by decide +kernel
theorem dX2_init_15 : decode cX2_init 15 = .ok (.putfield 15, 3) := by decide +kernel
theorem dX2_init_18 : decode cX2_init 18 = .ok (.aload_n 0, 1) := by decide +kernel
theorem dX2_init_19 : decode cX2_init 19 = .ok (.iconst 4, 1) := by decide +kernel
theorem dX2_init_20 : decode cX2_init 20 = .ok (.newarray .int, 2) := by decide +kernel
theorem dX2_init_22 : decode cX2_init 22 = .ok (.putfield 18, 3) := by decide +kernel
theorem dX2_init_25 : decode cX2_init 25 = .ok (.aload_n 0, 1) := by decide +kernel
theorem dX2_init_26 : decode cX2_init 26 = .ok (.iconst 0, 1) := by decide +kernel
theorem dX2_init_27 : decode cX2_init 27 = .ok (.putfield 21, 3) := by decide +kernel
theorem dX2_init_30 : decode cX2_init 30 = .ok (.return_, 1) := by decide +kernel
theorem dX2_add_0 : decode cX2_add 0 = .ok (.aload_n 0, 1) := by decide +kernel
theorem dX2_add_1 : decode cX2_add 1 = .ok (.getfield 21, 3) := by decide +kernel
theorem dX2_add_4 : decode cX2_add 4 = .ok (.iconst 4, 1) := by decide +kernel
theorem dX2_add_5 : decode cX2_add 5 = .ok (.if_icmp .lt 5, 3) := by decide +kernel
theorem dX2_add_8 : decode cX2_add 8 = .ok (.iconst (-1), 1) := by decide +kernel
theorem dX2_add_9 : decode cX2_add 9 = .ok (.ireturn, 1) := by decide +kernel
theorem dX2_add_10 : decode cX2_add 10 = .ok (.aload_n 0, 1) := by decide +kernel
theorem dX2_add_11 : decode cX2_add 11 = .ok (.getfield 9, 3) := by decide +kernel
theorem dX2_add_14 : decode cX2_add 14 = .ok (.aload_n 0, 1) := by decide +kernel
theorem dX2_add_15 : decode cX2_add 15 = .ok (.getfield 21, 3) := by decide +kernel
theorem dX2_add_18 : decode cX2_add 18 = .ok (.iload_n 1, 1) := by decide +kernel
theorem dX2_add_19 : decode cX2_add 19 = .ok (.iastore, 1) := by decide +kernel
theorem dX2_add_20 : decode cX2_add 20 = .ok (.aload_n 0, 1) := by decide +kernel
theorem dX2_add_21 : decode cX2_add 21 = .ok (.getfield 15, 3) := by decide +kernel
theorem dX2_add_24 : decode cX2_add 24 = .ok (.aload_n 0, 1) := by decide +kernel
theorem dX2_add_25 : decode cX2_add 25 = .ok (.getfield 21, 3) := by decide +kernel
theorem dX2_add_28 : decode cX2_add 28 = .ok (.iload_n 2, 1) := by decide +kernel
theorem dX2_add_29 : decode cX2_add 29 = .ok (.iastore, 1) := by decide +kernel
theorem dX2_add_30 : decode cX2_add 30 = .ok (.aload_n 0, 1) := by decide +kernel
theorem dX2_add_31 : decode cX2_add 31 = .ok (.getfield 18, 3) := by decide +kernel
theorem dX2_add_34 : decode cX2_add 34 = .ok (.aload_n 0, 1) := by decide +kernel
theorem dX2_add_35 : decode cX2_add 35 = .ok (.getfield 21, 3) := by decide +kernel
theorem dX2_add_38 : decode cX2_add 38 = .ok (.iload_n 3, 1) := by decide +kernel
theorem dX2_add_39 : decode cX2_add 39 = .ok (.iastore, 1) := by decide +kernel
theorem dX2_add_40 : decode cX2_add 40 = .ok (.aload_n 0, 1) := by decide +kernel
theorem dX2_add_41 : decode cX2_add 41 = .ok (.dup, 1) := by decide +kernel
theorem dX2_add_42 : decode cX2_add 42 = .ok (.getfield 21, 3) := by decide +kernel
theorem dX2_add_45 : decode cX2_add 45 = .ok (.dup_x1, 1) := by decide +kernel
theorem dX2_add_46 : decode cX2_add 46 = .ok (.iconst 1, 1) := by decide +kernel
theorem dX2_add_47 : decode cX2_add 47 = .ok (.iadd, 1) := by decide +kernel
theorem dX2_add_48 : decode cX2_add 48 = .ok (.putfield 21, 3) := by decide +kernel
theorem dX2_add_51 : decode cX2_add 51 = .ok (.ireturn, 1) := by decide +kernel
theorem dX2_limitAhead_0 : decode cX2_limitAhead 0 = .ok (.iload_n 1, 1) := by decide +kernel
theorem dX2_limitAhead_1 : decode cX2_limitAhead 1 = .ok (.ifCond .lt 21, 3) := by decide +kernel
theorem dX2_limitAhead_4 : decode cX2_limitAhead 4 = .ok (.iload_n 1, 1) := by decide +kernel
theorem dX2_limitAhead_5 : decode cX2_limitAhead 5 = .ok (.aload_n 0, 1) := by decide +kernel
theorem dX2_limitAhead_6 : decode cX2_limitAhead 6 = .ok (.getfield 21, 3) := by decide +kernel
theorem dX2_limitAhead_9 : decode cX2_limitAhead 9 = .ok (.if_icmp .ge 13, 3) := by decide +kernel
theorem dX2_limitAhead_12 : decode cX2_limitAhead 12 = .ok (.iload_n 2, 1) := by decide +kernel
theorem dX2_limitAhead_13 : decode cX2_limitAhead 13 = .ok (.aload_n 0, 1) := by decide +kernel
theorem dX2_limitAhead_14 : decode cX2_limitAhead 14 = .ok (.getfield 9, 3) := by decide +kernel
theorem dX2_limitAhead_17 : decode cX2_limitAhead 17 = .ok (.iload_n 1, 1) := by decide +kernel
theorem dX2_limitAhead_18 : decode cX2_limitAhead 18 = .ok (.iaload, 1) := by decide +kernel
theorem dX2_limitAhead_19 : decode cX2_limitAhead 19 = .ok (.if_icmp .le 5, 3) := by decide +kernel
theorem dX2_limitAhead_22 : decode cX2_limitAhead 22 = .ok (.iconst 0, 1) := by decide +kernel
theorem dX2_limitAhead_23 : decode cX2_limitAhead 23 = .ok (.ireturn, 1) := by decide +kernel
theorem dX2_limitAhead_24 : decode cX2_limitAhead 24 = .ok (.iload_n 2, 1) := by decide +kernel
theorem dX2_limitAhead_25 : decode cX2_limitAhead 25 = .ok (.aload_n 0, 1) := by decide +kernel
theorem dX2_limitAhead_26 : decode cX2_limitAhead 26 = .ok (.getfield 15, 3) := by decide +kernel
theorem dX2_limitAhead_29 : decode cX2_limitAhead 29 = .ok (.iload_n 1, 1) := by decide +kernel
theorem dX2_limitAhead_30 : decode cX2_limitAhead 30 = .ok (.iaload, 1) := by decide +kernel
theorem dX2_limitAhead_31 : decode cX2_limitAhead 31 = .ok (.if_icmp .gt 8, 3) := by decide +kernel
theorem dX2_limitAhead_34 : decode cX2_limitAhead 34 = .ok (.bipush 16, 2) := by decide +kernel
theorem dX2_limitAhead_36 : decode cX2_limitAhead 36 = .ok (.goto 9, 3) := by decide +kernel
theorem dX2_limitAhead_39 : decode cX2_limitAhead 39 = .ok (.aload_n 0, 1) := by decide +kernel
theorem dX2_limitAhead_40 : decode cX2_limitAhead 40 = .ok (.getfield 18, 3) := by decide +kernel
theorem dX2_limitAhead_43 : decode cX2_limitAhead 43 = .ok (.iload_n 1, 1) := by decide +kernel
theorem dX2_limitAhead_44 : decode cX2_limitAhead 44 = .ok (.iaload, 1) := by decide +kernel
theorem dX2_limitAhead_45 : decode cX2_limitAhead 45 = .ok (.ireturn, 1) := by decide +kernel
theorem dX2_windowOf_0 : decode cX2_windowOf 0 = .ok (.iload_n 1, 1) := by decide +kernel
theorem dX2_windowOf_1 : decode cX2_windowOf 1 = .ok (.ifCond .lt 11, 3) := by decide +kernel
theorem dX2_windowOf_4 : decode cX2_windowOf 4 = .ok (.iload_n 1, 1) := by decide +kernel
theorem dX2_windowOf_5 : decode cX2_windowOf 5 = .ok (.aload_n 0, 1) := by decide +kernel
theorem dX2_windowOf_6 : decode cX2_windowOf 6 = .ok (.getfield 21, 3) := by decide +kernel
theorem dX2_windowOf_9 : decode cX2_windowOf 9 = .ok (.if_icmp .lt 7, 3) := by decide +kernel
theorem dX2_windowOf_12 : decode cX2_windowOf 12 = .ok (.iconst 0, 1) := by decide +kernel
theorem dX2_windowOf_13 : decode cX2_windowOf 13 = .ok (.goto 9, 3) := by decide +kernel
theorem dX2_windowOf_16 : decode cX2_windowOf 16 = .ok (.aload_n 0, 1) := by decide +kernel
theorem dX2_windowOf_17 : decode cX2_windowOf 17 = .ok (.getfield 9, 3) := by decide +kernel
theorem dX2_windowOf_20 : decode cX2_windowOf 20 = .ok (.iload_n 1, 1) := by decide +kernel
theorem dX2_windowOf_21 : decode cX2_windowOf 21 = .ok (.iaload, 1) := by decide +kernel
theorem dX2_windowOf_22 : decode cX2_windowOf 22 = .ok (.ireturn, 1) := by decide +kernel
theorem dX2_copyFrom_0 : decode cX2_copyFrom 0 = .ok (.aload_n 1, 1) := by decide +kernel
theorem dX2_copyFrom_1 : decode cX2_copyFrom 1 = .ok (.getfield 9, 3) := by decide +kernel
theorem dX2_copyFrom_4 : decode cX2_copyFrom 4 = .ok (.aload_n 0, 1) := by decide +kernel
theorem dX2_copyFrom_5 : decode cX2_copyFrom 5 = .ok (.getfield 9, 3) := by decide +kernel
theorem dX2_copyFrom_8 : decode cX2_copyFrom 8 = .ok (.invokestatic 25, 3) := by decide +kernel
theorem dX2_copyFrom_11 : decode cX2_copyFrom 11 = .ok (.aload_n 1, 1) := by decide +kernel
theorem dX2_copyFrom_12 : decode cX2_copyFrom 12 = .ok (.getfield 15, 3) := by decide +kernel
theorem dX2_copyFrom_15 : decode cX2_copyFrom 15 = .ok (.aload_n 0, 1) := by decide +kernel
theorem dX2_copyFrom_16 : decode cX2_copyFrom 16 = .ok (.getfield 15, 3) := by decide +kernel
theorem dX2_copyFrom_19 : decode cX2_copyFrom 19 = .ok (.invokestatic 25, 3) := by decide +kernel
theorem dX2_copyFrom_22 : decode cX2_copyFrom 22 = .ok (.aload_n 1, 1) := by decide +kernel
theorem dX2_copyFrom_23 : decode cX2_copyFrom 23 = .ok (.getfield 18, 3) := by decide +kernel
theorem dX2_copyFrom_26 : decode cX2_copyFrom 26 = .ok (.aload_n 0, 1) := by decide +kernel
theorem dX2_copyFrom_27 : decode cX2_copyFrom 27 = .ok (.getfield 18, 3) := by decide +kernel
theorem dX2_copyFrom_30 : decode cX2_copyFrom 30 = .ok (.invokestatic 25, 3) := by decide +kernel
theorem dX2_copyFrom_33 : decode cX2_copyFrom 33 = .ok (.aload_n 0, 1) := by decide +kernel
theorem dX2_copyFrom_34 : decode cX2_copyFrom 34 = .ok (.aload_n 1, 1) := by decide +kernel
theorem dX2_copyFrom_35 : decode cX2_copyFrom 35 = .ok (.getfield 21, 3) := by decide +kernel
theorem dX2_copyFrom_38 : decode cX2_copyFrom 38 = .ok (.putfield 21, 3) := by decide +kernel
theorem dX2_copyFrom_41 : decode cX2_copyFrom 41 = .ok (.return_, 1) := by decide +kernel
theorem dX3_init_0 : decode cX3_init 0 = .ok (.aload_n 0, 1) := by decide +kernel
theorem dX3_init_1 : decode cX3_init 1 = .ok (.invokespecial 3, 3) := by decide +kernel
theorem dX3_init_4 : decode cX3_init 4 = .ok (.aload_n 0, 1) := by decide +kernel
theorem dX3_init_5 : decode cX3_init 5 = .ok (.bipush 60, 2) := by decide +kernel
theorem dX3_init_7 : decode cX3_init 7 = .ok (.newarray .int, 2) := by decide +kernel
theorem dX3_init_9 : decode cX3_init 9 = .ok (.putfield 9, 3) := by decide +kernel
theorem dX3_init_12 : decode cX3_init 12 = .ok (.aload_n 0, 1) := by decide +kernel
theorem dX3_init_13 : decode cX3_init 13 = .ok (.bipush 16, 2) := by decide +kernel
theorem dX3_init_15 : decode cX3_init 15 = .ok (.newarray .int, 2) := by decide +kernel
theorem dX3_init_17 : decode cX3_init 17 = .ok (.putfield 15, 3) := by decide +kernel
theorem dX3_init_20 : decode cX3_init 20 = .ok (.aload_n 0, 1) := by decide +kernel
theorem dX3_init_21 : decode cX3_init 21 = .ok (.iconst 0, 1) := by decide +kernel
theorem dX3_init_22 : decode cX3_init 22 = .ok (.putfield 18, 3) := by decide +kernel
theorem dX3_init_25 : decode cX3_init 25 = .ok (.aload_n 0, 1) := by decide +kernel
theorem dX3_init_26 : decode cX3_init 26 = .ok (.iconst 0, 1) := by decide +kernel
theorem dX3_init_27 : decode cX3_init 27 = .ok (.putfield 22, 3) := by decide +kernel
theorem dX3_init_30 : decode cX3_init 30 = .ok (.aload_n 0, 1) := by decide +kernel
theorem dX3_init_31 : decode cX3_init 31 = .ok (.aload_n 1, 1) := by decide +kernel
theorem dX3_init_32 : decode cX3_init 32 = .ok (.putfield 25, 3) := by decide +kernel
theorem dX3_init_35 : decode cX3_init 35 = .ok (.return_, 1) := by decide +kernel
theorem dX3_make_0 : decode cX3_make 0 = .ok (.aload_n 0, 1) := by decide +kernel
theorem dX3_make_1 : decode cX3_make 1 = .ok (.iconst 0, 1) := by decide +kernel
theorem dX3_make_2 : decode cX3_make 2 = .ok (.putfield 18, 3) := by decide +kernel
theorem dX3_make_5 : decode cX3_make 5 = .ok (.aload_n 0, 1) := by decide +kernel
theorem dX3_make_6 : decode cX3_make 6 = .ok (.iconst 0, 1) := by decide +kernel
theorem dX3_make_7 : decode cX3_make 7 = .ok (.putfield 22, 3) := by decide +kernel
theorem dX3_make_10 : decode cX3_make 10 = .ok (.aload_n 0, 1) := by decide +kernel
theorem dX3_make_11 : decode cX3_make 11 = .ok (.getfield 9, 3) := by decide +kernel
theorem dX3_make_14 : decode cX3_make 14 = .ok (.iconst (-1), 1) := by decide +kernel
theorem dX3_make_15 : decode cX3_make 15 = .ok (.invokestatic 29, 3) := by decide +kernel
theorem dX3_make_18 : decode cX3_make 18 = .ok (.aload_n 0, 1) := by decide +kernel
theorem dX3_make_19 : decode cX3_make 19 = .ok (.getfield 15, 3) := by decide +kernel
theorem dX3_make_22 : decode cX3_make 22 = .ok (.iconst (-1), 1) := by decide +kernel
theorem dX3_make_23 : decode cX3_make 23 = .ok (.invokestatic 29, 3) := by decide +kernel
theorem dX3_make_26 : decode cX3_make 26 = .ok (.aload_n 0, 1) := by decide +kernel
theorem dX3_make_27 : decode cX3_make 27 = .ok (.iload_n 1, 1) := by decide +kernel
theorem dX3_make_28 : decode cX3_make 28 = .ok (.invokevirtual 35, 3) := by decide +kernel
theorem dX3_make_31 : decode cX3_make 31 = .ok (.iconst 0, 1) := by decide +kernel
theorem dX3_make_32 : decode cX3_make 32 = .ok (.istore_n 3, 1) := by decide +kernel
theorem dX3_make_33 : decode cX3_make 33 = .ok (.iload_n 3, 1) := by decide +kernel
theorem dX3_make_34 : decode cX3_make 34 = .ok (.aload_n 0, 1) := by decide +kernel
theorem dX3_make_35 : decode cX3_make 35 = .ok (.getfield 25, 3) := by decide +kernel
theorem dX3_make_38 : decode cX3_make 38 = .ok (.getfield 39, 3) := by decide +kernel
theorem dX3_make_41 : decode cX3_make 41 = .ok (.getfield 45, 3) := by decide +kernel
theorem dX3_make_44 : decode cX3_make 44 = .ok (.if_icmp .ge 108, 3) := by decide +kernel
theorem dX3_make_47 : decode cX3_make 47 = .ok (.aload_n 0, 1) := by decide +kernel
theorem dX3_make_48 : decode cX3_make 48 = .ok (.iload_n 1, 1) := by decide +kernel
theorem dX3_make_49 : decode cX3_make 49 = .ok (.invokevirtual 50, 3) := by decide +kernel
theorem dX3_make_52 : decode cX3_make 52 = .ok (.istore 4, 2) := by decide +kernel
theorem dX3_make_54 : decode cX3_make 54 = .ok (.iload 4, 2) := by decide +kernel
theorem dX3_make_56 : decode cX3_make 56 = .ok (.iconst (-1), 1) := by decide +kernel
theorem dX3_make_57 : decode cX3_make 57 = .ok (.if_icmp .ne 7, 3) := by decide +kernel
theorem dX3_make_60 : decode cX3_make 60 = .ok (.iconst (-1), 1) := by decide +kernel
theorem dX3_make_61 : decode cX3_make 61 = .ok (.goto 22, 3) := by decide +kernel
theorem dX3_make_64 : decode cX3_make 64 = .ok (.aload_n 0, 1) := by decide +kernel
theorem dX3_make_65 : decode cX3_make 65 = .ok (.iload_n 1, 1) := by decide +kernel
theorem dX3_make_66 : decode cX3_make 66 = .ok (.aload_n 0, 1) := by decide +kernel
theorem dX3_make_67 : decode cX3_make 67 = .ok (.getfield 25, 3) := by decide +kernel
theorem dX3_make_70 : decode cX3_make 70 = .ok (.getfield 39, 3) := by decide +kernel
theorem dX3_make_73 : decode cX3_make 73 = .ok (.getfield 54, 3) := by decide +kernel
theorem dX3_make_76 : decode cX3_make 76 = .ok (.iload 4, 2) := by decide +kernel
theorem dX3_make_78 : decode cX3_make 78 = .ok (.iaload, 1) := by decide +kernel
theorem dX3_make_79 : decode cX3_make 79 = .ok (.iload_n 2, 1) := by decide +kernel
theorem dX3_make_80 : decode cX3_make 80 = .ok (.invokevirtual 57, 3) := by decide +kernel
theorem dX3_make_83 : decode cX3_make 83 = .ok (.istore 5, 2) := by decide +kernel
theorem dX3_make_85 : decode cX3_make 85 = .ok (.iload 5, 2) := by decide +kernel
theorem dX3_make_87 : decode cX3_make 87 = .ok (.iconst (-1), 1) := by decide +kernel
theorem dX3_make_88 : decode cX3_make 88 = .ok (.if_icmp .ne 4, 3) := by decide +kernel
theorem dX3_make_91 : decode cX3_make 91 = .ok (.return_, 1) := by decide +kernel
theorem dX3_make_92 : decode cX3_make 92 = .ok (.aload_n 0, 1) := by decide +kernel
theorem dX3_make_93 : decode cX3_make 93 = .ok (.iload_n 1, 1) := by decide +kernel
theorem dX3_make_94 : decode cX3_make 94 = .ok (.aload_n 0, 1) := by decide +kernel
theorem dX3_make_95 : decode cX3_make 95 = .ok (.getfield 15, 3) := by decide +kernel
theorem dX3_make_98 : decode cX3_make 98 = .ok (.iload 5, 2) := by decide +kernel
theorem dX3_make_100 : decode cX3_make 100 = .ok (.iaload, 1) := by decide +kernel
theorem dX3_make_101 : decode cX3_make 101 = .ok (.aload_n 0, 1) := by decide +kernel
theorem dX3_make_102 : decode cX3_make 102 = .ok (.getfield 25, 3) := by decide +kernel
theorem dX3_make_105 : decode cX3_make 105 = .ok (.getfield 39, 3) := by decide +kernel
theorem dX3_make_108 : decode cX3_make 108 = .ok (.getfield 54, 3) := by decide +kernel
theorem dX3_make_111 : decode cX3_make 111 = .ok (.iload 4, 2) := by decide +kernel
theorem dX3_make_113 : decode cX3_make 113 = .ok (.iaload, 1) := by decide +kernel
theorem dX3_make_114 : decode cX3_make 114 = .ok (.invokevirtual 61, 3) := by decide +kernel
theorem dX3_make_117 : decode cX3_make 117 = .ok (.aload_n 0, 1) := by decide +kernel
theorem dX3_make_118 : decode cX3_make 118 = .ok (.getfield 9, 3) := by decide +kernel
theorem dX3_make_121 : decode cX3_make 121 = .ok (.iload 4, 2) := by decide +kernel
theorem dX3_make_123 : decode cX3_make 123 = .ok (.iload 5, 2) := by decide +kernel
theorem dX3_make_125 : decode cX3_make 125 = .ok (.iastore, 1) := by decide +kernel
theorem dX3_make_126 : decode cX3_make 126 = .ok (.aload_n 0, 1) := by decide +kernel
theorem dX3_make_127 : decode cX3_make 127 = .ok (.getfield 15, 3) := by decide +kernel
theorem dX3_make_130 : decode cX3_make 130 = .ok (.iload 5, 2) := by decide +kernel
theorem dX3_make_132 : decode cX3_make 132 = .ok (.aload_n 0, 1) := by decide +kernel
theorem dX3_make_133 : decode cX3_make 133 = .ok (.getfield 25, 3) := by decide +kernel
theorem dX3_make_136 : decode cX3_make 136 = .ok (.getfield 39, 3) := by decide +kernel
theorem dX3_make_139 : decode cX3_make 139 = .ok (.getfield 65, 3) := by decide +kernel
theorem dX3_make_142 : decode cX3_make 142 = .ok (.iload 4, 2) := by decide +kernel
theorem dX3_make_144 : decode cX3_make 144 = .ok (.iaload, 1) := by decide +kernel
theorem dX3_make_145 : decode cX3_make 145 = .ok (.iastore, 1) := by decide +kernel
theorem dX3_make_146 : decode cX3_make 146 = .ok (.iinc 3 1, 3) := by decide +kernel
theorem dX3_make_149 : decode cX3_make 149 = .ok (.goto (-116), 3) := by decide +kernel
theorem dX3_make_152 : decode cX3_make 152 = .ok (.return_, 1) := by decide +kernel
theorem dX3_placeStaying_0 : decode cX3_placeStaying 0 = .ok (.aload_n 0, 1) := by decide +kernel
theorem dX3_placeStaying_1 : decode cX3_placeStaying 1 = .ok (.getfield 25, 3) := by decide +kernel
theorem dX3_placeStaying_4 : decode cX3_placeStaying 4 = .ok (.getfield 39, 3) := by decide +kernel
theorem dX3_placeStaying_7 : decode cX3_placeStaying 7 = .ok (.astore_n 2, 1) := by decide +kernel
theorem dX3_placeStaying_8 : decode cX3_placeStaying 8 = .ok (.iconst 0, 1) := by decide +kernel
theorem dX3_placeStaying_9 : decode cX3_placeStaying 9 = .ok (.istore_n 3, 1) := by decide +kernel
theorem dX3_placeStaying_10 : decode cX3_placeStaying 10 = .ok (.iload_n 3, 1) := by decide +kernel
theorem dX3_placeStaying_11 : decode cX3_placeStaying 11 = .ok (.aload_n 2, 1) := by decide +kernel
theorem dX3_placeStaying_12 : decode cX3_placeStaying 12 = .ok (.getfield 45, 3) := by decide +kernel
theorem dX3_placeStaying_15 : decode cX3_placeStaying 15 = .ok (.if_icmp .ge 73, 3) := by decide +kernel
theorem dX3_placeStaying_18 : decode cX3_placeStaying 18 = .ok (.aload_n 2, 1) := by decide +kernel
theorem dX3_placeStaying_19 : decode cX3_placeStaying 19 = .ok (.getfield 68, 3) := by decide +kernel
theorem dX3_placeStaying_22 : decode cX3_placeStaying 22 = .ok (.iload_n 3, 1) := by decide +kernel
theorem dX3_placeStaying_23 : decode cX3_placeStaying 23 = .ok (.iaload, 1) := by decide +kernel
theorem dX3_placeStaying_24 : decode cX3_placeStaying 24 = .ok (.istore 4, 2) := by decide +kernel
theorem dX3_placeStaying_26 : decode cX3_placeStaying 26 = .ok (.aload_n 2, 1) := by decide +kernel
theorem dX3_placeStaying_27 : decode cX3_placeStaying 27 = .ok (.getfield 69, 3) := by decide +kernel
theorem dX3_placeStaying_30 : decode cX3_placeStaying 30 = .ok (.iload_n 3, 1) := by decide +kernel
theorem dX3_placeStaying_31 : decode cX3_placeStaying 31 = .ok (.iaload, 1) := by decide +kernel
theorem dX3_placeStaying_32 : decode cX3_placeStaying 32 = .ok (.iconst 1, 1) := by decide +kernel
theorem dX3_placeStaying_33 : decode cX3_placeStaying 33 = .ok (.if_icmp .ne 49, 3) := by decide +kernel
theorem dX3_placeStaying_36 : decode cX3_placeStaying 36 = .ok (.aload_n 2, 1) := by decide +kernel
theorem dX3_placeStaying_37 : decode cX3_placeStaying 37 = .ok (.getfield 72, 3) := by decide +kernel
theorem dX3_placeStaying_40 : decode cX3_placeStaying 40 = .ok (.iload_n 3, 1) := by decide +kernel
theorem dX3_placeStaying_41 : decode cX3_placeStaying 41 = .ok (.iaload, 1) := by decide +kernel
theorem dX3_placeStaying_42 : decode cX3_placeStaying 42 = .ok (.iload_n 1, 1) := by decide +kernel
theorem dX3_placeStaying_43 : decode cX3_placeStaying 43 = .ok (.if_icmp .eq 6, 3) := by decide +kernel
theorem dX3_placeStaying_46 : decode cX3_placeStaying 46 = .ok (.goto 36, 3) := by decide +kernel
theorem dX3_placeStaying_49 : decode cX3_placeStaying 49 = .ok (.iload 4, 2) := by decide +kernel
theorem dX3_placeStaying_51 : decode cX3_placeStaying 51 = .ok (.ifCond .lt 31, 3) := by decide +kernel
theorem dX3_placeStaying_54 : decode cX3_placeStaying 54 = .ok (.iload 4, 2) := by decide +kernel
theorem dX3_placeStaying_56 : decode cX3_placeStaying 56 = .ok (.bipush 16, 2) := by decide +kernel
theorem dX3_placeStaying_58 : decode cX3_placeStaying 58 = .ok (.if_icmp .ge 24, 3) := by decide +kernel
theorem dX3_placeStaying_61 : decode cX3_placeStaying 61 = .ok (.aload_n 0, 1) := by decide +kernel
theorem dX3_placeStaying_62 : decode cX3_placeStaying 62 = .ok (.getfield 9, 3) := by decide +kernel
theorem dX3_placeStaying_65 : decode cX3_placeStaying 65 = .ok (.iload_n 3, 1) := by decide +kernel
theorem dX3_placeStaying_66 : decode cX3_placeStaying 66 = .ok (.iload 4, 2) := by decide +kernel
theorem dX3_placeStaying_68 : decode cX3_placeStaying 68 = .ok (.iastore, 1) := by decide +kernel
theorem dX3_placeStaying_69 : decode cX3_placeStaying 69 = .ok (.aload_n 0, 1) := by decide +kernel
theorem dX3_placeStaying_70 : decode cX3_placeStaying 70 = .ok (.getfield 15, 3) := by decide +kernel
theorem dX3_placeStaying_73 : decode cX3_placeStaying 73 = .ok (.iload 4, 2) := by decide +kernel
theorem dX3_placeStaying_75 : decode cX3_placeStaying 75 = .ok (.aload_n 2, 1) := by decide +kernel
theorem dX3_placeStaying_76 : decode cX3_placeStaying 76 = .ok (.getfield 65, 3) := by decide +kernel
theorem dX3_placeStaying_79 : decode cX3_placeStaying 79 = .ok (.iload_n 3, 1) := by decide +kernel
theorem dX3_placeStaying_80 : decode cX3_placeStaying 80 = .ok (.iaload, 1) := by decide +kernel
theorem dX3_placeStaying_81 : decode cX3_placeStaying 81 = .ok (.iastore, 1) := by decide +kernel
theorem dX3_placeStaying_82 : decode cX3_placeStaying 82 = .ok (.iinc 3 1, 3) := by decide +kernel
theorem dX3_placeStaying_85 : decode cX3_placeStaying 85 = .ok (.goto (-75), 3) := by decide +kernel
theorem dX3_placeStaying_88 : decode cX3_placeStaying 88 = .ok (.return_, 1) := by decide +kernel
theorem dX3_nextToPlace_0 : decode cX3_nextToPlace 0 = .ok (.aload_n 0, 1) := by decide +kernel
theorem dX3_nextToPlace_1 : decode cX3_nextToPlace 1 = .ok (.getfield 25, 3) := by decide +kernel
theorem dX3_nextToPlace_4 : decode cX3_nextToPlace 4 = .ok (.getfield 39, 3) := by decide +kernel
theorem dX3_nextToPlace_7 : decode cX3_nextToPlace 7 = .ok (.astore_n 2, 1) := by decide +kernel
theorem dX3_nextToPlace_8 : decode cX3_nextToPlace 8 = .ok (.iconst (-1), 1) := by decide +kernel
theorem dX3_nextToPlace_9 : decode cX3_nextToPlace 9 = .ok (.istore_n 3, 1) := by decide +kernel
theorem dX3_nextToPlace_10 : decode cX3_nextToPlace 10 = .ok (.iconst 0, 1) := by decide +kernel
theorem dX3_nextToPlace_11 : decode cX3_nextToPlace 11 = .ok (.istore 4, 2) := by decide +kernel
theorem dX3_nextToPlace_13 : decode cX3_nextToPlace 13 = .ok (.iload 4, 2) := by decide +kernel
theorem dX3_nextToPlace_15 : decode cX3_nextToPlace 15 = .ok (.aload_n 2, 1) := by decide +kernel
theorem dX3_nextToPlace_16 : decode cX3_nextToPlace 16 = .ok (.getfield 45, 3) := by decide +kernel
theorem dX3_nextToPlace_19 : decode cX3_nextToPlace 19 = .ok (.if_icmp .ge 68, 3) := by decide +kernel
theorem dX3_nextToPlace_22 : decode cX3_nextToPlace 22 = .ok (.aload_n 2, 1) := by decide +kernel
theorem dX3_nextToPlace_23 : decode cX3_nextToPlace 23 = .ok (.getfield 69, 3) := by decide +kernel
theorem dX3_nextToPlace_26 : decode cX3_nextToPlace 26 = .ok (.iload 4, 2) := by decide +kernel
theorem dX3_nextToPlace_28 : decode cX3_nextToPlace 28 = .ok (.iaload, 1) := by decide +kernel
theorem dX3_nextToPlace_29 : decode cX3_nextToPlace 29 = .ok (.ifCond .ne 52, 3) := by decide +kernel
theorem dX3_nextToPlace_32 : decode cX3_nextToPlace 32 = .ok (.aload_n 2, 1) := by decide +kernel
theorem dX3_nextToPlace_33 : decode cX3_nextToPlace 33 = .ok (.getfield 72, 3) := by decide +kernel
theorem dX3_nextToPlace_36 : decode cX3_nextToPlace 36 = .ok (.iload 4, 2) := by decide +kernel
theorem dX3_nextToPlace_38 : decode cX3_nextToPlace 38 = .ok (.iaload, 1) := by decide +kernel
theorem dX3_nextToPlace_39 : decode cX3_nextToPlace 39 = .ok (.iload_n 1, 1) := by decide +kernel
theorem dX3_nextToPlace_40 : decode cX3_nextToPlace 40 = .ok (.if_icmp .ne 41, 3) := by decide +kernel
theorem dX3_nextToPlace_43 : decode cX3_nextToPlace 43 = .ok (.aload_n 0, 1) := by decide +kernel
theorem dX3_nextToPlace_44 : decode cX3_nextToPlace 44 = .ok (.getfield 9, 3) := by decide +kernel
theorem dX3_nextToPlace_47 : decode cX3_nextToPlace 47 = .ok (.iload 4, 2) := by decide +kernel
theorem dX3_nextToPlace_49 : decode cX3_nextToPlace 49 = .ok (.iaload, 1) := by decide +kernel
theorem dX3_nextToPlace_50 : decode cX3_nextToPlace 50 = .ok (.iconst (-1), 1) := by decide +kernel
theorem dX3_nextToPlace_51 : decode cX3_nextToPlace 51 = .ok (.if_icmp .eq 6, 3) := by decide +kernel
theorem dX3_nextToPlace_54 : decode cX3_nextToPlace 54 = .ok (.goto 27, 3) := by decide +kernel
theorem dX3_nextToPlace_57 : decode cX3_nextToPlace 57 = .ok (.iload_n 3, 1) := by decide +kernel
theorem dX3_nextToPlace_58 : decode cX3_nextToPlace 58 = .ok (.iconst (-1), 1) := by decide +kernel
theorem dX3_nextToPlace_59 : decode cX3_nextToPlace 59 = .ok (.if_icmp .eq 19, 3) := by decide +kernel
theorem dX3_nextToPlace_62 : decode cX3_nextToPlace 62 = .ok (.aload_n 2, 1) := by decide +kernel
theorem dX3_nextToPlace_63 : decode cX3_nextToPlace 63 = .ok (.getfield 54, 3) := by decide +kernel
theorem dX3_nextToPlace_66 : decode cX3_nextToPlace 66 = .ok (.iload 4, 2) := by decide +kernel
theorem dX3_nextToPlace_68 : decode cX3_nextToPlace 68 = .ok (.iaload, 1) := by decide +kernel
theorem dX3_nextToPlace_69 : decode cX3_nextToPlace 69 = .ok (.aload_n 2, 1) := by decide +kernel
theorem dX3_nextToPlace_70 : decode cX3_nextToPlace 70 = .ok (.getfield 54, 3) := by decide +kernel
theorem dX3_nextToPlace_73 : decode cX3_nextToPlace 73 = .ok (.iload_n 3, 1) := by decide +kernel
theorem dX3_nextToPlace_74 : decode cX3_nextToPlace 74 = .ok (.iaload, 1) := by decide +kernel
theorem dX3_nextToPlace_75 : decode cX3_nextToPlace 75 = .ok (.if_icmp .ge 6, 3) := by decide +kernel
theorem dX3_nextToPlace_78 : decode cX3_nextToPlace 78 = .ok (.iload 4, 2) := by decide +kernel
theorem dX3_nextToPlace_80 : decode cX3_nextToPlace 80 = .ok (.istore_n 3, 1) := by decide +kernel
theorem dX3_nextToPlace_81 : decode cX3_nextToPlace 81 = .ok (.iinc 4 1, 3) := by decide +kernel
theorem dX3_nextToPlace_84 : decode cX3_nextToPlace 84 = .ok (.goto (-71), 3) := by decide +kernel
theorem dX3_nextToPlace_87 : decode cX3_nextToPlace 87 = .ok (.iload_n 3, 1) := by decide +kernel
theorem dX3_nextToPlace_88 : decode cX3_nextToPlace 88 = .ok (.ireturn, 1) := by decide +kernel
theorem dX3_chooseSite_0 : decode cX3_chooseSite 0 = .ok (.aload_n 0, 1) := by decide +kernel
theorem dX3_chooseSite_1 : decode cX3_chooseSite 1 = .ok (.getfield 25, 3) := by decide +kernel
theorem dX3_chooseSite_4 : decode cX3_chooseSite 4 = .ok (.getfield 75, 3) := by decide +kernel
theorem dX3_chooseSite_7 : decode cX3_chooseSite 7 = .ok (.astore 4, 2) := by decide +kernel
theorem dX3_chooseSite_9 : decode cX3_chooseSite 9 = .ok (.iconst (-1), 1) := by decide +kernel
theorem dX3_chooseSite_10 : decode cX3_chooseSite 10 = .ok (.istore 5, 2) := by decide +kernel
theorem dX3_chooseSite_12 : decode cX3_chooseSite 12 = .ok (.iconst 0, 1) := by decide +kernel
theorem dX3_chooseSite_13 : decode cX3_chooseSite 13 = .ok (.istore 6, 2) := by decide +kernel
theorem dX3_chooseSite_15 : decode cX3_chooseSite 15 = .ok (.iload 6, 2) := by decide +kernel
theorem dX3_chooseSite_17 : decode cX3_chooseSite 17 = .ok (.aload 4, 2) := by decide +kernel
theorem dX3_chooseSite_19 : decode cX3_chooseSite 19 = .ok (.getfield 79, 3) := by decide +kernel
theorem dX3_chooseSite_22 : decode cX3_chooseSite 22 = .ok (.if_icmp .ge 78, 3) := by decide +kernel
theorem dX3_chooseSite_25 : decode cX3_chooseSite 25 = .ok (.aload 4, 2) := by decide +kernel
theorem dX3_chooseSite_27 : decode cX3_chooseSite 27 = .ok (.getfield 82, 3) := by decide +kernel
theorem dX3_chooseSite_30 : decode cX3_chooseSite 30 = .ok (.iload 6, 2) := by decide +kernel
theorem dX3_chooseSite_32 : decode cX3_chooseSite 32 = .ok (.iaload, 1) := by decide +kernel
theorem dX3_chooseSite_33 : decode cX3_chooseSite 33 = .ok (.iload_n 1, 1) := by decide +kernel
theorem dX3_chooseSite_34 : decode cX3_chooseSite 34 = .ok (.if_icmp .ne 60, 3) := by decide +kernel
theorem dX3_chooseSite_37 : decode cX3_chooseSite 37 = .ok (.aload 4, 2) := by decide +kernel
theorem dX3_chooseSite_39 : decode cX3_chooseSite 39 = .ok (.iload 6, 2) := by decide +kernel
theorem dX3_chooseSite_41 : decode cX3_chooseSite 41 = .ok (.iload_n 2, 1) := by decide +kernel
theorem dX3_chooseSite_42 : decode cX3_chooseSite 42 = .ok (.invokevirtual 83, 3) := by decide +kernel
theorem dX3_chooseSite_45 : decode cX3_chooseSite 45 = .ok (.ifCond .ne 49, 3) := by decide +kernel
theorem dX3_chooseSite_48 : decode cX3_chooseSite 48 = .ok (.aload_n 0, 1) := by decide +kernel
theorem dX3_chooseSite_49 : decode cX3_chooseSite 49 = .ok (.getfield 15, 3) := by decide +kernel
theorem dX3_chooseSite_52 : decode cX3_chooseSite 52 = .ok (.iload 6, 2) := by decide +kernel
theorem dX3_chooseSite_54 : decode cX3_chooseSite 54 = .ok (.iaload, 1) := by decide +kernel
theorem dX3_chooseSite_55 : decode cX3_chooseSite 55 = .ok (.iload_n 2, 1) := by decide +kernel
theorem dX3_chooseSite_56 : decode cX3_chooseSite 56 = .ok (.if_icmp .le 6, 3) := by decide +kernel
theorem dX3_chooseSite_59 : decode cX3_chooseSite 59 = .ok (.goto 35, 3) := by decide +kernel
theorem dX3_chooseSite_62 : decode cX3_chooseSite 62 = .ok (.iload 5, 2) := by decide +kernel
theorem dX3_chooseSite_64 : decode cX3_chooseSite 64 = .ok (.iconst (-1), 1) := by decide +kernel
theorem dX3_chooseSite_65 : decode cX3_chooseSite 65 = .ok (.if_icmp .eq 25, 3) := by decide +kernel
theorem dX3_chooseSite_68 : decode cX3_chooseSite 68 = .ok (.iload_n 3, 1) := by decide +kernel
theorem dX3_chooseSite_69 : decode cX3_chooseSite 69 = .ok (.iconst 1, 1) := by decide +kernel
theorem dX3_chooseSite_70 : decode cX3_chooseSite 70 = .ok (.if_icmp .ne 24, 3) := by decide +kernel
theorem dX3_chooseSite_73 : decode cX3_chooseSite 73 = .ok (.aload_n 0, 1) := by decide +kernel
theorem dX3_chooseSite_74 : decode cX3_chooseSite 74 = .ok (.getfield 15, 3) := by decide +kernel
theorem dX3_chooseSite_77 : decode cX3_chooseSite 77 = .ok (.iload 6, 2) := by decide +kernel
theorem dX3_chooseSite_79 : decode cX3_chooseSite 79 = .ok (.iaload, 1) := by decide +kernel
theorem dX3_chooseSite_80 : decode cX3_chooseSite 80 = .ok (.aload_n 0, 1) := by decide +kernel
theorem dX3_chooseSite_81 : decode cX3_chooseSite 81 = .ok (.getfield 15, 3) := by decide +kernel
theorem dX3_chooseSite_84 : decode cX3_chooseSite 84 = .ok (.iload 5, 2) := by decide +kernel
theorem dX3_chooseSite_86 : decode cX3_chooseSite 86 = .ok (.iaload, 1) := by decide +kernel
theorem dX3_chooseSite_87 : decode cX3_chooseSite 87 = .ok (.if_icmp .le 7, 3) := by decide +kernel
theorem dX3_chooseSite_90 : decode cX3_chooseSite 90 = .ok (.iload 6, 2) := by decide +kernel
theorem dX3_chooseSite_92 : decode cX3_chooseSite 92 = .ok (.istore 5, 2) := by decide +kernel
theorem dX3_chooseSite_94 : decode cX3_chooseSite 94 = .ok (.iinc 6 1, 3) := by decide +kernel
theorem dX3_chooseSite_97 : decode cX3_chooseSite 97 = .ok (.goto (-82), 3) := by decide +kernel
theorem dX3_chooseSite_100 : decode cX3_chooseSite 100 = .ok (.iload 5, 2) := by decide +kernel
theorem dX3_chooseSite_102 : decode cX3_chooseSite 102 = .ok (.ireturn, 1) := by decide +kernel
theorem dX3_countGap_0 : decode cX3_countGap 0 = .ok (.iload_n 2, 1) := by decide +kernel
theorem dX3_countGap_1 : decode cX3_countGap 1 = .ok (.iconst (-1), 1) := by decide +kernel
theorem dX3_countGap_2 : decode cX3_countGap 2 = .ok (.if_icmp .ne 4, 3) := by decide +kernel
theorem dX3_countGap_5 : decode cX3_countGap 5 = .ok (.return_, 1) := by decide +kernel
theorem dX3_countGap_6 : decode cX3_countGap 6 = .ok (.iload_n 3, 1) := by decide +kernel
theorem dX3_countGap_7 : decode cX3_countGap 7 = .ok (.iload_n 2, 1) := by decide +kernel
theorem dX3_countGap_8 : decode cX3_countGap 8 = .ok (.isub, 1) := by decide +kernel
theorem dX3_countGap_9 : decode cX3_countGap 9 = .ok (.istore 4, 2) := by decide +kernel
theorem dX3_countGap_11 : decode cX3_countGap 11 = .ok (.aload_n 0, 1) := by decide +kernel
theorem dX3_countGap_12 : decode cX3_countGap 12 = .ok (.dup, 1) := by decide +kernel
theorem dX3_countGap_13 : decode cX3_countGap 13 = .ok (.getfield 18, 3) := by decide +kernel
theorem dX3_countGap_16 : decode cX3_countGap 16 = .ok (.iload 4, 2) := by decide +kernel
theorem dX3_countGap_18 : decode cX3_countGap 18 = .ok (.iadd, 1) := by decide +kernel
theorem dX3_countGap_19 : decode cX3_countGap 19 = .ok (.putfield 18, 3) := by decide +kernel
theorem dX3_countGap_22 : decode cX3_countGap 22 = .ok (.iload 4, 2) := by decide +kernel
theorem dX3_countGap_24 : decode cX3_countGap 24 = .ok (.aload_n 0, 1) := by decide +kernel
theorem dX3_countGap_25 : decode cX3_countGap 25 = .ok (.getfield 25, 3) := by decide +kernel
theorem dX3_countGap_28 : decode cX3_countGap 28 = .ok (.getfield 87, 3) := by decide +kernel
theorem dX3_countGap_31 : decode cX3_countGap 31 = .ok (.iload_n 1, 1) := by decide +kernel
theorem dX3_countGap_32 : decode cX3_countGap 32 = .ok (.iload_n 2, 1) := by decide +kernel
theorem dX3_countGap_33 : decode cX3_countGap 33 = .ok (.invokevirtual 91, 3) := by decide +kernel
theorem dX3_countGap_36 : decode cX3_countGap 36 = .ok (.if_icmp .ge 14, 3) := by decide +kernel
theorem dX3_countGap_39 : decode cX3_countGap 39 = .ok (.aload_n 0, 1) := by decide +kernel
theorem dX3_countGap_40 : decode cX3_countGap 40 = .ok (.dup, 1) := by decide +kernel
theorem dX3_countGap_41 : decode cX3_countGap 41 = .ok (.getfield 22, 3) := by decide +kernel
theorem dX3_countGap_44 : decode cX3_countGap 44 = .ok (.iload 4, 2) := by decide +kernel
theorem dX3_countGap_46 : decode cX3_countGap 46 = .ok (.iadd, 1) := by decide +kernel
theorem dX3_countGap_47 : decode cX3_countGap 47 = .ok (.putfield 22, 3) := by decide +kernel
theorem dX3_countGap_50 : decode cX3_countGap 50 = .ok (.return_, 1) := by decide +kernel
theorem dX4_init_0 : decode cX4_init 0 = .ok (.aload_n 0, 1) := by decide +kernel
theorem dX4_init_1 : decode cX4_init 1 = .ok (.invokespecial 3, 3) := by decide +kernel
theorem dX4_init_4 : decode cX4_init 4 = .ok (.aload_n 0, 1) := by decide +kernel
theorem dX4_init_5 : decode cX4_init 5 = .ok (.bipush 20, 2) := by decide +kernel
theorem dX4_init_7 : decode cX4_init 7 = .ok (.newarray .int, 2) := by decide +kernel
theorem dX4_init_9 : decode cX4_init 9 = .ok (.putfield 9, 3) := by decide +kernel
theorem dX4_init_12 : decode cX4_init 12 = .ok (.aload_n 0, 1) := by decide +kernel
theorem dX4_init_13 : decode cX4_init 13 = .ok (.bipush 20, 2) := by decide +kernel
theorem dX4_init_15 : decode cX4_init 15 = .ok (.newarray .int, 2) := by decide +kernel
theorem dX4_init_17 : decode cX4_init 17 = .ok (.putfield 15, 3) := by decide +kernel
theorem dX4_init_20 : decode cX4_init 20 = .ok (.aload_n 0, 1) := by decide +kernel
theorem dX4_init_21 : decode cX4_init 21 = .ok (.bipush 20, 2) := by decide +kernel
theorem dX4_init_23 : decode cX4_init 23 = .ok (.newarray .int, 2) := by decide +kernel
theorem dX4_init_25 : decode cX4_init 25 = .ok (.putfield 18, 3) := by decide +kernel
theorem dX4_init_28 : decode cX4_init 28 = .ok (.aload_n 0, 1) := by decide +kernel
theorem dX4_init_29 : decode cX4_init 29 = .ok (.bipush 20, 2) := by decide +kernel
theorem dX4_init_31 : decode cX4_init 31 = .ok (.newarray .int, 2) := by decide +kernel
theorem dX4_init_33 : decode cX4_init 33 = .ok (.putfield 21, 3) := by decide +kernel
theorem dX4_init_36 : decode cX4_init 36 = .ok (.aload_n 0, 1) := by decide +kernel
theorem dX4_init_37 : decode cX4_init 37 = .ok (.bipush 20, 2) := by decide +kernel
theorem dX4_init_39 : decode cX4_init 39 = .ok (.newarray .int, 2) := by decide +kernel
theorem dX4_init_41 : decode cX4_init 41 = .ok (.putfield 24, 3) := by decide +kernel
theorem dX4_init_44 : decode cX4_init 44 = .ok (.aload_n 0, 1) := by decide +kernel
theorem dX4_init_45 : decode cX4_init 45 = .ok (.iconst 0, 1) := by decide +kernel
theorem dX4_init_46 : decode cX4_init 46 = .ok (.putfield 27, 3) := by decide +kernel
theorem dX4_init_49 : decode cX4_init 49 = .ok (.return_, 1) := by decide +kernel
theorem dX4_add_0 : decode cX4_add 0 = .ok (.aload_n 0, 1) := by decide +kernel
theorem dX4_add_1 : decode cX4_add 1 = .ok (.getfield 27, 3) := by decide +kernel
theorem dX4_add_4 : decode cX4_add 4 = .ok (.bipush 20, 2) := by decide +kernel
theorem dX4_add_6 : decode cX4_add 6 = .ok (.if_icmp .lt 5, 3) := by decide +kernel
theorem dX4_add_9 : decode cX4_add 9 = .ok (.iconst (-1), 1) := by decide +kernel
theorem dX4_add_10 : decode cX4_add 10 = .ok (.ireturn, 1) := by decide +kernel
theorem dX4_add_11 : decode cX4_add 11 = .ok (.aload_n 0, 1) := by decide +kernel
theorem dX4_add_12 : decode cX4_add 12 = .ok (.getfield 9, 3) := by decide +kernel
theorem dX4_add_15 : decode cX4_add 15 = .ok (.aload_n 0, 1) := by decide +kernel
theorem dX4_add_16 : decode cX4_add 16 = .ok (.getfield 27, 3) := by decide +kernel
theorem dX4_add_19 : decode cX4_add 19 = .ok (.iload_n 1, 1) := by decide +kernel
theorem dX4_add_20 : decode cX4_add 20 = .ok (.iastore, 1) := by decide +kernel
theorem dX4_add_21 : decode cX4_add 21 = .ok (.aload_n 0, 1) := by decide +kernel
theorem dX4_add_22 : decode cX4_add 22 = .ok (.getfield 15, 3) := by decide +kernel
theorem dX4_add_25 : decode cX4_add 25 = .ok (.aload_n 0, 1) := by decide +kernel
theorem dX4_add_26 : decode cX4_add 26 = .ok (.getfield 27, 3) := by decide +kernel
theorem dX4_add_29 : decode cX4_add 29 = .ok (.iload_n 2, 1) := by decide +kernel
theorem dX4_add_30 : decode cX4_add 30 = .ok (.iastore, 1) := by decide +kernel
theorem dX4_add_31 : decode cX4_add 31 = .ok (.aload_n 0, 1) := by decide +kernel
theorem dX4_add_32 : decode cX4_add 32 = .ok (.getfield 18, 3) := by decide +kernel
theorem dX4_add_35 : decode cX4_add 35 = .ok (.aload_n 0, 1) := by decide +kernel
theorem dX4_add_36 : decode cX4_add 36 = .ok (.getfield 27, 3) := by decide +kernel
theorem dX4_add_39 : decode cX4_add 39 = .ok (.iload_n 3, 1) := by decide +kernel
theorem dX4_add_40 : decode cX4_add 40 = .ok (.iastore, 1) := by decide +kernel
theorem dX4_add_41 : decode cX4_add 41 = .ok (.aload_n 0, 1) := by decide +kernel
theorem dX4_add_42 : decode cX4_add 42 = .ok (.getfield 21, 3) := by decide +kernel
theorem dX4_add_45 : decode cX4_add 45 = .ok (.aload_n 0, 1) := by decide +kernel
theorem dX4_add_46 : decode cX4_add 46 = .ok (.getfield 27, 3) := by decide +kernel
theorem dX4_add_49 : decode cX4_add 49 = .ok (.iconst 0, 1) := by decide +kernel
theorem dX4_add_50 : decode cX4_add 50 = .ok (.iastore, 1) := by decide +kernel
theorem dX4_add_51 : decode cX4_add 51 = .ok (.aload_n 0, 1) := by decide +kernel
theorem dX4_add_52 : decode cX4_add 52 = .ok (.getfield 24, 3) := by decide +kernel
theorem dX4_add_55 : decode cX4_add 55 = .ok (.aload_n 0, 1) := by decide +kernel
theorem dX4_add_56 : decode cX4_add 56 = .ok (.getfield 27, 3) := by decide +kernel
theorem dX4_add_59 : decode cX4_add 59 = .ok (.iconst (-1), 1) := by decide +kernel
theorem dX4_add_60 : decode cX4_add 60 = .ok (.iastore, 1) := by decide +kernel
theorem dX4_add_61 : decode cX4_add 61 = .ok (.aload_n 0, 1) := by decide +kernel
theorem dX4_add_62 : decode cX4_add 62 = .ok (.dup, 1) := by decide +kernel
theorem dX4_add_63 : decode cX4_add 63 = .ok (.getfield 27, 3) := by decide +kernel
theorem dX4_add_66 : decode cX4_add 66 = .ok (.dup_x1, 1) := by decide +kernel
theorem dX4_add_67 : decode cX4_add 67 = .ok (.iconst 1, 1) := by decide +kernel
theorem dX4_add_68 : decode cX4_add 68 = .ok (.iadd, 1) := by decide +kernel
theorem dX4_add_69 : decode cX4_add 69 = .ok (.putfield 27, 3) := by decide +kernel
theorem dX4_add_72 : decode cX4_add 72 = .ok (.ireturn, 1) := by decide +kernel
theorem dX4_isBetter_0 : decode cX4_isBetter 0 = .ok (.aload_n 0, 1) := by decide +kernel
theorem dX4_isBetter_1 : decode cX4_isBetter 1 = .ok (.getfield 18, 3) := by decide +kernel
theorem dX4_isBetter_4 : decode cX4_isBetter 4 = .ok (.iload_n 1, 1) := by decide +kernel
theorem dX4_isBetter_5 : decode cX4_isBetter 5 = .ok (.iaload, 1) := by decide +kernel
theorem dX4_isBetter_6 : decode cX4_isBetter 6 = .ok (.aload_n 0, 1) := by decide +kernel
theorem dX4_isBetter_7 : decode cX4_isBetter 7 = .ok (.getfield 18, 3) := by decide +kernel
theorem dX4_isBetter_10 : decode cX4_isBetter 10 = .ok (.iload_n 2, 1) := by decide +kernel
theorem dX4_isBetter_11 : decode cX4_isBetter 11 = .ok (.iaload, 1) := by decide +kernel
theorem dX4_isBetter_12 : decode cX4_isBetter 12 = .ok (.if_icmp .eq 24, 3) := by decide +kernel
theorem dX4_isBetter_15 : decode cX4_isBetter 15 = .ok (.aload_n 0, 1) := by decide +kernel
theorem dX4_isBetter_16 : decode cX4_isBetter 16 = .ok (.getfield 18, 3) := by decide +kernel
theorem dX4_isBetter_19 : decode cX4_isBetter 19 = .ok (.iload_n 1, 1) := by decide +kernel
theorem dX4_isBetter_20 : decode cX4_isBetter 20 = .ok (.iaload, 1) := by decide +kernel
theorem dX4_isBetter_21 : decode cX4_isBetter 21 = .ok (.aload_n 0, 1) := by decide +kernel
theorem dX4_isBetter_22 : decode cX4_isBetter 22 = .ok (.getfield 18, 3) := by decide +kernel
theorem dX4_isBetter_25 : decode cX4_isBetter 25 = .ok (.iload_n 2, 1) := by decide +kernel
theorem dX4_isBetter_26 : decode cX4_isBetter 26 = .ok (.iaload, 1) := by decide +kernel
theorem dX4_isBetter_27 : decode cX4_isBetter 27 = .ok (.if_icmp .le 7, 3) := by decide +kernel
theorem dX4_isBetter_30 : decode cX4_isBetter 30 = .ok (.iconst 1, 1) := by decide +kernel
theorem dX4_isBetter_31 : decode cX4_isBetter 31 = .ok (.goto 4, 3) := by decide +kernel
theorem dX4_isBetter_34 : decode cX4_isBetter 34 = .ok (.iconst 0, 1) := by decide +kernel
theorem dX4_isBetter_35 : decode cX4_isBetter 35 = .ok (.ireturn, 1) := by decide +kernel
theorem dX4_isBetter_36 : decode cX4_isBetter 36 = .ok (.aload_n 0, 1) := by decide +kernel
theorem dX4_isBetter_37 : decode cX4_isBetter 37 = .ok (.getfield 15, 3) := by decide +kernel
theorem dX4_isBetter_40 : decode cX4_isBetter 40 = .ok (.iload_n 1, 1) := by decide +kernel
theorem dX4_isBetter_41 : decode cX4_isBetter 41 = .ok (.iaload, 1) := by decide +kernel
theorem dX4_isBetter_42 : decode cX4_isBetter 42 = .ok (.aload_n 0, 1) := by decide +kernel
theorem dX4_isBetter_43 : decode cX4_isBetter 43 = .ok (.getfield 15, 3) := by decide +kernel
theorem dX4_isBetter_46 : decode cX4_isBetter 46 = .ok (.iload_n 2, 1) := by decide +kernel
theorem dX4_isBetter_47 : decode cX4_isBetter 47 = .ok (.iaload, 1) := by decide +kernel
theorem dX4_isBetter_48 : decode cX4_isBetter 48 = .ok (.if_icmp .ge 7, 3) := by decide +kernel
theorem dX4_isBetter_51 : decode cX4_isBetter 51 = .ok (.iconst 1, 1) := by decide +kernel
theorem dX4_isBetter_52 : decode cX4_isBetter 52 = .ok (.goto 4, 3) := by decide +kernel
theorem dX4_isBetter_55 : decode cX4_isBetter 55 = .ok (.iconst 0, 1) := by decide +kernel
theorem dX4_isBetter_56 : decode cX4_isBetter 56 = .ok (.ireturn, 1) := by decide +kernel
theorem dX4_expireBefore_0 : decode cX4_expireBefore 0 = .ok (.iconst 0, 1) := by decide +kernel
theorem dX4_expireBefore_1 : decode cX4_expireBefore 1 = .ok (.istore_n 2, 1) := by decide +kernel
theorem dX4_expireBefore_2 : decode cX4_expireBefore 2 = .ok (.iload_n 2, 1) := by decide +kernel
theorem dX4_expireBefore_3 : decode cX4_expireBefore 3 = .ok (.aload_n 0, 1) := by decide +kernel
theorem dX4_expireBefore_4 : decode cX4_expireBefore 4 = .ok (.getfield 27, 3) := by decide +kernel
theorem dX4_expireBefore_7 : decode cX4_expireBefore 7 = .ok (.if_icmp .ge 35, 3) := by decide +kernel
theorem dX4_expireBefore_10 : decode cX4_expireBefore 10 = .ok (.aload_n 0, 1) := by decide +kernel
theorem dX4_expireBefore_11 : decode cX4_expireBefore 11 = .ok (.getfield 21, 3) := by decide +kernel
theorem dX4_expireBefore_14 : decode cX4_expireBefore 14 = .ok (.iload_n 2, 1) := by decide +kernel
theorem dX4_expireBefore_15 : decode cX4_expireBefore 15 = .ok (.iaload, 1) := by decide +kernel
theorem dX4_expireBefore_16 : decode cX4_expireBefore 16 = .ok (.ifCond .ne 20, 3) := by decide +kernel
theorem dX4_expireBefore_19 : decode cX4_expireBefore 19 = .ok (.aload_n 0, 1) := by decide +kernel
theorem dX4_expireBefore_20 : decode cX4_expireBefore 20 = .ok (.getfield 15, 3) := by decide +kernel
theorem dX4_expireBefore_23 : decode cX4_expireBefore 23 = .ok (.iload_n 2, 1) := by decide +kernel
theorem dX4_expireBefore_24 : decode cX4_expireBefore 24 = .ok (.iaload, 1) := by decide +kernel
theorem dX4_expireBefore_25 : decode cX4_expireBefore 25 = .ok (.iload_n 1, 1) := by decide +kernel
theorem dX4_expireBefore_26 : decode cX4_expireBefore 26 = .ok (.if_icmp .ge 10, 3) := by decide +kernel
theorem dX4_expireBefore_29 : decode cX4_expireBefore 29 = .ok (.aload_n 0, 1) := by decide +kernel
theorem dX4_expireBefore_30 : decode cX4_expireBefore 30 = .ok (.getfield 21, 3) := by decide +kernel
theorem dX4_expireBefore_33 : decode cX4_expireBefore 33 = .ok (.iload_n 2, 1) := by decide +kernel
theorem dX4_expireBefore_34 : decode cX4_expireBefore 34 = .ok (.iconst 3, 1) := by decide +kernel
theorem dX4_expireBefore_35 : decode cX4_expireBefore 35 = .ok (.iastore, 1) := by decide +kernel
theorem dX4_expireBefore_36 : decode cX4_expireBefore 36 = .ok (.iinc 2 1, 3) := by decide +kernel
theorem dX4_expireBefore_39 : decode cX4_expireBefore 39 = .ok (.goto (-37), 3) := by decide +kernel
theorem dX4_expireBefore_42 : decode cX4_expireBefore 42 = .ok (.return_, 1) := by decide +kernel
theorem dX4_copyFrom_0 : decode cX4_copyFrom 0 = .ok (.aload_n 1, 1) := by decide +kernel
theorem dX4_copyFrom_1 : decode cX4_copyFrom 1 = .ok (.getfield 9, 3) := by decide +kernel
theorem dX4_copyFrom_4 : decode cX4_copyFrom 4 = .ok (.aload_n 0, 1) := by decide +kernel
theorem dX4_copyFrom_5 : decode cX4_copyFrom 5 = .ok (.getfield 9, 3) := by decide +kernel
theorem dX4_copyFrom_8 : decode cX4_copyFrom 8 = .ok (.invokestatic 31, 3) := by decide +kernel
theorem dX4_copyFrom_11 : decode cX4_copyFrom 11 = .ok (.aload_n 1, 1) := by decide +kernel
theorem dX4_copyFrom_12 : decode cX4_copyFrom 12 = .ok (.getfield 15, 3) := by decide +kernel
theorem dX4_copyFrom_15 : decode cX4_copyFrom 15 = .ok (.aload_n 0, 1) := by decide +kernel
theorem dX4_copyFrom_16 : decode cX4_copyFrom 16 = .ok (.getfield 15, 3) := by decide +kernel
theorem dX4_copyFrom_19 : decode cX4_copyFrom 19 = .ok (.invokestatic 31, 3) := by decide +kernel
theorem dX4_copyFrom_22 : decode cX4_copyFrom 22 = .ok (.aload_n 1, 1) := by decide +kernel
theorem dX4_copyFrom_23 : decode cX4_copyFrom 23 = .ok (.getfield 18, 3) := by decide +kernel
theorem dX4_copyFrom_26 : decode cX4_copyFrom 26 = .ok (.aload_n 0, 1) := by decide +kernel
theorem dX4_copyFrom_27 : decode cX4_copyFrom 27 = .ok (.getfield 18, 3) := by decide +kernel
theorem dX4_copyFrom_30 : decode cX4_copyFrom 30 = .ok (.invokestatic 31, 3) := by decide +kernel
theorem dX4_copyFrom_33 : decode cX4_copyFrom 33 = .ok (.aload_n 1, 1) := by decide +kernel
theorem dX4_copyFrom_34 : decode cX4_copyFrom 34 = .ok (.getfield 21, 3) := by decide +kernel
theorem dX4_copyFrom_37 : decode cX4_copyFrom 37 = .ok (.aload_n 0, 1) := by decide +kernel
theorem dX4_copyFrom_38 : decode cX4_copyFrom 38 = .ok (.getfield 21, 3) := by decide +kernel
theorem dX4_copyFrom_41 : decode cX4_copyFrom 41 = .ok (.invokestatic 31, 3) := by decide +kernel
theorem dX4_copyFrom_44 : decode cX4_copyFrom 44 = .ok (.aload_n 1, 1) := by decide +kernel
theorem dX4_copyFrom_45 : decode cX4_copyFrom 45 = .ok (.getfield 24, 3) := by decide +kernel
theorem dX4_copyFrom_48 : decode cX4_copyFrom 48 = .ok (.aload_n 0, 1) := by decide +kernel
theorem dX4_copyFrom_49 : decode cX4_copyFrom 49 = .ok (.getfield 24, 3) := by decide +kernel
theorem dX4_copyFrom_52 : decode cX4_copyFrom 52 = .ok (.invokestatic 31, 3) := by decide +kernel
theorem dX4_copyFrom_55 : decode cX4_copyFrom 55 = .ok (.aload_n 0, 1) := by decide +kernel
theorem dX4_copyFrom_56 : decode cX4_copyFrom 56 = .ok (.aload_n 1, 1) := by decide +kernel
theorem dX4_copyFrom_57 : decode cX4_copyFrom 57 = .ok (.getfield 27, 3) := by decide +kernel
theorem dX4_copyFrom_60 : decode cX4_copyFrom 60 = .ok (.putfield 27, 3) := by decide +kernel
theorem dX4_copyFrom_63 : decode cX4_copyFrom 63 = .ok (.return_, 1) := by decide +kernel
theorem dX5_init_0 : decode cX5_init 0 = .ok (.aload_n 0, 1) := by decide +kernel
theorem dX5_init_1 : decode cX5_init 1 = .ok (.invokespecial 3, 3) := by decide +kernel
theorem dX5_init_4 : decode cX5_init 4 = .ok (.aload_n 0, 1) := by decide +kernel
theorem dX5_init_5 : decode cX5_init 5 = .ok (.bipush 12, 2) := by decide +kernel
theorem dX5_init_7 : decode cX5_init 7 = .ok (.newarray .int, 2) := by decide +kernel
theorem dX5_init_9 : decode cX5_init 9 = .ok (.putfield 9, 3) := by decide +kernel
theorem dX5_init_12 : decode cX5_init 12 = .ok (.aload_n 0, 1) := by decide +kernel
theorem dX5_init_13 : decode cX5_init 13 = .ok (.bipush 12, 2) := by decide +kernel
theorem dX5_init_15 : decode cX5_init 15 = .ok (.newarray .int, 2) := by decide +kernel
theorem dX5_init_17 : decode cX5_init 17 = .ok (.putfield 15, 3) := by decide +kernel
theorem dX5_init_20 : decode cX5_init 20 = .ok (.aload_n 0, 1) := by decide +kernel
theorem dX5_init_21 : decode cX5_init 21 = .ok (.bipush 12, 2) := by decide +kernel
theorem dX5_init_23 : decode cX5_init 23 = .ok (.newarray .int, 2) := by decide +kernel
theorem dX5_init_25 : decode cX5_init 25 = .ok (.putfield 18, 3) := by decide +kernel
theorem dX5_init_28 : decode cX5_init 28 = .ok (.aload_n 0, 1) := by decide +kernel
theorem dX5_init_29 : decode cX5_init 29 = .ok (.bipush 12, 2) := by decide +kernel
theorem dX5_init_31 : decode cX5_init 31 = .ok (.newarray .int, 2) := by decide +kernel
theorem dX5_init_33 : decode cX5_init 33 = .ok (.putfield 21, 3) := by decide +kernel
theorem dX5_init_36 : decode cX5_init 36 = .ok (.aload_n 0, 1) := by decide +kernel
theorem dX5_init_37 : decode cX5_init 37 = .ok (.bipush 12, 2) := by decide +kernel
theorem dX5_init_39 : decode cX5_init 39 = .ok (.newarray .int, 2) := by decide +kernel
theorem dX5_init_41 : decode cX5_init 41 = .ok (.putfield 24, 3) := by decide +kernel
theorem dX5_init_44 : decode cX5_init 44 = .ok (.aload_n 0, 1) := by decide +kernel
theorem dX5_init_45 : decode cX5_init 45 = .ok (.iconst 0, 1) := by decide +kernel
theorem dX5_init_46 : decode cX5_init 46 = .ok (.putfield 27, 3) := by decide +kernel
theorem dX5_init_49 : decode cX5_init 49 = .ok (.return_, 1) := by decide +kernel
theorem dX5_add_0 : decode cX5_add 0 = .ok (.aload_n 0, 1) := by decide +kernel
theorem dX5_add_1 : decode cX5_add 1 = .ok (.getfield 27, 3) := by decide +kernel
theorem dX5_add_4 : decode cX5_add 4 = .ok (.bipush 12, 2) := by decide +kernel
theorem dX5_add_6 : decode cX5_add 6 = .ok (.if_icmp .lt 5, 3) := by decide +kernel
theorem dX5_add_9 : decode cX5_add 9 = .ok (.iconst (-1), 1) := by decide +kernel
theorem dX5_add_10 : decode cX5_add 10 = .ok (.ireturn, 1) := by decide +kernel
theorem dX5_add_11 : decode cX5_add 11 = .ok (.aload_n 0, 1) := by decide +kernel
theorem dX5_add_12 : decode cX5_add 12 = .ok (.getfield 9, 3) := by decide +kernel
theorem dX5_add_15 : decode cX5_add 15 = .ok (.aload_n 0, 1) := by decide +kernel
theorem dX5_add_16 : decode cX5_add 16 = .ok (.getfield 27, 3) := by decide +kernel
theorem dX5_add_19 : decode cX5_add 19 = .ok (.iload_n 1, 1) := by decide +kernel
theorem dX5_add_20 : decode cX5_add 20 = .ok (.iastore, 1) := by decide +kernel
theorem dX5_add_21 : decode cX5_add 21 = .ok (.aload_n 0, 1) := by decide +kernel
theorem dX5_add_22 : decode cX5_add 22 = .ok (.getfield 15, 3) := by decide +kernel
theorem dX5_add_25 : decode cX5_add 25 = .ok (.aload_n 0, 1) := by decide +kernel
theorem dX5_add_26 : decode cX5_add 26 = .ok (.getfield 27, 3) := by decide +kernel
theorem dX5_add_29 : decode cX5_add 29 = .ok (.iload_n 2, 1) := by decide +kernel
theorem dX5_add_30 : decode cX5_add 30 = .ok (.iastore, 1) := by decide +kernel
theorem dX5_add_31 : decode cX5_add 31 = .ok (.aload_n 0, 1) := by decide +kernel
theorem dX5_add_32 : decode cX5_add 32 = .ok (.getfield 18, 3) := by decide +kernel
theorem dX5_add_35 : decode cX5_add 35 = .ok (.aload_n 0, 1) := by decide +kernel
theorem dX5_add_36 : decode cX5_add 36 = .ok (.getfield 27, 3) := by decide +kernel
theorem dX5_add_39 : decode cX5_add 39 = .ok (.iload_n 3, 1) := by decide +kernel
theorem dX5_add_40 : decode cX5_add 40 = .ok (.iastore, 1) := by decide +kernel
theorem dX5_add_41 : decode cX5_add 41 = .ok (.aload_n 0, 1) := by decide +kernel
theorem dX5_add_42 : decode cX5_add 42 = .ok (.getfield 21, 3) := by decide +kernel
theorem dX5_add_45 : decode cX5_add 45 = .ok (.aload_n 0, 1) := by decide +kernel
theorem dX5_add_46 : decode cX5_add 46 = .ok (.getfield 27, 3) := by decide +kernel
theorem dX5_add_49 : decode cX5_add 49 = .ok (.iload 4, 2) := by decide +kernel
theorem dX5_add_51 : decode cX5_add 51 = .ok (.iastore, 1) := by decide +kernel
theorem dX5_add_52 : decode cX5_add 52 = .ok (.aload_n 0, 1) := by decide +kernel
theorem dX5_add_53 : decode cX5_add 53 = .ok (.getfield 24, 3) := by decide +kernel
theorem dX5_add_56 : decode cX5_add 56 = .ok (.aload_n 0, 1) := by decide +kernel
theorem dX5_add_57 : decode cX5_add 57 = .ok (.getfield 27, 3) := by decide +kernel
theorem dX5_add_60 : decode cX5_add 60 = .ok (.iload 5, 2) := by decide +kernel
theorem dX5_add_62 : decode cX5_add 62 = .ok (.iastore, 1) := by decide +kernel
theorem dX5_add_63 : decode cX5_add 63 = .ok (.aload_n 0, 1) := by decide +kernel
theorem dX5_add_64 : decode cX5_add 64 = .ok (.dup, 1) := by decide +kernel
theorem dX5_add_65 : decode cX5_add 65 = .ok (.getfield 27, 3) := by decide +kernel
theorem dX5_add_68 : decode cX5_add 68 = .ok (.dup_x1, 1) := by decide +kernel
theorem dX5_add_69 : decode cX5_add 69 = .ok (.iconst 1, 1) := by decide +kernel
theorem dX5_add_70 : decode cX5_add 70 = .ok (.iadd, 1) := by decide +kernel
theorem dX5_add_71 : decode cX5_add 71 = .ok (.putfield 27, 3) := by decide +kernel
theorem dX5_add_74 : decode cX5_add 74 = .ok (.ireturn, 1) := by decide +kernel
theorem dX5_latestWith_0 : decode cX5_latestWith 0 = .ok (.aload_n 0, 1) := by decide +kernel
theorem dX5_latestWith_1 : decode cX5_latestWith 1 = .ok (.getfield 27, 3) := by decide +kernel
theorem dX5_latestWith_4 : decode cX5_latestWith 4 = .ok (.iconst 1, 1) := by decide +kernel
theorem dX5_latestWith_5 : decode cX5_latestWith 5 = .ok (.isub, 1) := by decide +kernel
theorem dX5_latestWith_6 : decode cX5_latestWith 6 = .ok (.istore_n 3, 1) := by decide +kernel
theorem dX5_latestWith_7 : decode cX5_latestWith 7 = .ok (.iload_n 3, 1) := by decide +kernel
theorem dX5_latestWith_8 : decode cX5_latestWith 8 = .ok (.ifCond .lt 41, 3) := by decide +kernel
theorem dX5_latestWith_11 : decode cX5_latestWith 11 = .ok (.aload_n 0, 1) := by decide +kernel
theorem dX5_latestWith_12 : decode cX5_latestWith 12 = .ok (.getfield 9, 3) := by decide +kernel
theorem dX5_latestWith_15 : decode cX5_latestWith 15 = .ok (.iload_n 3, 1) := by decide +kernel
theorem dX5_latestWith_16 : decode cX5_latestWith 16 = .ok (.iaload, 1) := by decide +kernel
theorem dX5_latestWith_17 : decode cX5_latestWith 17 = .ok (.iload_n 1, 1) := by decide +kernel
theorem dX5_latestWith_18 : decode cX5_latestWith 18 = .ok (.if_icmp .ne 25, 3) := by decide +kernel
theorem dX5_latestWith_21 : decode cX5_latestWith 21 = .ok (.aload_n 0, 1) := by decide +kernel
theorem dX5_latestWith_22 : decode cX5_latestWith 22 = .ok (.getfield 15, 3) := by decide +kernel
theorem dX5_latestWith_25 : decode cX5_latestWith 25 = .ok (.iload_n 3, 1) := by decide +kernel
theorem dX5_latestWith_26 : decode cX5_latestWith 26 = .ok (.iaload, 1) := by decide +kernel
theorem dX5_latestWith_27 : decode cX5_latestWith 27 = .ok (.iload_n 2, 1) := by decide +kernel
theorem dX5_latestWith_28 : decode cX5_latestWith 28 = .ok (.if_icmp .gt 15, 3) := by decide +kernel
theorem dX5_latestWith_31 : decode cX5_latestWith 31 = .ok (.iload_n 2, 1) := by decide +kernel
theorem dX5_latestWith_32 : decode cX5_latestWith 32 = .ok (.aload_n 0, 1) := by decide +kernel
theorem dX5_latestWith_33 : decode cX5_latestWith 33 = .ok (.getfield 18, 3) := by decide +kernel
theorem dX5_latestWith_36 : decode cX5_latestWith 36 = .ok (.iload_n 3, 1) := by decide +kernel
theorem dX5_latestWith_37 : decode cX5_latestWith 37 = .ok (.iaload, 1) := by decide +kernel
theorem dX5_latestWith_38 : decode cX5_latestWith 38 = .ok (.if_icmp .gt 5, 3) := by decide +kernel
theorem dX5_latestWith_41 : decode cX5_latestWith 41 = .ok (.iload_n 3, 1) := by decide +kernel
theorem dX5_latestWith_42 : decode cX5_latestWith 42 = .ok (.ireturn, 1) := by decide +kernel
theorem dX5_latestWith_43 : decode cX5_latestWith 43 = .ok (.iinc 3 (-1), 3) := by decide +kernel
theorem dX5_latestWith_46 : decode cX5_latestWith 46 = .ok (.goto (-39), 3) := by decide +kernel
theorem dX5_latestWith_49 : decode cX5_latestWith 49 = .ok (.iconst (-1), 1) := by decide +kernel
theorem dX5_latestWith_50 : decode cX5_latestWith 50 = .ok (.ireturn, 1) := by decide +kernel
theorem dX5_minimumOn_0 : decode cX5_minimumOn 0 = .ok (.aload_n 0, 1) := by decide +kernel
theorem dX5_minimumOn_1 : decode cX5_minimumOn 1 = .ok (.iload_n 1, 1) := by decide +kernel
theorem dX5_minimumOn_2 : decode cX5_minimumOn 2 = .ok (.iload_n 2, 1) := by decide +kernel
theorem dX5_minimumOn_3 : decode cX5_minimumOn 3 = .ok (.invokevirtual 31, 3) := by decide +kernel
theorem dX5_minimumOn_6 : decode cX5_minimumOn 6 = .ok (.istore_n 3, 1) := by decide +kernel
theorem dX5_minimumOn_7 : decode cX5_minimumOn 7 = .ok (.iload_n 3, 1) := by decide +kernel
theorem dX5_minimumOn_8 : decode cX5_minimumOn 8 = .ok (.iconst (-1), 1) := by decide +kernel
theorem dX5_minimumOn_9 : decode cX5_minimumOn 9 = .ok (.if_icmp .ne 7, 3) := by decide +kernel
theorem dX5_minimumOn_12 : decode cX5_minimumOn 12 = .ok (.iconst 1, 1) := by decide +kernel
theorem dX5_minimumOn_13 : decode cX5_minimumOn 13 = .ok (.goto 9, 3) := by decide +kernel
theorem dX5_minimumOn_16 : decode cX5_minimumOn 16 = .ok (.aload_n 0, 1) := by decide +kernel
theorem dX5_minimumOn_17 : decode cX5_minimumOn 17 = .ok (.getfield 21, 3) := by decide +kernel
theorem dX5_minimumOn_20 : decode cX5_minimumOn 20 = .ok (.iload_n 3, 1) := by decide +kernel
theorem dX5_minimumOn_21 : decode cX5_minimumOn 21 = .ok (.iaload, 1) := by decide +kernel
theorem dX5_minimumOn_22 : decode cX5_minimumOn 22 = .ok (.ireturn, 1) := by decide +kernel
theorem dX5_priceOn_0 : decode cX5_priceOn 0 = .ok (.aload_n 0, 1) := by decide +kernel
theorem dX5_priceOn_1 : decode cX5_priceOn 1 = .ok (.iload_n 1, 1) := by decide +kernel
theorem dX5_priceOn_2 : decode cX5_priceOn 2 = .ok (.iload_n 2, 1) := by decide +kernel
theorem dX5_priceOn_3 : decode cX5_priceOn 3 = .ok (.invokevirtual 31, 3) := by decide +kernel
theorem dX5_priceOn_6 : decode cX5_priceOn 6 = .ok (.istore_n 3, 1) := by decide +kernel
theorem dX5_priceOn_7 : decode cX5_priceOn 7 = .ok (.iload_n 3, 1) := by decide +kernel
theorem dX5_priceOn_8 : decode cX5_priceOn 8 = .ok (.iconst (-1), 1) := by decide +kernel
theorem dX5_priceOn_9 : decode cX5_priceOn 9 = .ok (.if_icmp .ne 8, 3) := by decide +kernel
theorem dX5_priceOn_12 : decode cX5_priceOn 12 = .ok (.bipush 20, 2) := by decide +kernel
theorem dX5_priceOn_14 : decode cX5_priceOn 14 = .ok (.goto 9, 3) := by decide +kernel
theorem dX5_priceOn_17 : decode cX5_priceOn 17 = .ok (.aload_n 0, 1) := by decide +kernel
theorem dX5_priceOn_18 : decode cX5_priceOn 18 = .ok (.getfield 24, 3) := by decide +kernel
theorem dX5_priceOn_21 : decode cX5_priceOn 21 = .ok (.iload_n 3, 1) := by decide +kernel
theorem dX5_priceOn_22 : decode cX5_priceOn 22 = .ok (.iaload, 1) := by decide +kernel
theorem dX5_priceOn_23 : decode cX5_priceOn 23 = .ok (.ireturn, 1) := by decide +kernel
theorem dX5_priceOfNights_0 : decode cX5_priceOfNights 0 = .ok (.iconst 0, 1) := by decide +kernel
theorem dX5_priceOfNights_1 : decode cX5_priceOfNights 1 = .ok (.istore 4, 2) := by decide +kernel
theorem dX5_priceOfNights_3 : decode cX5_priceOfNights 3 = .ok (.iload_n 2, 1) := by decide +kernel
theorem dX5_priceOfNights_4 : decode cX5_priceOfNights 4 = .ok (.istore 5, 2) := by decide +kernel
theorem dX5_priceOfNights_6 : decode cX5_priceOfNights 6 = .ok (.iload 5, 2) := by decide +kernel
theorem dX5_priceOfNights_8 : decode cX5_priceOfNights 8 = .ok (.iload_n 3, 1) := by decide +kernel
theorem dX5_priceOfNights_9 : decode cX5_priceOfNights 9 = .ok (.if_icmp .ge 21, 3) := by decide +kernel
theorem dX5_priceOfNights_12 : decode cX5_priceOfNights 12 = .ok (.iload 4, 2) := by decide +kernel
theorem dX5_priceOfNights_14 : decode cX5_priceOfNights 14 = .ok (.aload_n 0, 1) := by decide +kernel
theorem dX5_priceOfNights_15 : decode cX5_priceOfNights 15 = .ok (.iload_n 1, 1) := by decide +kernel
theorem dX5_priceOfNights_16 : decode cX5_priceOfNights 16 = .ok (.iload 5, 2) := by decide +kernel
theorem dX5_priceOfNights_18 : decode cX5_priceOfNights 18 = .ok (.invokevirtual 35, 3) := by decide +kernel
theorem dX5_priceOfNights_21 : decode cX5_priceOfNights 21 = .ok (.iadd, 1) := by decide +kernel
theorem dX5_priceOfNights_22 : decode cX5_priceOfNights 22 = .ok (.istore 4, 2) := by decide +kernel
theorem dX5_priceOfNights_24 : decode cX5_priceOfNights 24 = .ok (.iinc 5 1, 3) := by decide +kernel
theorem dX5_priceOfNights_27 : decode cX5_priceOfNights 27 = .ok (.goto (-21), 3) := by decide +kernel
theorem dX5_priceOfNights_30 : decode cX5_priceOfNights 30 = .ok (.iload 4, 2) := by decide +kernel
theorem dX5_priceOfNights_32 : decode cX5_priceOfNights 32 = .ok (.ireturn, 1) := by decide +kernel
theorem dX5_copyFrom_0 : decode cX5_copyFrom 0 = .ok (.aload_n 1, 1) := by decide +kernel
theorem dX5_copyFrom_1 : decode cX5_copyFrom 1 = .ok (.getfield 9, 3) := by decide +kernel
theorem dX5_copyFrom_4 : decode cX5_copyFrom 4 = .ok (.aload_n 0, 1) := by decide +kernel
theorem dX5_copyFrom_5 : decode cX5_copyFrom 5 = .ok (.getfield 9, 3) := by decide +kernel
theorem dX5_copyFrom_8 : decode cX5_copyFrom 8 = .ok (.invokestatic 38, 3) := by decide +kernel
theorem dX5_copyFrom_11 : decode cX5_copyFrom 11 = .ok (.aload_n 1, 1) := by decide +kernel
theorem dX5_copyFrom_12 : decode cX5_copyFrom 12 = .ok (.getfield 15, 3) := by decide +kernel
theorem dX5_copyFrom_15 : decode cX5_copyFrom 15 = .ok (.aload_n 0, 1) := by decide +kernel
theorem dX5_copyFrom_16 : decode cX5_copyFrom 16 = .ok (.getfield 15, 3) := by decide +kernel
theorem dX5_copyFrom_19 : decode cX5_copyFrom 19 = .ok (.invokestatic 38, 3) := by decide +kernel
theorem dX5_copyFrom_22 : decode cX5_copyFrom 22 = .ok (.aload_n 1, 1) := by decide +kernel
theorem dX5_copyFrom_23 : decode cX5_copyFrom 23 = .ok (.getfield 18, 3) := by decide +kernel
theorem dX5_copyFrom_26 : decode cX5_copyFrom 26 = .ok (.aload_n 0, 1) := by decide +kernel
theorem dX5_copyFrom_27 : decode cX5_copyFrom 27 = .ok (.getfield 18, 3) := by decide +kernel
theorem dX5_copyFrom_30 : decode cX5_copyFrom 30 = .ok (.invokestatic 38, 3) := by decide +kernel
theorem dX5_copyFrom_33 : decode cX5_copyFrom 33 = .ok (.aload_n 1, 1) := by decide +kernel
theorem dX5_copyFrom_34 : decode cX5_copyFrom 34 = .ok (.getfield 21, 3) := by decide +kernel
theorem dX5_copyFrom_37 : decode cX5_copyFrom 37 = .ok (.aload_n 0, 1) := by decide +kernel
theorem dX5_copyFrom_38 : decode cX5_copyFrom 38 = .ok (.getfield 21, 3) := by decide +kernel
theorem dX5_copyFrom_41 : decode cX5_copyFrom 41 = .ok (.invokestatic 38, 3) := by decide +kernel
theorem dX5_copyFrom_44 : decode cX5_copyFrom 44 = .ok (.aload_n 1, 1) := by decide +kernel
theorem dX5_copyFrom_45 : decode cX5_copyFrom 45 = .ok (.getfield 24, 3) := by decide +kernel
theorem dX5_copyFrom_48 : decode cX5_copyFrom 48 = .ok (.aload_n 0, 1) := by decide +kernel
theorem dX5_copyFrom_49 : decode cX5_copyFrom 49 = .ok (.getfield 24, 3) := by decide +kernel
theorem dX5_copyFrom_52 : decode cX5_copyFrom 52 = .ok (.invokestatic 38, 3) := by decide +kernel
theorem dX5_copyFrom_55 : decode cX5_copyFrom 55 = .ok (.aload_n 0, 1) := by decide +kernel
theorem dX5_copyFrom_56 : decode cX5_copyFrom 56 = .ok (.aload_n 1, 1) := by decide +kernel
theorem dX5_copyFrom_57 : decode cX5_copyFrom 57 = .ok (.getfield 27, 3) := by decide +kernel
theorem dX5_copyFrom_60 : decode cX5_copyFrom 60 = .ok (.putfield 27, 3) := by decide +kernel
theorem dX5_copyFrom_63 : decode cX5_copyFrom 63 = .ok (.return_, 1) := by decide +kernel
theorem dX6_init_0 : decode cX6_init 0 = .ok (.aload_n 0, 1) := by decide +kernel
theorem dX6_init_1 : decode cX6_init 1 = .ok (.invokespecial 3, 3) := by decide +kernel
theorem dX6_init_4 : decode cX6_init 4 = .ok (.aload_n 0, 1) := by decide +kernel
theorem dX6_init_5 : decode cX6_init 5 = .ok (.iconst 0, 1) := by decide +kernel
theorem dX6_init_6 : decode cX6_init 6 = .ok (.putfield 9, 3) := by decide +kernel
theorem dX6_init_9 : decode cX6_init 9 = .ok (.aload_n 0, 1) := by decide +kernel
theorem dX6_init_10 : decode cX6_init 10 = .ok (.iconst 0, 1) := by decide +kernel
theorem dX6_init_11 : decode cX6_init 11 = .ok (.putfield 15, 3) := by decide +kernel
theorem dX6_init_14 : decode cX6_init 14 = .ok (.aload_n 0, 1) := by decide +kernel
theorem dX6_init_15 : decode cX6_init 15 = .ok (.iconst 0, 1) := by decide +kernel
theorem dX6_init_16 : decode cX6_init 16 = .ok (.putfield 18, 3) := by decide +kernel
theorem dX6_init_19 : decode cX6_init 19 = .ok (.aload_n 0, 1) := by decide +kernel
theorem dX6_init_20 : decode cX6_init 20 = .ok (.iconst 0, 1) := by decide +kernel
theorem dX6_init_21 : decode cX6_init 21 = .ok (.putfield 21, 3) := by decide +kernel
theorem dX6_init_24 : decode cX6_init 24 = .ok (.aload_n 0, 1) := by decide +kernel
theorem dX6_init_25 : decode cX6_init 25 = .ok (.iconst 0, 1) := by decide +kernel
theorem dX6_init_26 : decode cX6_init 26 = .ok (.putfield 24, 3) := by decide +kernel
theorem dX6_init_29 : decode cX6_init 29 = .ok (.aload_n 0, 1) := by decide +kernel
theorem dX6_init_30 : decode cX6_init 30 = .ok (.iconst 0, 1) := by decide +kernel
theorem dX6_init_31 : decode cX6_init 31 = .ok (.putfield 27, 3) := by decide +kernel
theorem dX6_init_34 : decode cX6_init 34 = .ok (.aload_n 0, 1) := by decide +kernel
theorem dX6_init_35 : decode cX6_init 35 = .ok (.iconst (-1), 1) := by decide +kernel
theorem dX6_init_36 : decode cX6_init 36 = .ok (.putfield 30, 3) := by decide +kernel
theorem dX6_init_39 : decode cX6_init 39 = .ok (.aload_n 0, 1) := by decide +kernel
theorem dX6_init_40 : decode cX6_init 40 = .ok (.aload_n 1, 1) := by decide +kernel
theorem dX6_init_41 : decode cX6_init 41 = .ok (.putfield 33, 3) := by decide +kernel
theorem dX6_init_44 : decode cX6_init 44 = .ok (.aload_n 0, 1) := by decide +kernel
theorem dX6_init_45 : decode cX6_init 45 = .ok (.aload_n 2, 1) := by decide +kernel
theorem dX6_init_46 : decode cX6_init 46 = .ok (.putfield 37, 3) := by decide +kernel
theorem dX6_init_49 : decode cX6_init 49 = .ok (.return_, 1) := by decide +kernel
theorem dX6_read_0 : decode cX6_read 0 = .ok (.aload_n 0, 1) := by decide +kernel
theorem dX6_read_1 : decode cX6_read 1 = .ok (.iload_n 1, 1) := by decide +kernel
theorem dX6_read_2 : decode cX6_read 2 = .ok (.aload_n 0, 1) := by decide +kernel
theorem dX6_read_3 : decode cX6_read 3 = .ok (.getfield 33, 3) := by decide +kernel
theorem dX6_read_6 : decode cX6_read 6 = .ok (.arraylength, 1) := by decide +kernel
theorem dX6_read_7 : decode cX6_read 7 = .ok (.invokestatic 41, 3) := by decide +kernel
theorem dX6_read_10 : decode cX6_read 10 = .ok (.putfield 9, 3) := by decide +kernel
theorem dX6_read_13 : decode cX6_read 13 = .ok (.aload_n 0, 1) := by decide +kernel
theorem dX6_read_14 : decode cX6_read 14 = .ok (.iconst 0, 1) := by decide +kernel
theorem dX6_read_15 : decode cX6_read 15 = .ok (.putfield 21, 3) := by decide +kernel
theorem dX6_read_18 : decode cX6_read 18 = .ok (.aload_n 0, 1) := by decide +kernel
theorem dX6_read_19 : decode cX6_read 19 = .ok (.iconst 0, 1) := by decide +kernel
theorem dX6_read_20 : decode cX6_read 20 = .ok (.putfield 27, 3) := by decide +kernel
theorem dX6_read_23 : decode cX6_read 23 = .ok (.aload_n 0, 1) := by decide +kernel
theorem dX6_read_24 : decode cX6_read 24 = .ok (.iconst (-1), 1) := by decide +kernel
theorem dX6_read_25 : decode cX6_read 25 = .ok (.putfield 30, 3) := by decide +kernel
theorem dX6_read_28 : decode cX6_read 28 = .ok (.aload_n 0, 1) := by decide +kernel
theorem dX6_read_29 : decode cX6_read 29 = .ok (.getfield 37, 3) := by decide +kernel
theorem dX6_read_32 : decode cX6_read 32 = .ok (.invokevirtual 47, 3) := by decide +kernel
theorem dX6_read_35 : decode cX6_read 35 = .ok (.aload_n 0, 1) := by decide +kernel
theorem dX6_read_36 : decode cX6_read 36 = .ok (.invokevirtual 52, 3) := by decide +kernel
theorem dX6_read_39 : decode cX6_read 39 = .ok (.iconst 0, 1) := by decide +kernel
theorem dX6_read_40 : decode cX6_read 40 = .ok (.istore_n 2, 1) := by decide +kernel
theorem dX6_read_41 : decode cX6_read 41 = .ok (.aload_n 0, 1) := by decide +kernel
theorem dX6_read_42 : decode cX6_read 42 = .ok (.getfield 15, 3) := by decide +kernel
theorem dX6_read_45 : decode cX6_read 45 = .ok (.ifCond .eq 25, 3) := by decide +kernel
theorem dX6_read_48 : decode cX6_read 48 = .ok (.iload_n 2, 1) := by decide +kernel
theorem dX6_read_49 : decode cX6_read 49 = .ok (.sipush 500, 3) := by decide +kernel
theorem dX6_read_52 : decode cX6_read 52 = .ok (.if_icmp .ge 18, 3) := by decide +kernel
theorem dX6_read_55 : decode cX6_read 55 = .ok (.aload_n 0, 1) := by decide +kernel
theorem dX6_read_56 : decode cX6_read 56 = .ok (.invokevirtual 55, 3) := by decide +kernel
theorem dX6_read_59 : decode cX6_read 59 = .ok (.ifCond .ne 5, 3) := by decide +kernel
theorem dX6_read_62 : decode cX6_read 62 = .ok (.iconst (-1), 1) := by decide +kernel
theorem dX6_read_63 : decode cX6_read 63 = .ok (.ireturn, 1) := by decide +kernel
theorem dX6_read_64 : decode cX6_read 64 = .ok (.iinc 2 1, 3) := by decide +kernel
theorem dX6_read_67 : decode cX6_read 67 = .ok (.goto (-26), 3) := by decide +kernel
theorem dX6_read_70 : decode cX6_read 70 = .ok (.iload_n 2, 1) := by decide +kernel
theorem dX6_read_71 : decode cX6_read 71 = .ok (.ireturn, 1) := by decide +kernel
theorem dX6_readStatement_0 : decode cX6_readStatement 0 = .ok (.aload_n 0, 1) := by decide +kernel
theorem dX6_readStatement_1 : decode cX6_readStatement 1 = .ok (.ldc 59, 2) := by decide +kernel
theorem dX6_readStatement_3 : decode cX6_readStatement 3 = .ok (.invokevirtual 61, 3) := by decide +kernel
theorem dX6_readStatement_6 : decode cX6_readStatement 6 = .ok (.ifCond .eq 23, 3) := by decide +kernel
theorem dX6_readStatement_9 : decode cX6_readStatement 9 = .ok (.aload_n 0, 1) := by decide +kernel
theorem dX6_readStatement_10 : decode cX6_readStatement 10 = .ok (.invokevirtual 65, 3) := by decide +kernel
theorem dX6_readStatement_13 : decode cX6_readStatement 13 = .ok (.ifCond .eq 14, 3) := by decide +kernel
theorem dX6_readStatement_16 : decode cX6_readStatement 16 = .ok (.aload_n 0, 1) := by decide +kernel
theorem dX6_readStatement_17 : decode cX6_readStatement 17 = .ok (.invokevirtual 68, 3) := by decide +kernel
theorem dX6_readStatement_20 : decode cX6_readStatement 20 = .ok (.ifCond .eq 7, 3) := by decide +kernel
theorem dX6_readStatement_23 : decode cX6_readStatement 23 = .ok (.iconst 1, 1) := by decide +kernel
theorem dX6_readStatement_24 : decode cX6_readStatement 24 = .ok (.goto 4, 3) := by decide +kernel
theorem dX6_readStatement_27 : decode cX6_readStatement 27 = .ok (.iconst 0, 1) := by decide +kernel
theorem dX6_readStatement_28 : decode cX6_readStatement 28 = .ok (.ireturn, 1) := by decide +kernel
theorem dX6_readStatement_29 : decode cX6_readStatement 29 = .ok (.aload_n 0, 1) := by decide +kernel
theorem dX6_readStatement_30 : decode cX6_readStatement 30 = .ok (.ldc 71, 2) := by decide +kernel
theorem dX6_readStatement_32 : decode cX6_readStatement 32 = .ok (.invokevirtual 61, 3) := by decide +kernel
theorem dX6_readStatement_35 : decode cX6_readStatement 35 = .ok (.ifCond .eq 23, 3) := by decide +kernel
theorem dX6_readStatement_38 : decode cX6_readStatement 38 = .ok (.aload_n 0, 1) := by decide +kernel
theorem dX6_readStatement_39 : decode cX6_readStatement 39 = .ok (.invokevirtual 73, 3) := by decide +kernel
theorem dX6_readStatement_42 : decode cX6_readStatement 42 = .ok (.ifCond .eq 14, 3) := by decide +kernel
theorem dX6_readStatement_45 : decode cX6_readStatement 45 = .ok (.aload_n 0, 1) := by decide +kernel
theorem dX6_readStatement_46 : decode cX6_readStatement 46 = .ok (.invokevirtual 68, 3) := by decide +kernel
theorem dX6_readStatement_49 : decode cX6_readStatement 49 = .ok (.ifCond .eq 7, 3) := by decide +kernel
theorem dX6_readStatement_52 : decode cX6_readStatement 52 = .ok (.iconst 1, 1) := by decide +kernel
theorem dX6_readStatement_53 : decode cX6_readStatement 53 = .ok (.goto 4, 3) := by decide +kernel
theorem dX6_readStatement_56 : decode cX6_readStatement 56 = .ok (.iconst 0, 1) := by decide +kernel
theorem dX6_readStatement_57 : decode cX6_readStatement 57 = .ok (.ireturn, 1) := by decide +kernel
theorem dX6_readStatement_58 : decode cX6_readStatement 58 = .ok (.aload_n 0, 1) := by decide +kernel
theorem dX6_readStatement_59 : decode cX6_readStatement 59 = .ok (.ldc 76, 2) := by decide +kernel
theorem dX6_readStatement_61 : decode cX6_readStatement 61 = .ok (.invokevirtual 61, 3) := by decide +kernel
theorem dX6_readStatement_64 : decode cX6_readStatement 64 = .ok (.ifCond .eq 23, 3) := by decide +kernel
theorem dX6_readStatement_67 : decode cX6_readStatement 67 = .ok (.aload_n 0, 1) := by decide +kernel
theorem dX6_readStatement_68 : decode cX6_readStatement 68 = .ok (.invokevirtual 78, 3) := by decide +kernel
theorem dX6_readStatement_71 : decode cX6_readStatement 71 = .ok (.ifCond .eq 14, 3) := by decide +kernel
theorem dX6_readStatement_74 : decode cX6_readStatement 74 = .ok (.aload_n 0, 1) := by decide +kernel
theorem dX6_readStatement_75 : decode cX6_readStatement 75 = .ok (.invokevirtual 68, 3) := by decide +kernel
theorem dX6_readStatement_78 : decode cX6_readStatement 78 = .ok (.ifCond .eq 7, 3) := by decide +kernel
theorem dX6_readStatement_81 : decode cX6_readStatement 81 = .ok (.iconst 1, 1) := by decide +kernel
theorem dX6_readStatement_82 : decode cX6_readStatement 82 = .ok (.goto 4, 3) := by decide +kernel
theorem dX6_readStatement_85 : decode cX6_readStatement 85 = .ok (.iconst 0, 1) := by decide +kernel
theorem dX6_readStatement_86 : decode cX6_readStatement 86 = .ok (.ireturn, 1) := by decide +kernel
theorem dX6_readStatement_87 : decode cX6_readStatement 87 = .ok (.aload_n 0, 1) := by decide +kernel
theorem dX6_readStatement_88 : decode cX6_readStatement 88 = .ok (.ldc 81, 2) := by decide +kernel
theorem dX6_readStatement_90 : decode cX6_readStatement 90 = .ok (.invokevirtual 61, 3) := by decide +kernel
theorem dX6_readStatement_93 : decode cX6_readStatement 93 = .ok (.ifCond .eq 23, 3) := by decide +kernel
theorem dX6_readStatement_96 : decode cX6_readStatement 96 = .ok (.aload_n 0, 1) := by decide +kernel
theorem dX6_readStatement_97 : decode cX6_readStatement 97 = .ok (.invokevirtual 83, 3) := by decide +kernel
theorem dX6_readStatement_100 : decode cX6_readStatement 100 = .ok (.ifCond .eq 14, 3) := by decide +kernel
theorem dX6_readStatement_103 : decode cX6_readStatement 103 = .ok (.aload_n 0, 1) := by decide +kernel
theorem dX6_readStatement_104 : decode cX6_readStatement 104 = .ok (.invokevirtual 68, 3) := by decide +kernel
theorem dX6_readStatement_107 : decode cX6_readStatement 107 = .ok (.ifCond .eq 7, 3) := by decide +kernel
theorem dX6_readStatement_110 : decode cX6_readStatement 110 = .ok (.iconst 1, 1) := by decide +kernel
theorem dX6_readStatement_111 : decode cX6_readStatement 111 = .ok (.goto 4, 3) := by decide +kernel
theorem dX6_readStatement_114 : decode cX6_readStatement 114 = .ok (.iconst 0, 1) := by decide +kernel
theorem dX6_readStatement_115 : decode cX6_readStatement 115 = .ok (.ireturn, 1) := by decide +kernel
theorem dX6_readStatement_116 : decode cX6_readStatement 116 = .ok (.aload_n 0, 1) := by decide +kernel
theorem dX6_readStatement_117 : decode cX6_readStatement 117 = .ok (.iconst 1, 1) := by decide +kernel
theorem dX6_readStatement_118 : decode cX6_readStatement 118 = .ok (.invokevirtual 86, 3) := by decide +kernel
theorem dX6_readStatement_121 : decode cX6_readStatement 121 = .ok (.ireturn, 1) := by decide +kernel
theorem dX6_readClass_0 : decode cX6_readClass 0 = .ok (.aload_n 0, 1) := by decide +kernel
theorem dX6_readClass_1 : decode cX6_readClass 1 = .ok (.getfield 37, 3) := by decide +kernel
theorem dX6_readClass_4 : decode cX6_readClass 4 = .ok (.getfield 90, 3) := by decide +kernel
theorem dX6_readClass_7 : decode cX6_readClass 7 = .ok (.getfield 94, 3) := by decide +kernel
theorem dX6_readClass_10 : decode cX6_readClass 10 = .ok (.iconst 4, 1) := by decide +kernel
theorem dX6_readClass_11 : decode cX6_readClass 11 = .ok (.if_icmp .lt 9, 3) := by decide +kernel
theorem dX6_readClass_14 : decode cX6_readClass 14 = .ok (.aload_n 0, 1) := by decide +kernel
theorem dX6_readClass_15 : decode cX6_readClass 15 = .ok (.iconst 3, 1) := by decide +kernel
theorem dX6_readClass_16 : decode cX6_readClass 16 = .ok (.invokevirtual 86, 3) := by decide +kernel
theorem dX6_readClass_19 : decode cX6_readClass 19 = .ok (.ireturn, 1) := by decide +kernel
theorem dX6_readClass_20 : decode cX6_readClass 20 = .ok (.aload_n 0, 1) := by decide +kernel
theorem dX6_readClass_21 : decode cX6_readClass 21 = .ok (.invokevirtual 52, 3) := by decide +kernel
theorem dX6_readClass_24 : decode cX6_readClass 24 = .ok (.aload_n 0, 1) := by decide +kernel
theorem dX6_readClass_25 : decode cX6_readClass 25 = .ok (.iconst 1, 1) := by decide +kernel
theorem dX6_readClass_26 : decode cX6_readClass 26 = .ok (.sipush 200, 3) := by decide +kernel
theorem dX6_readClass_29 : decode cX6_readClass 29 = .ok (.invokevirtual 99, 3) := by decide +kernel
theorem dX6_readClass_32 : decode cX6_readClass 32 = .ok (.istore_n 1, 1) := by decide +kernel
theorem dX6_readClass_33 : decode cX6_readClass 33 = .ok (.iload_n 1, 1) := by decide +kernel
theorem dX6_readClass_34 : decode cX6_readClass 34 = .ok (.iconst (-1), 1) := by decide +kernel
theorem dX6_readClass_35 : decode cX6_readClass 35 = .ok (.if_icmp .ne 7, 3) := by decide +kernel
theorem dX6_readClass_38 : decode cX6_readClass 38 = .ok (.iconst (-1), 1) := by decide +kernel
theorem dX6_readClass_39 : decode cX6_readClass 39 = .ok (.goto 9, 3) := by decide +kernel
theorem dX6_readClass_42 : decode cX6_readClass 42 = .ok (.aload_n 0, 1) := by decide +kernel
theorem dX6_readClass_43 : decode cX6_readClass 43 = .ok (.iconst 0, 1) := by decide +kernel
theorem dX6_readClass_44 : decode cX6_readClass 44 = .ok (.iload_n 1, 1) := by decide +kernel
theorem dX6_readClass_45 : decode cX6_readClass 45 = .ok (.invokevirtual 99, 3) := by decide +kernel
theorem dX6_readClass_48 : decode cX6_readClass 48 = .ok (.istore_n 2, 1) := by decide +kernel
theorem dX6_readClass_49 : decode cX6_readClass 49 = .ok (.iload_n 2, 1) := by decide +kernel
theorem dX6_readClass_50 : decode cX6_readClass 50 = .ok (.iconst (-1), 1) := by decide +kernel
theorem dX6_readClass_51 : decode cX6_readClass 51 = .ok (.if_icmp .ne 7, 3) := by decide +kernel
theorem dX6_readClass_54 : decode cX6_readClass 54 = .ok (.iconst (-1), 1) := by decide +kernel
theorem dX6_readClass_55 : decode cX6_readClass 55 = .ok (.goto 10, 3) := by decide +kernel
theorem dX6_readClass_58 : decode cX6_readClass 58 = .ok (.aload_n 0, 1) := by decide +kernel
theorem dX6_readClass_59 : decode cX6_readClass 59 = .ok (.iconst 0, 1) := by decide +kernel
theorem dX6_readClass_60 : decode cX6_readClass 60 = .ok (.bipush 16, 2) := by decide +kernel
theorem dX6_readClass_62 : decode cX6_readClass 62 = .ok (.invokevirtual 99, 3) := by decide +kernel
theorem dX6_readClass_65 : decode cX6_readClass 65 = .ok (.istore_n 3, 1) := by decide +kernel
theorem dX6_readClass_66 : decode cX6_readClass 66 = .ok (.iload_n 3, 1) := by decide +kernel
theorem dX6_readClass_67 : decode cX6_readClass 67 = .ok (.iconst (-1), 1) := by decide +kernel
theorem dX6_readClass_68 : decode cX6_readClass 68 = .ok (.if_icmp .eq 24, 3) := by decide +kernel
theorem dX6_readClass_71 : decode cX6_readClass 71 = .ok (.aload_n 0, 1) := by decide +kernel
theorem dX6_readClass_72 : decode cX6_readClass 72 = .ok (.getfield 37, 3) := by decide +kernel
theorem dX6_readClass_75 : decode cX6_readClass 75 = .ok (.getfield 90, 3) := by decide +kernel
theorem dX6_readClass_78 : decode cX6_readClass 78 = .ok (.iload_n 1, 1) := by decide +kernel
theorem dX6_readClass_79 : decode cX6_readClass 79 = .ok (.iload_n 2, 1) := by decide +kernel
theorem dX6_readClass_80 : decode cX6_readClass 80 = .ok (.iload_n 3, 1) := by decide +kernel
theorem dX6_readClass_81 : decode cX6_readClass 81 = .ok (.invokevirtual 102, 3) := by decide +kernel
theorem dX6_readClass_84 : decode cX6_readClass 84 = .ok (.iconst (-1), 1) := by decide +kernel
theorem dX6_readClass_85 : decode cX6_readClass 85 = .ok (.if_icmp .eq 7, 3) := by decide +kernel
theorem dX6_readClass_88 : decode cX6_readClass 88 = .ok (.iconst 1, 1) := by decide +kernel
theorem dX6_readClass_89 : decode cX6_readClass 89 = .ok (.goto 4, 3) := by decide +kernel
theorem dX6_readClass_92 : decode cX6_readClass 92 = .ok (.iconst 0, 1) := by decide +kernel
theorem dX6_readClass_93 : decode cX6_readClass 93 = .ok (.ireturn, 1) := by decide +kernel
theorem dX6_readSites_0 : decode cX6_readSites 0 = .ok (.aload_n 0, 1) := by decide +kernel
theorem dX6_readSites_1 : decode cX6_readSites 1 = .ok (.invokevirtual 52, 3) := by decide +kernel
theorem dX6_readSites_4 : decode cX6_readSites 4 = .ok (.iconst 0, 1) := by decide +kernel
theorem dX6_readSites_5 : decode cX6_readSites 5 = .ok (.istore_n 1, 1) := by decide +kernel
theorem dX6_readSites_6 : decode cX6_readSites 6 = .ok (.iload_n 1, 1) := by decide +kernel
theorem dX6_readSites_7 : decode cX6_readSites 7 = .ok (.bipush 16, 2) := by decide +kernel
theorem dX6_readSites_9 : decode cX6_readSites 9 = .ok (.if_icmp .gt 73, 3) := by decide +kernel
theorem dX6_readSites_12 : decode cX6_readSites 12 = .ok (.iload_n 1, 1) := by decide +kernel
theorem dX6_readSites_13 : decode cX6_readSites 13 = .ok (.ifCond .eq 11, 3) := by decide +kernel
theorem dX6_readSites_16 : decode cX6_readSites 16 = .ok (.aload_n 0, 1) := by decide +kernel
theorem dX6_readSites_17 : decode cX6_readSites 17 = .ok (.getfield 15, 3) := by decide +kernel
theorem dX6_readSites_20 : decode cX6_readSites 20 = .ok (.iconst 2, 1) := by decide +kernel
theorem dX6_readSites_21 : decode cX6_readSites 21 = .ok (.if_icmp .ne 61, 3) := by decide +kernel
theorem dX6_readSites_24 : decode cX6_readSites 24 = .ok (.aload_n 0, 1) := by decide +kernel
theorem dX6_readSites_25 : decode cX6_readSites 25 = .ok (.getfield 18, 3) := by decide +kernel
theorem dX6_readSites_28 : decode cX6_readSites 28 = .ok (.istore_n 2, 1) := by decide +kernel
theorem dX6_readSites_29 : decode cX6_readSites 29 = .ok (.aload_n 0, 1) := by decide +kernel
theorem dX6_readSites_30 : decode cX6_readSites 30 = .ok (.iconst 0, 1) := by decide +kernel
theorem dX6_readSites_31 : decode cX6_readSites 31 = .ok (.aload_n 0, 1) := by decide +kernel
theorem dX6_readSites_32 : decode cX6_readSites 32 = .ok (.getfield 37, 3) := by decide +kernel
theorem dX6_readSites_35 : decode cX6_readSites 35 = .ok (.getfield 90, 3) := by decide +kernel
theorem dX6_readSites_38 : decode cX6_readSites 38 = .ok (.getfield 94, 3) := by decide +kernel
theorem dX6_readSites_41 : decode cX6_readSites 41 = .ok (.iconst 1, 1) := by decide +kernel
theorem dX6_readSites_42 : decode cX6_readSites 42 = .ok (.isub, 1) := by decide +kernel
theorem dX6_readSites_43 : decode cX6_readSites 43 = .ok (.invokevirtual 99, 3) := by decide +kernel
theorem dX6_readSites_46 : decode cX6_readSites 46 = .ok (.istore_n 3, 1) := by decide +kernel
theorem dX6_readSites_47 : decode cX6_readSites 47 = .ok (.iload_n 3, 1) := by decide +kernel
theorem dX6_readSites_48 : decode cX6_readSites 48 = .ok (.iconst (-1), 1) := by decide +kernel
theorem dX6_readSites_49 : decode cX6_readSites 49 = .ok (.if_icmp .ne 5, 3) := by decide +kernel
theorem dX6_readSites_52 : decode cX6_readSites 52 = .ok (.iconst 0, 1) := by decide +kernel
theorem dX6_readSites_53 : decode cX6_readSites 53 = .ok (.ireturn, 1) := by decide +kernel
theorem dX6_readSites_54 : decode cX6_readSites 54 = .ok (.aload_n 0, 1) := by decide +kernel
theorem dX6_readSites_55 : decode cX6_readSites 55 = .ok (.getfield 37, 3) := by decide +kernel
theorem dX6_readSites_58 : decode cX6_readSites 58 = .ok (.getfield 106, 3) := by decide +kernel
theorem dX6_readSites_61 : decode cX6_readSites 61 = .ok (.iload_n 3, 1) := by decide +kernel
theorem dX6_readSites_62 : decode cX6_readSites 62 = .ok (.invokevirtual 110, 3) := by decide +kernel
theorem dX6_readSites_65 : decode cX6_readSites 65 = .ok (.iconst (-1), 1) := by decide +kernel
theorem dX6_readSites_66 : decode cX6_readSites 66 = .ok (.if_icmp .ne 10, 3) := by decide +kernel
theorem dX6_readSites_69 : decode cX6_readSites 69 = .ok (.aload_n 0, 1) := by decide +kernel
theorem dX6_readSites_70 : decode cX6_readSites 70 = .ok (.iload_n 2, 1) := by decide +kernel
theorem dX6_readSites_71 : decode cX6_readSites 71 = .ok (.iconst 3, 1) := by decide +kernel
theorem dX6_readSites_72 : decode cX6_readSites 72 = .ok (.invokevirtual 115, 3) := by decide +kernel
theorem dX6_readSites_75 : decode cX6_readSites 75 = .ok (.ireturn, 1) := by decide +kernel
theorem dX6_readSites_76 : decode cX6_readSites 76 = .ok (.iinc 1 1, 3) := by decide +kernel
theorem dX6_readSites_79 : decode cX6_readSites 79 = .ok (.goto (-73), 3) := by decide +kernel
theorem dX6_readSites_82 : decode cX6_readSites 82 = .ok (.iconst 1, 1) := by decide +kernel
theorem dX6_readSites_83 : decode cX6_readSites 83 = .ok (.ireturn, 1) := by decide +kernel
theorem dX6_readSeason_0 : decode cX6_readSeason 0 = .ok (.aload_n 0, 1) := by decide +kernel
theorem dX6_readSeason_1 : decode cX6_readSeason 1 = .ok (.getfield 37, 3) := by decide +kernel
theorem dX6_readSeason_4 : decode cX6_readSeason 4 = .ok (.getfield 119, 3) := by decide +kernel
theorem dX6_readSeason_7 : decode cX6_readSeason 7 = .ok (.getfield 123, 3) := by decide +kernel
theorem dX6_readSeason_10 : decode cX6_readSeason 10 = .ok (.bipush 12, 2) := by decide +kernel
theorem dX6_readSeason_12 : decode cX6_readSeason 12 = .ok (.if_icmp .lt 9, 3) := by decide +kernel
theorem dX6_readSeason_15 : decode cX6_readSeason 15 = .ok (.aload_n 0, 1) := by decide +kernel
theorem dX6_readSeason_16 : decode cX6_readSeason 16 = .ok (.iconst 3, 1) := by decide +kernel
theorem dX6_readSeason_17 : decode cX6_readSeason 17 = .ok (.invokevirtual 86, 3) := by decide +kernel
theorem dX6_readSeason_20 : decode cX6_readSeason 20 = .ok (.ireturn, 1) := by decide +kernel
theorem dX6_readSeason_21 : decode cX6_readSeason 21 = .ok (.aload_n 0, 1) := by decide +kernel
theorem dX6_readSeason_22 : decode cX6_readSeason 22 = .ok (.invokevirtual 52, 3) := by decide +kernel
theorem dX6_readSeason_25 : decode cX6_readSeason 25 = .ok (.aload_n 0, 1) := by decide +kernel
theorem dX6_readSeason_26 : decode cX6_readSeason 26 = .ok (.iconst 0, 1) := by decide +kernel
theorem dX6_readSeason_27 : decode cX6_readSeason 27 = .ok (.aload_n 0, 1) := by decide +kernel
theorem dX6_readSeason_28 : decode cX6_readSeason 28 = .ok (.getfield 37, 3) := by decide +kernel
theorem dX6_readSeason_31 : decode cX6_readSeason 31 = .ok (.getfield 90, 3) := by decide +kernel
theorem dX6_readSeason_34 : decode cX6_readSeason 34 = .ok (.getfield 94, 3) := by decide +kernel
theorem dX6_readSeason_37 : decode cX6_readSeason 37 = .ok (.iconst 1, 1) := by decide +kernel
theorem dX6_readSeason_38 : decode cX6_readSeason 38 = .ok (.isub, 1) := by decide +kernel
theorem dX6_readSeason_39 : decode cX6_readSeason 39 = .ok (.invokevirtual 99, 3) := by decide +kernel
theorem dX6_readSeason_42 : decode cX6_readSeason 42 = .ok (.istore_n 1, 1) := by decide +kernel
theorem dX6_readSeason_43 : decode cX6_readSeason 43 = .ok (.iload_n 1, 1) := by decide +kernel
theorem dX6_readSeason_44 : decode cX6_readSeason 44 = .ok (.iconst (-1), 1) := by decide +kernel
theorem dX6_readSeason_45 : decode cX6_readSeason 45 = .ok (.if_icmp .ne 7, 3) := by decide +kernel
theorem dX6_readSeason_48 : decode cX6_readSeason 48 = .ok (.iconst (-1), 1) := by decide +kernel
theorem dX6_readSeason_49 : decode cX6_readSeason 49 = .ok (.goto 11, 3) := by decide +kernel
theorem dX6_readSeason_52 : decode cX6_readSeason 52 = .ok (.aload_n 0, 1) := by decide +kernel
theorem dX6_readSeason_53 : decode cX6_readSeason 53 = .ok (.iconst 0, 1) := by decide +kernel
theorem dX6_readSeason_54 : decode cX6_readSeason 54 = .ok (.sipush 999, 3) := by decide +kernel
theorem dX6_readSeason_57 : decode cX6_readSeason 57 = .ok (.invokevirtual 99, 3) := by decide +kernel
theorem dX6_readSeason_60 : decode cX6_readSeason 60 = .ok (.istore_n 2, 1) := by decide +kernel
theorem dX6_readSeason_61 : decode cX6_readSeason 61 = .ok (.iload_n 2, 1) := by decide +kernel
theorem dX6_readSeason_62 : decode cX6_readSeason 62 = .ok (.iconst (-1), 1) := by decide +kernel
theorem dX6_readSeason_63 : decode cX6_readSeason 63 = .ok (.if_icmp .ne 7, 3) := by decide +kernel
theorem dX6_readSeason_66 : decode cX6_readSeason 66 = .ok (.iconst (-1), 1) := by decide +kernel
theorem dX6_readSeason_67 : decode cX6_readSeason 67 = .ok (.goto 11, 3) := by decide +kernel
theorem dX6_readSeason_70 : decode cX6_readSeason 70 = .ok (.aload_n 0, 1) := by decide +kernel
theorem dX6_readSeason_71 : decode cX6_readSeason 71 = .ok (.iload_n 2, 1) := by decide +kernel
theorem dX6_readSeason_72 : decode cX6_readSeason 72 = .ok (.sipush 999, 3) := by decide +kernel
theorem dX6_readSeason_75 : decode cX6_readSeason 75 = .ok (.invokevirtual 99, 3) := by decide +kernel
theorem dX6_readSeason_78 : decode cX6_readSeason 78 = .ok (.istore_n 3, 1) := by decide +kernel
theorem dX6_readSeason_79 : decode cX6_readSeason 79 = .ok (.iload_n 3, 1) := by decide +kernel
theorem dX6_readSeason_80 : decode cX6_readSeason 80 = .ok (.iconst (-1), 1) := by decide +kernel
theorem dX6_readSeason_81 : decode cX6_readSeason 81 = .ok (.if_icmp .ne 7, 3) := by decide +kernel
theorem dX6_readSeason_84 : decode cX6_readSeason 84 = .ok (.iconst (-1), 1) := by decide +kernel
theorem dX6_readSeason_85 : decode cX6_readSeason 85 = .ok (.goto 10, 3) := by decide +kernel
theorem dX6_readSeason_88 : decode cX6_readSeason 88 = .ok (.aload_n 0, 1) := by decide +kernel
theorem dX6_readSeason_89 : decode cX6_readSeason 89 = .ok (.iconst 1, 1) := by decide +kernel
theorem dX6_readSeason_90 : decode cX6_readSeason 90 = .ok (.bipush 14, 2) := by decide +kernel
theorem dX6_readSeason_92 : decode cX6_readSeason 92 = .ok (.invokevirtual 99, 3) := by decide +kernel
theorem dX6_readSeason_95 : decode cX6_readSeason 95 = .ok (.istore 4, 2) := by decide +kernel
theorem dX6_readSeason_97 : decode cX6_readSeason 97 = .ok (.iload 4, 2) := by decide +kernel
theorem dX6_readSeason_99 : decode cX6_readSeason 99 = .ok (.iconst (-1), 1) := by decide +kernel
theorem dX6_readSeason_100 : decode cX6_readSeason 100 = .ok (.if_icmp .ne 7, 3) := by decide +kernel
theorem dX6_readSeason_103 : decode cX6_readSeason 103 = .ok (.iconst (-1), 1) := by decide +kernel
theorem dX6_readSeason_104 : decode cX6_readSeason 104 = .ok (.goto 11, 3) := by decide +kernel
theorem dX6_readSeason_107 : decode cX6_readSeason 107 = .ok (.aload_n 0, 1) := by decide +kernel
theorem dX6_readSeason_108 : decode cX6_readSeason 108 = .ok (.iconst 0, 1) := by decide +kernel
theorem dX6_readSeason_109 : decode cX6_readSeason 109 = .ok (.sipush 9999, 3) := by decide +kernel
theorem dX6_readSeason_112 : decode cX6_readSeason 112 = .ok (.invokevirtual 99, 3) := by decide +kernel
theorem dX6_readSeason_115 : decode cX6_readSeason 115 = .ok (.istore 5, 2) := by decide +kernel
theorem dX6_readSeason_117 : decode cX6_readSeason 117 = .ok (.iload 5, 2) := by decide +kernel
theorem dX6_readSeason_119 : decode cX6_readSeason 119 = .ok (.iconst (-1), 1) := by decide +kernel
theorem dX6_readSeason_120 : decode cX6_readSeason 120 = .ok (.if_icmp .eq 28, 3) := by decide +kernel
theorem dX6_readSeason_123 : decode cX6_readSeason 123 = .ok (.aload_n 0, 1) := by decide +kernel
theorem dX6_readSeason_124 : decode cX6_readSeason 124 = .ok (.getfield 37, 3) := by decide +kernel
theorem dX6_readSeason_127 : decode cX6_readSeason 127 = .ok (.getfield 119, 3) := by decide +kernel
theorem dX6_readSeason_130 : decode cX6_readSeason 130 = .ok (.iload_n 1, 1) := by decide +kernel
theorem dX6_readSeason_131 : decode cX6_readSeason 131 = .ok (.iload_n 2, 1) := by decide +kernel
theorem dX6_readSeason_132 : decode cX6_readSeason 132 = .ok (.iload_n 3, 1) := by decide +kernel
theorem dX6_readSeason_133 : decode cX6_readSeason 133 = .ok (.iload 4, 2) := by decide +kernel
theorem dX6_readSeason_135 : decode cX6_readSeason 135 = .ok (.iload 5, 2) := by decide +kernel
theorem dX6_readSeason_137 : decode cX6_readSeason 137 = .ok (.invokevirtual 126, 3) := by decide +kernel
theorem dX6_readSeason_140 : decode cX6_readSeason 140 = .ok (.iconst (-1), 1) := by decide +kernel
theorem dX6_readSeason_141 : decode cX6_readSeason 141 = .ok (.if_icmp .eq 7, 3) := by decide +kernel
theorem dX6_readSeason_144 : decode cX6_readSeason 144 = .ok (.iconst 1, 1) := by decide +kernel
theorem dX6_readSeason_145 : decode cX6_readSeason 145 = .ok (.goto 4, 3) := by decide +kernel
theorem dX6_readSeason_148 : decode cX6_readSeason 148 = .ok (.iconst 0, 1) := by decide +kernel
theorem dX6_readSeason_149 : decode cX6_readSeason 149 = .ok (.ireturn, 1) := by decide +kernel
theorem dX6_readDay_0 : decode cX6_readDay 0 = .ok (.aload_n 0, 1) := by decide +kernel
theorem dX6_readDay_1 : decode cX6_readDay 1 = .ok (.invokevirtual 52, 3) := by decide +kernel
theorem dX6_readDay_4 : decode cX6_readDay 4 = .ok (.aload_n 0, 1) := by decide +kernel
theorem dX6_readDay_5 : decode cX6_readDay 5 = .ok (.iconst 0, 1) := by decide +kernel
theorem dX6_readDay_6 : decode cX6_readDay 6 = .ok (.sipush 999, 3) := by decide +kernel
theorem dX6_readDay_9 : decode cX6_readDay 9 = .ok (.invokevirtual 99, 3) := by decide +kernel
theorem dX6_readDay_12 : decode cX6_readDay 12 = .ok (.istore_n 1, 1) := by decide +kernel
theorem dX6_readDay_13 : decode cX6_readDay 13 = .ok (.iload_n 1, 1) := by decide +kernel
theorem dX6_readDay_14 : decode cX6_readDay 14 = .ok (.iconst (-1), 1) := by decide +kernel
theorem dX6_readDay_15 : decode cX6_readDay 15 = .ok (.if_icmp .ne 5, 3) := by decide +kernel
theorem dX6_readDay_18 : decode cX6_readDay 18 = .ok (.iconst 0, 1) := by decide +kernel
theorem dX6_readDay_19 : decode cX6_readDay 19 = .ok (.ireturn, 1) := by decide +kernel
theorem dX6_readDay_20 : decode cX6_readDay 20 = .ok (.aload_n 0, 1) := by decide +kernel
theorem dX6_readDay_21 : decode cX6_readDay 21 = .ok (.getfield 37, 3) := by decide +kernel
theorem dX6_readDay_24 : decode cX6_readDay 24 = .ok (.iload_n 1, 1) := by decide +kernel
theorem dX6_readDay_25 : decode cX6_readDay 25 = .ok (.putfield 129, 3) := by decide +kernel
theorem dX6_readDay_28 : decode cX6_readDay 28 = .ok (.iconst 1, 1) := by decide +kernel
theorem dX6_readDay_29 : decode cX6_readDay 29 = .ok (.ireturn, 1) := by decide +kernel
theorem dX6_readSemicolon_0 : decode cX6_readSemicolon 0 = .ok (.aload_n 0, 1) := by decide +kernel
theorem dX6_readSemicolon_1 : decode cX6_readSemicolon 1 = .ok (.getfield 15, 3) := by decide +kernel
theorem dX6_readSemicolon_4 : decode cX6_readSemicolon 4 = .ok (.iconst 3, 1) := by decide +kernel
theorem dX6_readSemicolon_5 : decode cX6_readSemicolon 5 = .ok (.if_icmp .eq 9, 3) := by decide +kernel
theorem dX6_readSemicolon_8 : decode cX6_readSemicolon 8 = .ok (.aload_n 0, 1) := by decide +kernel
theorem dX6_readSemicolon_9 : decode cX6_readSemicolon 9 = .ok (.iconst 1, 1) := by decide +kernel
theorem dX6_readSemicolon_10 : decode cX6_readSemicolon 10 = .ok (.invokevirtual 86, 3) := by decide +kernel
theorem dX6_readSemicolon_13 : decode cX6_readSemicolon 13 = .ok (.ireturn, 1) := by decide +kernel
theorem dX6_readSemicolon_14 : decode cX6_readSemicolon 14 = .ok (.aload_n 0, 1) := by decide +kernel
theorem dX6_readSemicolon_15 : decode cX6_readSemicolon 15 = .ok (.invokevirtual 52, 3) := by decide +kernel
theorem dX6_readSemicolon_18 : decode cX6_readSemicolon 18 = .ok (.iconst 1, 1) := by decide +kernel
theorem dX6_readSemicolon_19 : decode cX6_readSemicolon 19 = .ok (.ireturn, 1) := by decide +kernel
theorem dX6_readNumber_0 : decode cX6_readNumber 0 = .ok (.aload_n 0, 1) := by decide +kernel
theorem dX6_readNumber_1 : decode cX6_readNumber 1 = .ok (.getfield 15, 3) := by decide +kernel
theorem dX6_readNumber_4 : decode cX6_readNumber 4 = .ok (.iconst 2, 1) := by decide +kernel
theorem dX6_readNumber_5 : decode cX6_readNumber 5 = .ok (.if_icmp .eq 11, 3) := by decide +kernel
theorem dX6_readNumber_8 : decode cX6_readNumber 8 = .ok (.aload_n 0, 1) := by decide +kernel
theorem dX6_readNumber_9 : decode cX6_readNumber 9 = .ok (.iconst 1, 1) := by decide +kernel
theorem dX6_readNumber_10 : decode cX6_readNumber 10 = .ok (.invokevirtual 86, 3) := by decide +kernel
theorem dX6_readNumber_13 : decode cX6_readNumber 13 = .ok (.pop, 1) := by decide +kernel
theorem dX6_readNumber_14 : decode cX6_readNumber 14 = .ok (.iconst (-1), 1) := by decide +kernel
theorem dX6_readNumber_15 : decode cX6_readNumber 15 = .ok (.ireturn, 1) := by decide +kernel
theorem dX6_readNumber_16 : decode cX6_readNumber 16 = .ok (.aload_n 0, 1) := by decide +kernel
theorem dX6_readNumber_17 : decode cX6_readNumber 17 = .ok (.getfield 24, 3) := by decide +kernel
theorem dX6_readNumber_20 : decode cX6_readNumber 20 = .ok (.iload_n 1, 1) := by decide +kernel
theorem dX6_readNumber_21 : decode cX6_readNumber 21 = .ok (.if_icmp .lt 11, 3) := by decide +kernel
theorem dX6_readNumber_24 : decode cX6_readNumber 24 = .ok (.aload_n 0, 1) := by decide +kernel
theorem dX6_readNumber_25 : decode cX6_readNumber 25 = .ok (.getfield 24, 3) := by decide +kernel
theorem dX6_readNumber_28 : decode cX6_readNumber 28 = .ok (.iload_n 2, 1) := by decide +kernel
theorem dX6_readNumber_29 : decode cX6_readNumber 29 = .ok (.if_icmp .le 11, 3) := by decide +kernel
theorem dX6_readNumber_32 : decode cX6_readNumber 32 = .ok (.aload_n 0, 1) := by decide +kernel
theorem dX6_readNumber_33 : decode cX6_readNumber 33 = .ok (.iconst 2, 1) := by decide +kernel
theorem dX6_readNumber_34 : decode cX6_readNumber 34 = .ok (.invokevirtual 86, 3) := by decide +kernel
theorem dX6_readNumber_37 : decode cX6_readNumber 37 = .ok (.pop, 1) := by decide +kernel
theorem dX6_readNumber_38 : decode cX6_readNumber 38 = .ok (.iconst (-1), 1) := by decide +kernel
theorem dX6_readNumber_39 : decode cX6_readNumber 39 = .ok (.ireturn, 1) := by decide +kernel
theorem dX6_readNumber_40 : decode cX6_readNumber 40 = .ok (.aload_n 0, 1) := by decide +kernel
theorem dX6_readNumber_41 : decode cX6_readNumber 41 = .ok (.getfield 24, 3) := by decide +kernel
theorem dX6_readNumber_44 : decode cX6_readNumber 44 = .ok (.istore_n 3, 1) := by decide +kernel
theorem dX6_readNumber_45 : decode cX6_readNumber 45 = .ok (.aload_n 0, 1) := by decide +kernel
theorem dX6_readNumber_46 : decode cX6_readNumber 46 = .ok (.invokevirtual 52, 3) := by decide +kernel
theorem dX6_readNumber_49 : decode cX6_readNumber 49 = .ok (.iload_n 3, 1) := by decide +kernel
theorem dX6_readNumber_50 : decode cX6_readNumber 50 = .ok (.ireturn, 1) := by decide +kernel
theorem dX6_fail_0 : decode cX6_fail 0 = .ok (.aload_n 0, 1) := by decide +kernel
theorem dX6_fail_1 : decode cX6_fail 1 = .ok (.aload_n 0, 1) := by decide +kernel
theorem dX6_fail_2 : decode cX6_fail 2 = .ok (.getfield 18, 3) := by decide +kernel
theorem dX6_fail_5 : decode cX6_fail 5 = .ok (.iload_n 1, 1) := by decide +kernel
theorem dX6_fail_6 : decode cX6_fail 6 = .ok (.invokevirtual 115, 3) := by decide +kernel
theorem dX6_fail_9 : decode cX6_fail 9 = .ok (.ireturn, 1) := by decide +kernel
theorem dX6_failAt_0 : decode cX6_failAt 0 = .ok (.aload_n 0, 1) := by decide +kernel
theorem dX6_failAt_1 : decode cX6_failAt 1 = .ok (.iload_n 1, 1) := by decide +kernel
theorem dX6_failAt_2 : decode cX6_failAt 2 = .ok (.putfield 30, 3) := by decide +kernel
theorem dX6_failAt_5 : decode cX6_failAt 5 = .ok (.aload_n 0, 1) := by decide +kernel
theorem dX6_failAt_6 : decode cX6_failAt 6 = .ok (.iload_n 2, 1) := by decide +kernel
theorem dX6_failAt_7 : decode cX6_failAt 7 = .ok (.putfield 27, 3) := by decide +kernel
theorem dX6_failAt_10 : decode cX6_failAt 10 = .ok (.iconst 0, 1) := by decide +kernel
theorem dX6_failAt_11 : decode cX6_failAt 11 = .ok (.ireturn, 1) := by decide +kernel
theorem dX6_isWord_0 : decode cX6_isWord 0 = .ok (.aload_n 0, 1) := by decide +kernel
theorem dX6_isWord_1 : decode cX6_isWord 1 = .ok (.getfield 15, 3) := by decide +kernel
theorem dX6_isWord_4 : decode cX6_isWord 4 = .ok (.iconst 1, 1) := by decide +kernel
theorem dX6_isWord_5 : decode cX6_isWord 5 = .ok (.if_icmp .ne 19, 3) := by decide +kernel
theorem dX6_isWord_8 : decode cX6_isWord 8 = .ok (.aload_n 0, 1) := by decide +kernel
theorem dX6_isWord_9 : decode cX6_isWord 9 = .ok (.getfield 21, 3) := by decide +kernel
theorem dX6_isWord_12 : decode cX6_isWord 12 = .ok (.aload_n 0, 1) := by decide +kernel
theorem dX6_isWord_13 : decode cX6_isWord 13 = .ok (.getfield 18, 3) := by decide +kernel
theorem dX6_isWord_16 : decode cX6_isWord 16 = .ok (.isub, 1) := by decide +kernel
theorem dX6_isWord_17 : decode cX6_isWord 17 = .ok (.aload_n 1, 1) := by decide +kernel
theorem dX6_isWord_18 : decode cX6_isWord 18 = .ok (.invokevirtual 132, 3) := by decide +kernel
theorem dX6_isWord_21 : decode cX6_isWord 21 = .ok (.if_icmp .eq 5, 3) := by decide +kernel
theorem dX6_isWord_24 : decode cX6_isWord 24 = .ok (.iconst 0, 1) := by decide +kernel
theorem dX6_isWord_25 : decode cX6_isWord 25 = .ok (.ireturn, 1) := by decide +kernel
theorem dX6_isWord_26 : decode cX6_isWord 26 = .ok (.iconst 0, 1) := by decide +kernel
theorem dX6_isWord_27 : decode cX6_isWord 27 = .ok (.istore_n 2, 1) := by decide +kernel
theorem dX6_isWord_28 : decode cX6_isWord 28 = .ok (.iload_n 2, 1) := by decide +kernel
theorem dX6_isWord_29 : decode cX6_isWord 29 = .ok (.aload_n 1, 1) := by decide +kernel
theorem dX6_isWord_30 : decode cX6_isWord 30 = .ok (.invokevirtual 132, 3) := by decide +kernel
theorem dX6_isWord_33 : decode cX6_isWord 33 = .ok (.if_icmp .ge 30, 3) := by decide +kernel
theorem dX6_isWord_36 : decode cX6_isWord 36 = .ok (.aload_n 0, 1) := by decide +kernel
theorem dX6_isWord_37 : decode cX6_isWord 37 = .ok (.getfield 33, 3) := by decide +kernel
theorem dX6_isWord_40 : decode cX6_isWord 40 = .ok (.aload_n 0, 1) := by decide +kernel
theorem dX6_isWord_41 : decode cX6_isWord 41 = .ok (.getfield 18, 3) := by decide +kernel
theorem dX6_isWord_44 : decode cX6_isWord 44 = .ok (.iload_n 2, 1) := by decide +kernel
theorem dX6_isWord_45 : decode cX6_isWord 45 = .ok (.iadd, 1) := by decide +kernel
theorem dX6_isWord_46 : decode cX6_isWord 46 = .ok (.baload, 1) := by decide +kernel
theorem dX6_isWord_47 : decode cX6_isWord 47 = .ok (.aload_n 1, 1) := by decide +kernel
theorem dX6_isWord_48 : decode cX6_isWord 48 = .ok (.iload_n 2, 1) := by decide +kernel
theorem dX6_isWord_49 : decode cX6_isWord 49 = .ok (.invokevirtual 137, 3) := by decide +kernel
theorem dX6_isWord_52 : decode cX6_isWord 52 = .ok (.if_icmp .eq 5, 3) := by decide +kernel
theorem dX6_isWord_55 : decode cX6_isWord 55 = .ok (.iconst 0, 1) := by decide +kernel
theorem dX6_isWord_56 : decode cX6_isWord 56 = .ok (.ireturn, 1) := by decide +kernel
theorem dX6_isWord_57 : decode cX6_isWord 57 = .ok (.iinc 2 1, 3) := by decide +kernel
theorem dX6_isWord_60 : decode cX6_isWord 60 = .ok (.goto (-32), 3) := by decide +kernel
theorem dX6_isWord_63 : decode cX6_isWord 63 = .ok (.iconst 1, 1) := by decide +kernel
theorem dX6_isWord_64 : decode cX6_isWord 64 = .ok (.ireturn, 1) := by decide +kernel
theorem dX6_step_0 : decode cX6_step 0 = .ok (.aload_n 0, 1) := by decide +kernel
theorem dX6_step_1 : decode cX6_step 1 = .ok (.aload_n 0, 1) := by decide +kernel
theorem dX6_step_2 : decode cX6_step 2 = .ok (.getfield 21, 3) := by decide +kernel
theorem dX6_step_5 : decode cX6_step 5 = .ok (.putfield 18, 3) := by decide +kernel
theorem dX6_step_8 : decode cX6_step 8 = .ok (.aload_n 0, 1) := by decide +kernel
theorem dX6_step_9 : decode cX6_step 9 = .ok (.getfield 18, 3) := by decide +kernel
theorem dX6_step_12 : decode cX6_step 12 = .ok (.aload_n 0, 1) := by decide +kernel
theorem dX6_step_13 : decode cX6_step 13 = .ok (.getfield 9, 3) := by decide +kernel
theorem dX6_step_16 : decode cX6_step 16 = .ok (.if_icmp .ge 44, 3) := by decide +kernel
theorem dX6_step_19 : decode cX6_step 19 = .ok (.aload_n 0, 1) := by decide +kernel
theorem dX6_step_20 : decode cX6_step 20 = .ok (.getfield 33, 3) := by decide +kernel
theorem dX6_step_23 : decode cX6_step 23 = .ok (.aload_n 0, 1) := by decide +kernel
theorem dX6_step_24 : decode cX6_step 24 = .ok (.getfield 18, 3) := by decide +kernel
theorem dX6_step_27 : decode cX6_step 27 = .ok (.baload, 1) := by decide +kernel
theorem dX6_step_28 : decode cX6_step 28 = .ok (.bipush 32, 2) := by decide +kernel
theorem dX6_step_30 : decode cX6_step 30 = .ok (.if_icmp .eq 17, 3) := by decide +kernel
theorem dX6_step_33 : decode cX6_step 33 = .ok (.aload_n 0, 1) := by decide +kernel
theorem dX6_step_34 : decode cX6_step 34 = .ok (.getfield 33, 3) := by decide +kernel
theorem dX6_step_37 : decode cX6_step 37 = .ok (.aload_n 0, 1) := by decide +kernel
theorem dX6_step_38 : decode cX6_step 38 = .ok (.getfield 18, 3) := by decide +kernel
theorem dX6_step_41 : decode cX6_step 41 = .ok (.baload, 1) := by decide +kernel
theorem dX6_step_42 : decode cX6_step 42 = .ok (.bipush 10, 2) := by decide +kernel
theorem dX6_step_44 : decode cX6_step 44 = .ok (.if_icmp .ne 16, 3) := by decide +kernel
theorem dX6_step_47 : decode cX6_step 47 = .ok (.aload_n 0, 1) := by decide +kernel
theorem dX6_step_48 : decode cX6_step 48 = .ok (.dup, 1) := by decide +kernel
theorem dX6_step_49 : decode cX6_step 49 = .ok (.getfield 18, 3) := by decide +kernel
theorem dX6_step_52 : decode cX6_step 52 = .ok (.iconst 1, 1) := by decide +kernel
theorem dX6_step_53 : decode cX6_step 53 = .ok (.iadd, 1) := by decide +kernel
theorem dX6_step_54 : decode cX6_step 54 = .ok (.putfield 18, 3) := by decide +kernel
theorem dX6_step_57 : decode cX6_step 57 = .ok (.goto (-49), 3) := by decide +kernel
theorem dX6_step_60 : decode cX6_step 60 = .ok (.aload_n 0, 1) := by decide +kernel
theorem dX6_step_61 : decode cX6_step 61 = .ok (.aload_n 0, 1) := by decide +kernel
theorem dX6_step_62 : decode cX6_step 62 = .ok (.getfield 18, 3) := by decide +kernel
theorem dX6_step_65 : decode cX6_step 65 = .ok (.putfield 21, 3) := by decide +kernel
theorem dX6_step_68 : decode cX6_step 68 = .ok (.aload_n 0, 1) := by decide +kernel
theorem dX6_step_69 : decode cX6_step 69 = .ok (.getfield 18, 3) := by decide +kernel
theorem dX6_step_72 : decode cX6_step 72 = .ok (.aload_n 0, 1) := by decide +kernel
theorem dX6_step_73 : decode cX6_step 73 = .ok (.getfield 9, 3) := by decide +kernel
theorem dX6_step_76 : decode cX6_step 76 = .ok (.if_icmp .lt 11, 3) := by decide +kernel
theorem dX6_step_79 : decode cX6_step 79 = .ok (.aload_n 0, 1) := by decide +kernel
theorem dX6_step_80 : decode cX6_step 80 = .ok (.iconst 0, 1) := by decide +kernel
theorem dX6_step_81 : decode cX6_step 81 = .ok (.putfield 15, 3) := by decide +kernel
theorem dX6_step_84 : decode cX6_step 84 = .ok (.goto 188, 3) := by decide +kernel
theorem dX6_step_87 : decode cX6_step 87 = .ok (.aload_n 0, 1) := by decide +kernel
theorem dX6_step_88 : decode cX6_step 88 = .ok (.getfield 33, 3) := by decide +kernel
theorem dX6_step_91 : decode cX6_step 91 = .ok (.aload_n 0, 1) := by decide +kernel
theorem dX6_step_92 : decode cX6_step 92 = .ok (.getfield 18, 3) := by decide +kernel
theorem dX6_step_95 : decode cX6_step 95 = .ok (.baload, 1) := by decide +kernel
theorem dX6_step_96 : decode cX6_step 96 = .ok (.invokestatic 141, 3) := by decide +kernel
theorem dX6_step_99 : decode cX6_step 99 = .ok (.ifCond .eq 47, 3) := by decide +kernel
theorem dX6_step_102 : decode cX6_step 102 = .ok (.aload_n 0, 1) := by decide +kernel
theorem dX6_step_103 : decode cX6_step 103 = .ok (.iconst 1, 1) := by decide +kernel
theorem dX6_step_104 : decode cX6_step 104 = .ok (.putfield 15, 3) := by decide +kernel
theorem dX6_step_107 : decode cX6_step 107 = .ok (.aload_n 0, 1) := by decide +kernel
theorem dX6_step_108 : decode cX6_step 108 = .ok (.getfield 21, 3) := by decide +kernel
theorem dX6_step_111 : decode cX6_step 111 = .ok (.aload_n 0, 1) := by decide +kernel
theorem dX6_step_112 : decode cX6_step 112 = .ok (.getfield 9, 3) := by decide +kernel
theorem dX6_step_115 : decode cX6_step 115 = .ok (.if_icmp .ge 157, 3) := by decide +kernel
theorem dX6_step_118 : decode cX6_step 118 = .ok (.aload_n 0, 1) := by decide +kernel
theorem dX6_step_119 : decode cX6_step 119 = .ok (.getfield 33, 3) := by decide +kernel
theorem dX6_step_122 : decode cX6_step 122 = .ok (.aload_n 0, 1) := by decide +kernel
theorem dX6_step_123 : decode cX6_step 123 = .ok (.getfield 21, 3) := by decide +kernel
theorem dX6_step_126 : decode cX6_step 126 = .ok (.baload, 1) := by decide +kernel
theorem dX6_step_127 : decode cX6_step 127 = .ok (.invokestatic 141, 3) := by decide +kernel
theorem dX6_step_130 : decode cX6_step 130 = .ok (.ifCond .eq 142, 3) := by decide +kernel
theorem dX6_step_133 : decode cX6_step 133 = .ok (.aload_n 0, 1) := by decide +kernel
theorem dX6_step_134 : decode cX6_step 134 = .ok (.dup, 1) := by decide +kernel
theorem dX6_step_135 : decode cX6_step 135 = .ok (.getfield 21, 3) := by decide +kernel
theorem dX6_step_138 : decode cX6_step 138 = .ok (.iconst 1, 1) := by decide +kernel
theorem dX6_step_139 : decode cX6_step 139 = .ok (.iadd, 1) := by decide +kernel
theorem dX6_step_140 : decode cX6_step 140 = .ok (.putfield 21, 3) := by decide +kernel
theorem dX6_step_143 : decode cX6_step 143 = .ok (.goto (-36), 3) := by decide +kernel
theorem dX6_step_146 : decode cX6_step 146 = .ok (.aload_n 0, 1) := by decide +kernel
theorem dX6_step_147 : decode cX6_step 147 = .ok (.getfield 33, 3) := by decide +kernel
theorem dX6_step_150 : decode cX6_step 150 = .ok (.aload_n 0, 1) := by decide +kernel
theorem dX6_step_151 : decode cX6_step 151 = .ok (.getfield 18, 3) := by decide +kernel
theorem dX6_step_154 : decode cX6_step 154 = .ok (.baload, 1) := by decide +kernel
theorem dX6_step_155 : decode cX6_step 155 = .ok (.invokestatic 145, 3) := by decide +kernel
theorem dX6_step_158 : decode cX6_step 158 = .ok (.ifCond .eq 81, 3) := by decide +kernel
theorem dX6_step_161 : decode cX6_step 161 = .ok (.aload_n 0, 1) := by decide +kernel
theorem dX6_step_162 : decode cX6_step 162 = .ok (.iconst 2, 1) := by decide +kernel
theorem dX6_step_163 : decode cX6_step 163 = .ok (.putfield 15, 3) := by decide +kernel
theorem dX6_step_166 : decode cX6_step 166 = .ok (.aload_n 0, 1) := by decide +kernel
theorem dX6_step_167 : decode cX6_step 167 = .ok (.iconst 0, 1) := by decide +kernel
theorem dX6_step_168 : decode cX6_step 168 = .ok (.putfield 24, 3) := by decide +kernel
theorem dX6_step_171 : decode cX6_step 171 = .ok (.aload_n 0, 1) := by decide +kernel
theorem dX6_step_172 : decode cX6_step 172 = .ok (.getfield 21, 3) := by decide +kernel
theorem dX6_step_175 : decode cX6_step 175 = .ok (.aload_n 0, 1) := by decide +kernel
theorem dX6_step_176 : decode cX6_step 176 = .ok (.getfield 9, 3) := by decide +kernel
theorem dX6_step_179 : decode cX6_step 179 = .ok (.if_icmp .ge 93, 3) := by decide +kernel
theorem dX6_step_182 : decode cX6_step 182 = .ok (.aload_n 0, 1) := by decide +kernel
theorem dX6_step_183 : decode cX6_step 183 = .ok (.getfield 33, 3) := by decide +kernel
theorem dX6_step_186 : decode cX6_step 186 = .ok (.aload_n 0, 1) := by decide +kernel
theorem dX6_step_187 : decode cX6_step 187 = .ok (.getfield 21, 3) := by decide +kernel
theorem dX6_step_190 : decode cX6_step 190 = .ok (.baload, 1) := by decide +kernel
theorem dX6_step_191 : decode cX6_step 191 = .ok (.invokestatic 145, 3) := by decide +kernel
theorem dX6_step_194 : decode cX6_step 194 = .ok (.ifCond .eq 78, 3) := by decide +kernel
theorem dX6_step_197 : decode cX6_step 197 = .ok (.aload_n 0, 1) := by decide +kernel
theorem dX6_step_198 : decode cX6_step 198 = .ok (.aload_n 0, 1) := by decide +kernel
theorem dX6_step_199 : decode cX6_step 199 = .ok (.getfield 24, 3) := by decide +kernel
theorem dX6_step_202 : decode cX6_step 202 = .ok (.bipush 10, 2) := by decide +kernel
theorem dX6_step_204 : decode cX6_step 204 = .ok (.imul, 1) := by decide +kernel
theorem dX6_step_205 : decode cX6_step 205 = .ok (.aload_n 0, 1) := by decide +kernel
theorem dX6_step_206 : decode cX6_step 206 = .ok (.getfield 33, 3) := by decide +kernel
theorem dX6_step_209 : decode cX6_step 209 = .ok (.aload_n 0, 1) := by decide +kernel
theorem dX6_step_210 : decode cX6_step 210 = .ok (.getfield 21, 3) := by decide +kernel
theorem dX6_step_213 : decode cX6_step 213 = .ok (.baload, 1) := by decide +kernel
theorem dX6_step_214 : decode cX6_step 214 = .ok (.bipush 48, 2) := by decide +kernel
theorem dX6_step_216 : decode cX6_step 216 = .ok (.isub, 1) := by decide +kernel
theorem dX6_step_217 : decode cX6_step 217 = .ok (.iadd, 1) := by decide +kernel
theorem dX6_step_218 : decode cX6_step 218 = .ok (.ldc 148, 2) := by decide +kernel
theorem dX6_step_220 : decode cX6_step 220 = .ok (.invokestatic 41, 3) := by decide +kernel
theorem dX6_step_223 : decode cX6_step 223 = .ok (.putfield 24, 3) := by decide +kernel
theorem dX6_step_226 : decode cX6_step 226 = .ok (.aload_n 0, 1) := by decide +kernel
theorem dX6_step_227 : decode cX6_step 227 = .ok (.dup, 1) := by decide +kernel
theorem dX6_step_228 : decode cX6_step 228 = .ok (.getfield 21, 3) := by decide +kernel
theorem dX6_step_231 : decode cX6_step 231 = .ok (.iconst 1, 1) := by decide +kernel
theorem dX6_step_232 : decode cX6_step 232 = .ok (.iadd, 1) := by decide +kernel
theorem dX6_step_233 : decode cX6_step 233 = .ok (.putfield 21, 3) := by decide +kernel
theorem dX6_step_236 : decode cX6_step 236 = .ok (.goto (-65), 3) := by decide +kernel
theorem dX6_step_239 : decode cX6_step 239 = .ok (.aload_n 0, 1) := by decide +kernel
theorem dX6_step_240 : decode cX6_step 240 = .ok (.aload_n 0, 1) := by decide +kernel
theorem dX6_step_241 : decode cX6_step 241 = .ok (.getfield 33, 3) := by decide +kernel
theorem dX6_step_244 : decode cX6_step 244 = .ok (.aload_n 0, 1) := by decide +kernel
theorem dX6_step_245 : decode cX6_step 245 = .ok (.getfield 18, 3) := by decide +kernel
theorem dX6_step_248 : decode cX6_step 248 = .ok (.baload, 1) := by decide +kernel
theorem dX6_step_249 : decode cX6_step 249 = .ok (.bipush 59, 2) := by decide +kernel
theorem dX6_step_251 : decode cX6_step 251 = .ok (.if_icmp .ne 7, 3) := by decide +kernel
theorem dX6_step_254 : decode cX6_step 254 = .ok (.iconst 3, 1) := by decide +kernel
theorem dX6_step_255 : decode cX6_step 255 = .ok (.goto 4, 3) := by decide +kernel
theorem dX6_step_258 : decode cX6_step 258 = .ok (.iconst 4, 1) := by decide +kernel
theorem dX6_step_259 : decode cX6_step 259 = .ok (.putfield 15, 3) := by decide +kernel
theorem dX6_step_262 : decode cX6_step 262 = .ok (.aload_n 0, 1) := by decide +kernel
theorem dX6_step_263 : decode cX6_step 263 = .ok (.dup, 1) := by decide +kernel
theorem dX6_step_264 : decode cX6_step 264 = .ok (.getfield 21, 3) := by decide +kernel
theorem dX6_step_267 : decode cX6_step 267 = .ok (.iconst 1, 1) := by decide +kernel
theorem dX6_step_268 : decode cX6_step 268 = .ok (.iadd, 1) := by decide +kernel
theorem dX6_step_269 : decode cX6_step 269 = .ok (.putfield 21, 3) := by decide +kernel
theorem dX6_step_272 : decode cX6_step 272 = .ok (.return_, 1) := by decide +kernel
theorem dX6_isLetter_0 : decode cX6_isLetter 0 = .ok (.iload_n 0, 1) := by decide +kernel
theorem dX6_isLetter_1 : decode cX6_isLetter 1 = .ok (.bipush 97, 2) := by decide +kernel
theorem dX6_isLetter_3 : decode cX6_isLetter 3 = .ok (.if_icmp .lt 13, 3) := by decide +kernel
theorem dX6_isLetter_6 : decode cX6_isLetter 6 = .ok (.iload_n 0, 1) := by decide +kernel
theorem dX6_isLetter_7 : decode cX6_isLetter 7 = .ok (.bipush 122, 2) := by decide +kernel
theorem dX6_isLetter_9 : decode cX6_isLetter 9 = .ok (.if_icmp .gt 7, 3) := by decide +kernel
theorem dX6_isLetter_12 : decode cX6_isLetter 12 = .ok (.iconst 1, 1) := by decide +kernel
theorem dX6_isLetter_13 : decode cX6_isLetter 13 = .ok (.goto 4, 3) := by decide +kernel
theorem dX6_isLetter_16 : decode cX6_isLetter 16 = .ok (.iconst 0, 1) := by decide +kernel
theorem dX6_isLetter_17 : decode cX6_isLetter 17 = .ok (.ireturn, 1) := by decide +kernel
theorem dX6_isDigit_0 : decode cX6_isDigit 0 = .ok (.iload_n 0, 1) := by decide +kernel
theorem dX6_isDigit_1 : decode cX6_isDigit 1 = .ok (.bipush 48, 2) := by decide +kernel
theorem dX6_isDigit_3 : decode cX6_isDigit 3 = .ok (.if_icmp .lt 13, 3) := by decide +kernel
theorem dX6_isDigit_6 : decode cX6_isDigit 6 = .ok (.iload_n 0, 1) := by decide +kernel
theorem dX6_isDigit_7 : decode cX6_isDigit 7 = .ok (.bipush 57, 2) := by decide +kernel
theorem dX6_isDigit_9 : decode cX6_isDigit 9 = .ok (.if_icmp .gt 7, 3) := by decide +kernel
theorem dX6_isDigit_12 : decode cX6_isDigit 12 = .ok (.iconst 1, 1) := by decide +kernel
theorem dX6_isDigit_13 : decode cX6_isDigit 13 = .ok (.goto 4, 3) := by decide +kernel
theorem dX6_isDigit_16 : decode cX6_isDigit 16 = .ok (.iconst 0, 1) := by decide +kernel
theorem dX6_isDigit_17 : decode cX6_isDigit 17 = .ok (.ireturn, 1) := by decide +kernel
theorem dX7_init_0 : decode cX7_init 0 = .ok (.aload_n 0, 1) := by decide +kernel
theorem dX7_init_1 : decode cX7_init 1 = .ok (.invokespecial 3, 3) := by decide +kernel
theorem dX7_init_4 : decode cX7_init 4 = .ok (.aload_n 0, 1) := by decide +kernel
theorem dX7_init_5 : decode cX7_init 5 = .ok (.bipush 16, 2) := by decide +kernel
theorem dX7_init_7 : decode cX7_init 7 = .ok (.newarray .int, 2) := by decide +kernel
theorem dX7_init_9 : decode cX7_init 9 = .ok (.putfield 9, 3) := by decide +kernel
theorem dX7_init_12 : decode cX7_init 12 = .ok (.aload_n 0, 1) := by decide +kernel
theorem dX7_init_13 : decode cX7_init 13 = .ok (.bipush 16, 2) := by decide +kernel
theorem dX7_init_15 : decode cX7_init 15 = .ok (.newarray .int, 2) := by decide +kernel
theorem dX7_init_17 : decode cX7_init 17 = .ok (.putfield 15, 3) := by decide +kernel
theorem dX7_init_20 : decode cX7_init 20 = .ok (.aload_n 0, 1) := by decide +kernel
theorem dX7_init_21 : decode cX7_init 21 = .ok (.iconst 0, 1) := by decide +kernel
theorem dX7_init_22 : decode cX7_init 22 = .ok (.putfield 18, 3) := by decide +kernel
theorem dX7_init_25 : decode cX7_init 25 = .ok (.return_, 1) := by decide +kernel
theorem dX7_add_0 : decode cX7_add 0 = .ok (.aload_n 0, 1) := by decide +kernel
theorem dX7_add_1 : decode cX7_add 1 = .ok (.getfield 18, 3) := by decide +kernel
theorem dX7_add_4 : decode cX7_add 4 = .ok (.bipush 16, 2) := by decide +kernel
theorem dX7_add_6 : decode cX7_add 6 = .ok (.if_icmp .lt 5, 3) := by decide +kernel
theorem dX7_add_9 : decode cX7_add 9 = .ok (.iconst (-1), 1) := by decide +kernel
theorem dX7_add_10 : decode cX7_add 10 = .ok (.ireturn, 1) := by decide +kernel
theorem dX7_add_11 : decode cX7_add 11 = .ok (.aload_n 0, 1) := by decide +kernel
theorem dX7_add_12 : decode cX7_add 12 = .ok (.getfield 9, 3) := by decide +kernel
theorem dX7_add_15 : decode cX7_add 15 = .ok (.aload_n 0, 1) := by decide +kernel
theorem dX7_add_16 : decode cX7_add 16 = .ok (.getfield 18, 3) := by decide +kernel
theorem dX7_add_19 : decode cX7_add 19 = .ok (.iload_n 1, 1) := by decide +kernel
theorem dX7_add_20 : decode cX7_add 20 = .ok (.iastore, 1) := by decide +kernel
theorem dX7_add_21 : decode cX7_add 21 = .ok (.aload_n 0, 1) := by decide +kernel
theorem dX7_add_22 : decode cX7_add 22 = .ok (.getfield 15, 3) := by decide +kernel
theorem dX7_add_25 : decode cX7_add 25 = .ok (.aload_n 0, 1) := by decide +kernel
theorem dX7_add_26 : decode cX7_add 26 = .ok (.getfield 18, 3) := by decide +kernel
theorem dX7_add_29 : decode cX7_add 29 = .ok (.iconst 0, 1) := by decide +kernel
theorem dX7_add_30 : decode cX7_add 30 = .ok (.iastore, 1) := by decide +kernel
theorem dX7_add_31 : decode cX7_add 31 = .ok (.aload_n 0, 1) := by decide +kernel
theorem dX7_add_32 : decode cX7_add 32 = .ok (.dup, 1) := by decide +kernel
theorem dX7_add_33 : decode cX7_add 33 = .ok (.getfield 18, 3) := by decide +kernel
theorem dX7_add_36 : decode cX7_add 36 = .ok (.dup_x1, 1) := by decide +kernel
theorem dX7_add_37 : decode cX7_add 37 = .ok (.iconst 1, 1) := by decide +kernel
theorem dX7_add_38 : decode cX7_add 38 = .ok (.iadd, 1) := by decide +kernel
theorem dX7_add_39 : decode cX7_add 39 = .ok (.putfield 18, 3) := by decide +kernel
theorem dX7_add_42 : decode cX7_add 42 = .ok (.ireturn, 1) := by decide +kernel
theorem dX7_isClosed_0 : decode cX7_isClosed 0 = .ok (.aload_n 0, 1) := by decide +kernel
theorem dX7_isClosed_1 : decode cX7_isClosed 1 = .ok (.getfield 15, 3) := by decide +kernel
theorem dX7_isClosed_4 : decode cX7_isClosed 4 = .ok (.iload_n 1, 1) := by decide +kernel
theorem dX7_isClosed_5 : decode cX7_isClosed 5 = .ok (.iaload, 1) := by decide +kernel
theorem dX7_isClosed_6 : decode cX7_isClosed 6 = .ok (.iload_n 2, 1) := by decide +kernel
theorem dX7_isClosed_7 : decode cX7_isClosed 7 = .ok (.if_icmp .le 7, 3) := by decide +kernel
theorem dX7_isClosed_10 : decode cX7_isClosed 10 = .ok (.iconst 1, 1) := by decide +kernel
theorem dX7_isClosed_11 : decode cX7_isClosed 11 = .ok (.goto 4, 3) := by decide +kernel
theorem dX7_isClosed_14 : decode cX7_isClosed 14 = .ok (.iconst 0, 1) := by decide +kernel
theorem dX7_isClosed_15 : decode cX7_isClosed 15 = .ok (.ireturn, 1) := by decide +kernel
theorem dX7_countOpen_0 : decode cX7_countOpen 0 = .ok (.iconst 0, 1) := by decide +kernel
theorem dX7_countOpen_1 : decode cX7_countOpen 1 = .ok (.istore_n 3, 1) := by decide +kernel
theorem dX7_countOpen_2 : decode cX7_countOpen 2 = .ok (.iconst 0, 1) := by decide +kernel
theorem dX7_countOpen_3 : decode cX7_countOpen 3 = .ok (.istore 4, 2) := by decide +kernel
theorem dX7_countOpen_5 : decode cX7_countOpen 5 = .ok (.iload 4, 2) := by decide +kernel
theorem dX7_countOpen_7 : decode cX7_countOpen 7 = .ok (.aload_n 0, 1) := by decide +kernel
theorem dX7_countOpen_8 : decode cX7_countOpen 8 = .ok (.getfield 18, 3) := by decide +kernel
theorem dX7_countOpen_11 : decode cX7_countOpen 11 = .ok (.if_icmp .ge 34, 3) := by decide +kernel
theorem dX7_countOpen_14 : decode cX7_countOpen 14 = .ok (.aload_n 0, 1) := by decide +kernel
theorem dX7_countOpen_15 : decode cX7_countOpen 15 = .ok (.getfield 9, 3) := by decide +kernel
theorem dX7_countOpen_18 : decode cX7_countOpen 18 = .ok (.iload 4, 2) := by decide +kernel
theorem dX7_countOpen_20 : decode cX7_countOpen 20 = .ok (.iaload, 1) := by decide +kernel
theorem dX7_countOpen_21 : decode cX7_countOpen 21 = .ok (.iload_n 1, 1) := by decide +kernel
theorem dX7_countOpen_22 : decode cX7_countOpen 22 = .ok (.if_icmp .ne 17, 3) := by decide +kernel
theorem dX7_countOpen_25 : decode cX7_countOpen 25 = .ok (.aload_n 0, 1) := by decide +kernel
theorem dX7_countOpen_26 : decode cX7_countOpen 26 = .ok (.getfield 15, 3) := by decide +kernel
theorem dX7_countOpen_29 : decode cX7_countOpen 29 = .ok (.iload 4, 2) := by decide +kernel
theorem dX7_countOpen_31 : decode cX7_countOpen 31 = .ok (.iaload, 1) := by decide +kernel
theorem dX7_countOpen_32 : decode cX7_countOpen 32 = .ok (.iload_n 2, 1) := by decide +kernel
theorem dX7_countOpen_33 : decode cX7_countOpen 33 = .ok (.if_icmp .gt 6, 3) := by decide +kernel
theorem dX7_countOpen_36 : decode cX7_countOpen 36 = .ok (.iinc 3 1, 3) := by decide +kernel
theorem dX7_countOpen_39 : decode cX7_countOpen 39 = .ok (.iinc 4 1, 3) := by decide +kernel
theorem dX7_countOpen_42 : decode cX7_countOpen 42 = .ok (.goto (-37), 3) := by decide +kernel
theorem dX7_countOpen_45 : decode cX7_countOpen 45 = .ok (.iload_n 3, 1) := by decide +kernel
theorem dX7_countOpen_46 : decode cX7_countOpen 46 = .ok (.ireturn, 1) := by decide +kernel
theorem dX7_copyFrom_0 : decode cX7_copyFrom 0 = .ok (.aload_n 1, 1) := by decide +kernel
theorem dX7_copyFrom_1 : decode cX7_copyFrom 1 = .ok (.getfield 9, 3) := by decide +kernel
theorem dX7_copyFrom_4 : decode cX7_copyFrom 4 = .ok (.aload_n 0, 1) := by decide +kernel
theorem dX7_copyFrom_5 : decode cX7_copyFrom 5 = .ok (.getfield 9, 3) := by decide +kernel
theorem dX7_copyFrom_8 : decode cX7_copyFrom 8 = .ok (.invokestatic 22, 3) := by decide +kernel
theorem dX7_copyFrom_11 : decode cX7_copyFrom 11 = .ok (.aload_n 1, 1) := by decide +kernel
theorem dX7_copyFrom_12 : decode cX7_copyFrom 12 = .ok (.getfield 15, 3) := by decide +kernel
theorem dX7_copyFrom_15 : decode cX7_copyFrom 15 = .ok (.aload_n 0, 1) := by decide +kernel
theorem dX7_copyFrom_16 : decode cX7_copyFrom 16 = .ok (.getfield 15, 3) := by decide +kernel
theorem dX7_copyFrom_19 : decode cX7_copyFrom 19 = .ok (.invokestatic 22, 3) := by decide +kernel
theorem dX7_copyFrom_22 : decode cX7_copyFrom 22 = .ok (.aload_n 0, 1) := by decide +kernel
theorem dX7_copyFrom_23 : decode cX7_copyFrom 23 = .ok (.aload_n 1, 1) := by decide +kernel
theorem dX7_copyFrom_24 : decode cX7_copyFrom 24 = .ok (.getfield 18, 3) := by decide +kernel
theorem dX7_copyFrom_27 : decode cX7_copyFrom 27 = .ok (.putfield 18, 3) := by decide +kernel
theorem dX7_copyFrom_30 : decode cX7_copyFrom 30 = .ok (.return_, 1) := by decide +kernel
theorem dX8_init_0 : decode cX8_init 0 = .ok (.aload_n 0, 1) := by decide +kernel
theorem dX8_init_1 : decode cX8_init 1 = .ok (.invokespecial 3, 3) := by decide +kernel
theorem dX8_init_4 : decode cX8_init 4 = .ok (.aload_n 0, 1) := by decide +kernel
theorem dX8_init_5 : decode cX8_init 5 = .ok (.sipush 999, 3) := by decide +kernel
theorem dX8_init_8 : decode cX8_init 8 = .ok (.newarray .int, 2) := by decide +kernel
theorem dX8_init_10 : decode cX8_init 10 = .ok (.putfield 9, 3) := by decide +kernel
theorem dX8_init_13 : decode cX8_init 13 = .ok (.aload_n 0, 1) := by decide +kernel
theorem dX8_init_14 : decode cX8_init 14 = .ok (.iconst 0, 1) := by decide +kernel
theorem dX8_init_15 : decode cX8_init 15 = .ok (.putfield 15, 3) := by decide +kernel
theorem dX8_init_18 : decode cX8_init 18 = .ok (.aload_n 0, 1) := by decide +kernel
theorem dX8_init_19 : decode cX8_init 19 = .ok (.aload_n 1, 1) := by decide +kernel
theorem dX8_init_20 : decode cX8_init 20 = .ok (.putfield 19, 3) := by decide +kernel
theorem dX8_init_23 : decode cX8_init 23 = .ok (.return_, 1) := by decide +kernel
theorem dX8_turnTo_0 : decode cX8_turnTo 0 = .ok (.aload_n 0, 1) := by decide +kernel
theorem dX8_turnTo_1 : decode cX8_turnTo 1 = .ok (.iload_n 1, 1) := by decide +kernel
theorem dX8_turnTo_2 : decode cX8_turnTo 2 = .ok (.putfield 15, 3) := by decide +kernel
theorem dX8_turnTo_5 : decode cX8_turnTo 5 = .ok (.aload_n 0, 1) := by decide +kernel
theorem dX8_turnTo_6 : decode cX8_turnTo 6 = .ok (.getfield 9, 3) := by decide +kernel
theorem dX8_turnTo_9 : decode cX8_turnTo 9 = .ok (.iconst 0, 1) := by decide +kernel
theorem dX8_turnTo_10 : decode cX8_turnTo 10 = .ok (.invokestatic 23, 3) := by decide +kernel
theorem dX8_turnTo_13 : decode cX8_turnTo 13 = .ok (.return_, 1) := by decide +kernel
theorem dX8_isFree_0 : decode cX8_isFree 0 = .ok (.iload_n 1, 1) := by decide +kernel
theorem dX8_isFree_1 : decode cX8_isFree 1 = .ok (.ifCond .lt 10, 3) := by decide +kernel
theorem dX8_isFree_4 : decode cX8_isFree 4 = .ok (.iload_n 1, 1) := by decide +kernel
theorem dX8_isFree_5 : decode cX8_isFree 5 = .ok (.sipush 998, 3) := by decide +kernel
theorem dX8_isFree_8 : decode cX8_isFree 8 = .ok (.if_icmp .le 5, 3) := by decide +kernel
theorem dX8_isFree_11 : decode cX8_isFree 11 = .ok (.iconst 0, 1) := by decide +kernel
theorem dX8_isFree_12 : decode cX8_isFree 12 = .ok (.ireturn, 1) := by decide +kernel
theorem dX8_isFree_13 : decode cX8_isFree 13 = .ok (.aload_n 0, 1) := by decide +kernel
theorem dX8_isFree_14 : decode cX8_isFree 14 = .ok (.getfield 9, 3) := by decide +kernel
theorem dX8_isFree_17 : decode cX8_isFree 17 = .ok (.iload_n 1, 1) := by decide +kernel
theorem dX8_isFree_18 : decode cX8_isFree 18 = .ok (.iaload, 1) := by decide +kernel
theorem dX8_isFree_19 : decode cX8_isFree 19 = .ok (.ifCond .ne 60, 3) := by decide +kernel
theorem dX8_isFree_22 : decode cX8_isFree 22 = .ok (.aload_n 0, 1) := by decide +kernel
theorem dX8_isFree_23 : decode cX8_isFree 23 = .ok (.getfield 19, 3) := by decide +kernel
theorem dX8_isFree_26 : decode cX8_isFree 26 = .ok (.aload_n 0, 1) := by decide +kernel
theorem dX8_isFree_27 : decode cX8_isFree 27 = .ok (.getfield 15, 3) := by decide +kernel
theorem dX8_isFree_30 : decode cX8_isFree 30 = .ok (.iload_n 1, 1) := by decide +kernel
theorem dX8_isFree_31 : decode cX8_isFree 31 = .ok (.invokevirtual 29, 3) := by decide +kernel
theorem dX8_isFree_34 : decode cX8_isFree 34 = .ok (.istore_n 2, 1) := by decide +kernel
theorem dX8_isFree_35 : decode cX8_isFree 35 = .ok (.iload_n 2, 1) := by decide +kernel
theorem dX8_isFree_36 : decode cX8_isFree 36 = .ok (.ifCond .le 26, 3) := by decide +kernel
theorem dX8_isFree_39 : decode cX8_isFree 39 = .ok (.iload_n 2, 1) := by decide +kernel
theorem dX8_isFree_40 : decode cX8_isFree 40 = .ok (.aload_n 0, 1) := by decide +kernel
theorem dX8_isFree_41 : decode cX8_isFree 41 = .ok (.getfield 19, 3) := by decide +kernel
theorem dX8_isFree_44 : decode cX8_isFree 44 = .ok (.getfield 35, 3) := by decide +kernel
theorem dX8_isFree_47 : decode cX8_isFree 47 = .ok (.aload_n 0, 1) := by decide +kernel
theorem dX8_isFree_48 : decode cX8_isFree 48 = .ok (.getfield 15, 3) := by decide +kernel
theorem dX8_isFree_51 : decode cX8_isFree 51 = .ok (.iload_n 1, 1) := by decide +kernel
theorem dX8_isFree_52 : decode cX8_isFree 52 = .ok (.invokevirtual 39, 3) := by decide +kernel
theorem dX8_isFree_55 : decode cX8_isFree 55 = .ok (.if_icmp .le 7, 3) := by decide +kernel
theorem dX8_isFree_58 : decode cX8_isFree 58 = .ok (.iconst 1, 1) := by decide +kernel
theorem dX8_isFree_59 : decode cX8_isFree 59 = .ok (.goto 4, 3) := by decide +kernel
theorem dX8_isFree_62 : decode cX8_isFree 62 = .ok (.iconst 0, 1) := by decide +kernel
theorem dX8_isFree_63 : decode cX8_isFree 63 = .ok (.istore_n 3, 1) := by decide +kernel
theorem dX8_isFree_64 : decode cX8_isFree 64 = .ok (.aload_n 0, 1) := by decide +kernel
theorem dX8_isFree_65 : decode cX8_isFree 65 = .ok (.getfield 9, 3) := by decide +kernel
theorem dX8_isFree_68 : decode cX8_isFree 68 = .ok (.iload_n 1, 1) := by decide +kernel
theorem dX8_isFree_69 : decode cX8_isFree 69 = .ok (.iload_n 3, 1) := by decide +kernel
theorem dX8_isFree_70 : decode cX8_isFree 70 = .ok (.ifCond .eq 7, 3) := by decide +kernel
theorem dX8_isFree_73 : decode cX8_isFree 73 = .ok (.iconst 1, 1) := by decide +kernel
theorem dX8_isFree_74 : decode cX8_isFree 74 = .ok (.goto 4, 3) := by decide +kernel
theorem dX8_isFree_77 : decode cX8_isFree 77 = .ok (.iconst 2, 1) := by decide +kernel
theorem dX8_isFree_78 : decode cX8_isFree 78 = .ok (.iastore, 1) := by decide +kernel
theorem dX8_isFree_79 : decode cX8_isFree 79 = .ok (.aload_n 0, 1) := by decide +kernel
theorem dX8_isFree_80 : decode cX8_isFree 80 = .ok (.getfield 9, 3) := by decide +kernel
theorem dX8_isFree_83 : decode cX8_isFree 83 = .ok (.iload_n 1, 1) := by decide +kernel
theorem dX8_isFree_84 : decode cX8_isFree 84 = .ok (.iaload, 1) := by decide +kernel
theorem dX8_isFree_85 : decode cX8_isFree 85 = .ok (.iconst 1, 1) := by decide +kernel
theorem dX8_isFree_86 : decode cX8_isFree 86 = .ok (.if_icmp .ne 7, 3) := by decide +kernel
theorem dX8_isFree_89 : decode cX8_isFree 89 = .ok (.iconst 1, 1) := by decide +kernel
theorem dX8_isFree_90 : decode cX8_isFree 90 = .ok (.goto 4, 3) := by decide +kernel
theorem dX8_isFree_93 : decode cX8_isFree 93 = .ok (.iconst 0, 1) := by decide +kernel
theorem dX8_isFree_94 : decode cX8_isFree 94 = .ok (.ireturn, 1) := by decide +kernel
theorem dX8_leavesWindow_0 : decode cX8_leavesWindow 0 = .ok (.iload_n 1, 1) := by decide +kernel
theorem dX8_leavesWindow_1 : decode cX8_leavesWindow 1 = .ok (.aload_n 0, 1) := by decide +kernel
theorem dX8_leavesWindow_2 : decode cX8_leavesWindow 2 = .ok (.getfield 19, 3) := by decide +kernel
theorem dX8_leavesWindow_5 : decode cX8_leavesWindow 5 = .ok (.getfield 44, 3) := by decide +kernel
theorem dX8_leavesWindow_8 : decode cX8_leavesWindow 8 = .ok (.if_icmp .lt 10, 3) := by decide +kernel
theorem dX8_leavesWindow_11 : decode cX8_leavesWindow 11 = .ok (.iload_n 1, 1) := by decide +kernel
theorem dX8_leavesWindow_12 : decode cX8_leavesWindow 12 = .ok (.sipush 998, 3) := by decide +kernel
theorem dX8_leavesWindow_15 : decode cX8_leavesWindow 15 = .ok (.if_icmp .le 5, 3) := by decide +kernel
theorem dX8_leavesWindow_18 : decode cX8_leavesWindow 18 = .ok (.iconst 1, 1) := by decide +kernel
theorem dX8_leavesWindow_19 : decode cX8_leavesWindow 19 = .ok (.ireturn, 1) := by decide +kernel
theorem dX8_leavesWindow_20 : decode cX8_leavesWindow 20 = .ok (.iload_n 1, 1) := by decide +kernel
theorem dX8_leavesWindow_21 : decode cX8_leavesWindow 21 = .ok (.iload_n 2, 1) := by decide +kernel
theorem dX8_leavesWindow_22 : decode cX8_leavesWindow 22 = .ok (.iadd, 1) := by decide +kernel
theorem dX8_leavesWindow_23 : decode cX8_leavesWindow 23 = .ok (.iconst 1, 1) := by decide +kernel
theorem dX8_leavesWindow_24 : decode cX8_leavesWindow 24 = .ok (.isub, 1) := by decide +kernel
theorem dX8_leavesWindow_25 : decode cX8_leavesWindow 25 = .ok (.istore_n 3, 1) := by decide +kernel
theorem dX8_leavesWindow_26 : decode cX8_leavesWindow 26 = .ok (.iload_n 3, 1) := by decide +kernel
theorem dX8_leavesWindow_27 : decode cX8_leavesWindow 27 = .ok (.sipush 998, 3) := by decide +kernel
theorem dX8_leavesWindow_30 : decode cX8_leavesWindow 30 = .ok (.if_icmp .gt 29, 3) := by decide +kernel
theorem dX8_leavesWindow_33 : decode cX8_leavesWindow 33 = .ok (.iload_n 3, 1) := by decide +kernel
theorem dX8_leavesWindow_34 : decode cX8_leavesWindow 34 = .ok (.aload_n 0, 1) := by decide +kernel
theorem dX8_leavesWindow_35 : decode cX8_leavesWindow 35 = .ok (.getfield 19, 3) := by decide +kernel
theorem dX8_leavesWindow_38 : decode cX8_leavesWindow 38 = .ok (.getfield 44, 3) := by decide +kernel
theorem dX8_leavesWindow_41 : decode cX8_leavesWindow 41 = .ok (.isub, 1) := by decide +kernel
theorem dX8_leavesWindow_42 : decode cX8_leavesWindow 42 = .ok (.aload_n 0, 1) := by decide +kernel
theorem dX8_leavesWindow_43 : decode cX8_leavesWindow 43 = .ok (.getfield 19, 3) := by decide +kernel
theorem dX8_leavesWindow_46 : decode cX8_leavesWindow 46 = .ok (.getfield 47, 3) := by decide +kernel
theorem dX8_leavesWindow_49 : decode cX8_leavesWindow 49 = .ok (.aload_n 0, 1) := by decide +kernel
theorem dX8_leavesWindow_50 : decode cX8_leavesWindow 50 = .ok (.getfield 15, 3) := by decide +kernel
theorem dX8_leavesWindow_53 : decode cX8_leavesWindow 53 = .ok (.invokevirtual 51, 3) := by decide +kernel
theorem dX8_leavesWindow_56 : decode cX8_leavesWindow 56 = .ok (.if_icmp .le 7, 3) := by decide +kernel
theorem dX8_leavesWindow_59 : decode cX8_leavesWindow 59 = .ok (.iconst 1, 1) := by decide +kernel
theorem dX8_leavesWindow_60 : decode cX8_leavesWindow 60 = .ok (.goto 4, 3) := by decide +kernel
theorem dX8_leavesWindow_63 : decode cX8_leavesWindow 63 = .ok (.iconst 0, 1) := by decide +kernel
theorem dX8_leavesWindow_64 : decode cX8_leavesWindow 64 = .ok (.ireturn, 1) := by decide +kernel
theorem dX8_obstacleToNights_0 : decode cX8_obstacleToNights 0 = .ok (.aload_n 0, 1) := by decide +kernel
theorem dX8_obstacleToNights_1 : decode cX8_obstacleToNights 1 = .ok (.iload_n 1, 1) := by decide +kernel
theorem dX8_obstacleToNights_2 : decode cX8_obstacleToNights 2 = .ok (.iload_n 2, 1) := by decide +kernel
theorem dX8_obstacleToNights_3 : decode cX8_obstacleToNights 3 = .ok (.invokevirtual 57, 3) := by decide +kernel
theorem dX8_obstacleToNights_6 : decode cX8_obstacleToNights 6 = .ok (.ifCond .eq 5, 3) := by decide +kernel
theorem dX8_obstacleToNights_9 : decode cX8_obstacleToNights 9 = .ok (.iconst 1, 1) := by decide +kernel
theorem dX8_obstacleToNights_10 : decode cX8_obstacleToNights 10 = .ok (.ireturn, 1) := by decide +kernel
theorem dX8_obstacleToNights_11 : decode cX8_obstacleToNights 11 = .ok (.iload_n 1, 1) := by decide +kernel
theorem dX8_obstacleToNights_12 : decode cX8_obstacleToNights 12 = .ok (.istore_n 3, 1) := by decide +kernel
theorem dX8_obstacleToNights_13 : decode cX8_obstacleToNights 13 = .ok (.iload_n 3, 1) := by decide +kernel
theorem dX8_obstacleToNights_14 : decode cX8_obstacleToNights 14 = .ok (.iload_n 1, 1) := by decide +kernel
theorem dX8_obstacleToNights_15 : decode cX8_obstacleToNights 15 = .ok (.iload_n 2, 1) := by decide +kernel
theorem dX8_obstacleToNights_16 : decode cX8_obstacleToNights 16 = .ok (.iadd, 1) := by decide +kernel
theorem dX8_obstacleToNights_17 : decode cX8_obstacleToNights 17 = .ok (.if_icmp .ge 19, 3) := by decide +kernel
theorem dX8_obstacleToNights_20 : decode cX8_obstacleToNights 20 = .ok (.aload_n 0, 1) := by decide +kernel
theorem dX8_obstacleToNights_21 : decode cX8_obstacleToNights 21 = .ok (.iload_n 3, 1) := by decide +kernel
theorem dX8_obstacleToNights_22 : decode cX8_obstacleToNights 22 = .ok (.invokevirtual 61, 3) := by decide +kernel
theorem dX8_obstacleToNights_25 : decode cX8_obstacleToNights 25 = .ok (.ifCond .ne 5, 3) := by decide +kernel
theorem dX8_obstacleToNights_28 : decode cX8_obstacleToNights 28 = .ok (.iconst 2, 1) := by decide +kernel
theorem dX8_obstacleToNights_29 : decode cX8_obstacleToNights 29 = .ok (.ireturn, 1) := by decide +kernel
theorem dX8_obstacleToNights_30 : decode cX8_obstacleToNights 30 = .ok (.iinc 3 1, 3) := by decide +kernel
theorem dX8_obstacleToNights_33 : decode cX8_obstacleToNights 33 = .ok (.goto (-20), 3) := by decide +kernel
theorem dX8_obstacleToNights_36 : decode cX8_obstacleToNights 36 = .ok (.iconst 0, 1) := by decide +kernel
theorem dX8_obstacleToNights_37 : decode cX8_obstacleToNights 37 = .ok (.ireturn, 1) := by decide +kernel
theorem dX8_obstacleToStay_0 : decode cX8_obstacleToStay 0 = .ok (.aload_n 0, 1) := by decide +kernel
theorem dX8_obstacleToStay_1 : decode cX8_obstacleToStay 1 = .ok (.iload_n 1, 1) := by decide +kernel
theorem dX8_obstacleToStay_2 : decode cX8_obstacleToStay 2 = .ok (.iload_n 2, 1) := by decide +kernel
theorem dX8_obstacleToStay_3 : decode cX8_obstacleToStay 3 = .ok (.invokevirtual 65, 3) := by decide +kernel
theorem dX8_obstacleToStay_6 : decode cX8_obstacleToStay 6 = .ok (.istore_n 3, 1) := by decide +kernel
theorem dX8_obstacleToStay_7 : decode cX8_obstacleToStay 7 = .ok (.iload_n 3, 1) := by decide +kernel
theorem dX8_obstacleToStay_8 : decode cX8_obstacleToStay 8 = .ok (.ifCond .ne 22, 3) := by decide +kernel
theorem dX8_obstacleToStay_11 : decode cX8_obstacleToStay 11 = .ok (.iload_n 2, 1) := by decide +kernel
theorem dX8_obstacleToStay_12 : decode cX8_obstacleToStay 12 = .ok (.aload_n 0, 1) := by decide +kernel
theorem dX8_obstacleToStay_13 : decode cX8_obstacleToStay 13 = .ok (.getfield 19, 3) := by decide +kernel
theorem dX8_obstacleToStay_16 : decode cX8_obstacleToStay 16 = .ok (.getfield 68, 3) := by decide +kernel
theorem dX8_obstacleToStay_19 : decode cX8_obstacleToStay 19 = .ok (.aload_n 0, 1) := by decide +kernel
theorem dX8_obstacleToStay_20 : decode cX8_obstacleToStay 20 = .ok (.getfield 15, 3) := by decide +kernel
theorem dX8_obstacleToStay_23 : decode cX8_obstacleToStay 23 = .ok (.iload_n 1, 1) := by decide +kernel
theorem dX8_obstacleToStay_24 : decode cX8_obstacleToStay 24 = .ok (.invokevirtual 72, 3) := by decide +kernel
theorem dX8_obstacleToStay_27 : decode cX8_obstacleToStay 27 = .ok (.if_icmp .lt 5, 3) := by decide +kernel
theorem dX8_obstacleToStay_30 : decode cX8_obstacleToStay 30 = .ok (.iload_n 3, 1) := by decide +kernel
theorem dX8_obstacleToStay_31 : decode cX8_obstacleToStay 31 = .ok (.ireturn, 1) := by decide +kernel
theorem dX8_obstacleToStay_32 : decode cX8_obstacleToStay 32 = .ok (.aload_n 0, 1) := by decide +kernel
theorem dX8_obstacleToStay_33 : decode cX8_obstacleToStay 33 = .ok (.iload_n 1, 1) := by decide +kernel
theorem dX8_obstacleToStay_34 : decode cX8_obstacleToStay 34 = .ok (.iconst 1, 1) := by decide +kernel
theorem dX8_obstacleToStay_35 : decode cX8_obstacleToStay 35 = .ok (.isub, 1) := by decide +kernel
theorem dX8_obstacleToStay_36 : decode cX8_obstacleToStay 36 = .ok (.invokevirtual 61, 3) := by decide +kernel
theorem dX8_obstacleToStay_39 : decode cX8_obstacleToStay 39 = .ok (.ifCond .ne 17, 3) := by decide +kernel
theorem dX8_obstacleToStay_42 : decode cX8_obstacleToStay 42 = .ok (.aload_n 0, 1) := by decide +kernel
theorem dX8_obstacleToStay_43 : decode cX8_obstacleToStay 43 = .ok (.iload_n 1, 1) := by decide +kernel
theorem dX8_obstacleToStay_44 : decode cX8_obstacleToStay 44 = .ok (.iload_n 2, 1) := by decide +kernel
theorem dX8_obstacleToStay_45 : decode cX8_obstacleToStay 45 = .ok (.iadd, 1) := by decide +kernel
theorem dX8_obstacleToStay_46 : decode cX8_obstacleToStay 46 = .ok (.invokevirtual 61, 3) := by decide +kernel
theorem dX8_obstacleToStay_49 : decode cX8_obstacleToStay 49 = .ok (.ifCond .ne 7, 3) := by decide +kernel
theorem dX8_obstacleToStay_52 : decode cX8_obstacleToStay 52 = .ok (.iconst 1, 1) := by decide +kernel
theorem dX8_obstacleToStay_53 : decode cX8_obstacleToStay 53 = .ok (.goto 4, 3) := by decide +kernel
theorem dX8_obstacleToStay_56 : decode cX8_obstacleToStay 56 = .ok (.iconst 0, 1) := by decide +kernel
theorem dX8_obstacleToStay_57 : decode cX8_obstacleToStay 57 = .ok (.istore 4, 2) := by decide +kernel
theorem dX8_obstacleToStay_59 : decode cX8_obstacleToStay 59 = .ok (.iload 4, 2) := by decide +kernel
theorem dX8_obstacleToStay_61 : decode cX8_obstacleToStay 61 = .ok (.ifCond .eq 7, 3) := by decide +kernel
theorem dX8_obstacleToStay_64 : decode cX8_obstacleToStay 64 = .ok (.iconst 0, 1) := by decide +kernel
theorem dX8_obstacleToStay_65 : decode cX8_obstacleToStay 65 = .ok (.goto 4, 3) := by decide +kernel
theorem dX8_obstacleToStay_68 : decode cX8_obstacleToStay 68 = .ok (.iconst 3, 1) := by decide +kernel
theorem dX8_obstacleToStay_69 : decode cX8_obstacleToStay 69 = .ok (.ireturn, 1) := by decide +kernel
theorem dX9_init_0 : decode cX9_init 0 = .ok (.aload_n 0, 1) := by decide +kernel
theorem dX9_init_1 : decode cX9_init 1 = .ok (.invokespecial 1, 3) := by decide +kernel
theorem dX9_init_4 : decode cX9_init 4 = .ok (.aload_n 0, 1) := by decide +kernel
theorem dX9_init_5 : decode cX9_init 5 = .ok (.new 7, 3) := by decide +kernel
theorem dX9_init_8 : decode cX9_init 8 = .ok (.dup, 1) := by decide +kernel
theorem dX9_init_9 : decode cX9_init 9 = .ok (.invokespecial 9, 3) := by decide +kernel
theorem dX9_init_12 : decode cX9_init 12 = .ok (.putfield 10, 3) := by decide +kernel
theorem dX9_init_15 : decode cX9_init 15 = .ok (.aload_n 0, 1) := by decide +kernel
theorem dX9_init_16 : decode cX9_init 16 = .ok (.new 7, 3) := by decide +kernel
theorem dX9_init_19 : decode cX9_init 19 = .ok (.dup, 1) := by decide +kernel
theorem dX9_init_20 : decode cX9_init 20 = .ok (.invokespecial 9, 3) := by decide +kernel
theorem dX9_init_23 : decode cX9_init 23 = .ok (.putfield 16, 3) := by decide +kernel
theorem dX9_init_26 : decode cX9_init 26 = .ok (.aload_n 0, 1) := by decide +kernel
theorem dX9_init_27 : decode cX9_init 27 = .ok (.iconst 2, 1) := by decide +kernel
theorem dX9_init_28 : decode cX9_init 28 = .ok (.anewarray 7, 3) := by decide +kernel
theorem dX9_init_31 : decode cX9_init 31 = .ok (.putfield 19, 3) := by decide +kernel
theorem dX9_init_34 : decode cX9_init 34 = .ok (.aload_n 0, 1) := by decide +kernel
theorem dX9_init_35 : decode cX9_init 35 = .ok (.new 23, 3) := by decide +kernel
theorem dX9_init_38 : decode cX9_init 38 = .ok (.dup, 1) := by decide +kernel
theorem dX9_init_39 : decode cX9_init 39 = .ok (.aload_n 0, 1) := by decide +kernel
theorem dX9_init_40 : decode cX9_init 40 = .ok (.getfield 10, 3) := by decide +kernel
theorem dX9_init_43 : decode cX9_init 43 = .ok (.invokespecial 25, 3) := by decide +kernel
theorem dX9_init_46 : decode cX9_init 46 = .ok (.putfield 28, 3) := by decide +kernel
theorem dX9_init_49 : decode cX9_init 49 = .ok (.aload_n 0, 1) := by decide +kernel
theorem dX9_init_50 : decode cX9_init 50 = .ok (.new 32, 3) := by decide +kernel
theorem dX9_init_53 : decode cX9_init 53 = .ok (.dup, 1) := by decide +kernel
theorem dX9_init_54 : decode cX9_init 54 = .ok (.aload_n 0, 1) := by decide +kernel
theorem dX9_init_55 : decode cX9_init 55 = .ok (.getfield 10, 3) := by decide +kernel
theorem dX9_init_58 : decode cX9_init 58 = .ok (.invokespecial 34, 3) := by decide +kernel
theorem dX9_init_61 : decode cX9_init 61 = .ok (.putfield 35, 3) := by decide +kernel
theorem dX9_init_64 : decode cX9_init 64 = .ok (.aload_n 0, 1) := by decide +kernel
theorem dX9_init_65 : decode cX9_init 65 = .ok (.sipush 500, 3) := by decide +kernel
theorem dX9_init_68 : decode cX9_init 68 = .ok (.newarray .byte, 2) := by decide +kernel
theorem dX9_init_70 : decode cX9_init 70 = .ok (.putfield 39, 3) := by decide +kernel
theorem dX9_init_73 : decode cX9_init 73 = .ok (.aload_n 0, 1) := by decide +kernel
theorem dX9_init_74 : decode cX9_init 74 = .ok (.new 43, 3) := by decide +kernel
theorem dX9_init_77 : decode cX9_init 77 = .ok (.dup, 1) := by decide +kernel
theorem dX9_init_78 : decode cX9_init 78 = .ok (.aload_n 0, 1) := by decide +kernel
theorem dX9_init_79 : decode cX9_init 79 = .ok (.getfield 39, 3) := by decide +kernel
theorem dX9_init_82 : decode cX9_init 82 = .ok (.aload_n 0, 1) := by decide +kernel
theorem dX9_init_83 : decode cX9_init 83 = .ok (.getfield 16, 3) := by decide +kernel
theorem dX9_init_86 : decode cX9_init 86 = .ok (.invokespecial 45, 3) := by decide +kernel
theorem dX9_init_89 : decode cX9_init 89 = .ok (.putfield 48, 3) := by decide +kernel
theorem dX9_init_92 : decode cX9_init 92 = .ok (.aload_n 0, 1) := by decide +kernel
theorem dX9_init_93 : decode cX9_init 93 = .ok (.iconst 0, 1) := by decide +kernel
theorem dX9_init_94 : decode cX9_init 94 = .ok (.putfield 52, 3) := by decide +kernel
theorem dX9_init_97 : decode cX9_init 97 = .ok (.return_, 1) := by decide +kernel
theorem dX9_addClass_0 : decode cX9_addClass 0 = .ok (.iload_n 1, 1) := by decide +kernel
theorem dX9_addClass_1 : decode cX9_addClass 1 = .ok (.iconst 1, 1) := by decide +kernel
theorem dX9_addClass_2 : decode cX9_addClass 2 = .ok (.sipush 200, 3) := by decide +kernel
theorem dX9_addClass_5 : decode cX9_addClass 5 = .ok (.invokestatic 56, 3) := by decide +kernel
theorem dX9_addClass_8 : decode cX9_addClass 8 = .ok (.iload_n 2, 1) := by decide +kernel
theorem dX9_addClass_9 : decode cX9_addClass 9 = .ok (.iconst 0, 1) := by decide +kernel
theorem dX9_addClass_10 : decode cX9_addClass 10 = .ok (.iload_n 1, 1) := by decide +kernel
theorem dX9_addClass_11 : decode cX9_addClass 11 = .ok (.invokestatic 56, 3) := by decide +kernel
theorem dX9_addClass_14 : decode cX9_addClass 14 = .ok (.iload_n 3, 1) := by decide +kernel
theorem dX9_addClass_15 : decode cX9_addClass 15 = .ok (.iconst 0, 1) := by decide +kernel
theorem dX9_addClass_16 : decode cX9_addClass 16 = .ok (.bipush 16, 2) := by decide +kernel
theorem dX9_addClass_18 : decode cX9_addClass 18 = .ok (.invokestatic 56, 3) := by decide +kernel
theorem dX9_addClass_21 : decode cX9_addClass 21 = .ok (.aload_n 0, 1) := by decide +kernel
theorem dX9_addClass_22 : decode cX9_addClass 22 = .ok (.getfield 10, 3) := by decide +kernel
theorem dX9_addClass_25 : decode cX9_addClass 25 = .ok (.getfield 60, 3) := by decide +kernel
theorem dX9_addClass_28 : decode cX9_addClass 28 = .ok (.getfield 64, 3) := by decide +kernel
theorem dX9_addClass_31 : decode cX9_addClass 31 = .ok (.iconst 4, 1) := by decide +kernel
theorem dX9_addClass_32 : decode cX9_addClass 32 = .ok (.if_icmp .lt 13, 3) := by decide +kernel
theorem dX9_addClass_35 : decode cX9_addClass 35 = .ok (.new 69, 3) := by decide +kernel
theorem dX9_addClass_38 : decode cX9_addClass 38 = .ok (.dup, 1) := by decide +kernel
theorem dX9_addClass_39 : decode cX9_addClass 39 = .ok (.ldc 71, 2) := by decide +kernel
theorem dX9_addClass_41 : decode cX9_addClass 41 = .ok (.invokespecial 73, 3) := by decide +kernel
theorem dX9_addClass_44 : decode cX9_addClass 44 = .ok (.athrow, 1) := by decide +kernel
theorem dX9_addClass_45 : decode cX9_addClass 45 = .ok (.aload_n 0, 1) := by decide +kernel
theorem dX9_addClass_46 : decode cX9_addClass 46 = .ok (.getfield 10, 3) := by decide +kernel
theorem dX9_addClass_49 : decode cX9_addClass 49 = .ok (.getfield 60, 3) := by decide +kernel
theorem dX9_addClass_52 : decode cX9_addClass 52 = .ok (.iload_n 1, 1) := by decide +kernel
theorem dX9_addClass_53 : decode cX9_addClass 53 = .ok (.iload_n 2, 1) := by decide +kernel
theorem dX9_addClass_54 : decode cX9_addClass 54 = .ok (.iload_n 3, 1) := by decide +kernel
theorem dX9_addClass_55 : decode cX9_addClass 55 = .ok (.invokevirtual 76, 3) := by decide +kernel
theorem dX9_addClass_58 : decode cX9_addClass 58 = .ok (.ireturn, 1) := by decide +kernel
theorem dX9_addSite_0 : decode cX9_addSite 0 = .ok (.aload_n 0, 1) := by decide +kernel
theorem dX9_addSite_1 : decode cX9_addSite 1 = .ok (.iload_n 1, 1) := by decide +kernel
theorem dX9_addSite_2 : decode cX9_addSite 2 = .ok (.invokevirtual 80, 3) := by decide +kernel
theorem dX9_addSite_5 : decode cX9_addSite 5 = .ok (.aload_n 0, 1) := by decide +kernel
theorem dX9_addSite_6 : decode cX9_addSite 6 = .ok (.getfield 10, 3) := by decide +kernel
theorem dX9_addSite_9 : decode cX9_addSite 9 = .ok (.getfield 84, 3) := by decide +kernel
theorem dX9_addSite_12 : decode cX9_addSite 12 = .ok (.getfield 88, 3) := by decide +kernel
theorem dX9_addSite_15 : decode cX9_addSite 15 = .ok (.bipush 16, 2) := by decide +kernel
theorem dX9_addSite_17 : decode cX9_addSite 17 = .ok (.if_icmp .lt 13, 3) := by decide +kernel
theorem dX9_addSite_20 : decode cX9_addSite 20 = .ok (.new 69, 3) := by decide +kernel
theorem dX9_addSite_23 : decode cX9_addSite 23 = .ok (.dup, 1) := by decide +kernel
theorem dX9_addSite_24 : decode cX9_addSite 24 = .ok (.ldc 91, 2) := by decide +kernel
theorem dX9_addSite_26 : decode cX9_addSite 26 = .ok (.invokespecial 73, 3) := by decide +kernel
theorem dX9_addSite_29 : decode cX9_addSite 29 = .ok (.athrow, 1) := by decide +kernel
theorem dX9_addSite_30 : decode cX9_addSite 30 = .ok (.aload_n 0, 1) := by decide +kernel
theorem dX9_addSite_31 : decode cX9_addSite 31 = .ok (.getfield 10, 3) := by decide +kernel
theorem dX9_addSite_34 : decode cX9_addSite 34 = .ok (.getfield 84, 3) := by decide +kernel
theorem dX9_addSite_37 : decode cX9_addSite 37 = .ok (.iload_n 1, 1) := by decide +kernel
theorem dX9_addSite_38 : decode cX9_addSite 38 = .ok (.invokevirtual 93, 3) := by decide +kernel
theorem dX9_addSite_41 : decode cX9_addSite 41 = .ok (.ireturn, 1) := by decide +kernel
theorem dX9_addSeason_0 : decode cX9_addSeason 0 = .ok (.aload_n 0, 1) := by decide +kernel
theorem dX9_addSeason_1 : decode cX9_addSeason 1 = .ok (.iload_n 1, 1) := by decide +kernel
theorem dX9_addSeason_2 : decode cX9_addSeason 2 = .ok (.invokevirtual 80, 3) := by decide +kernel
theorem dX9_addSeason_5 : decode cX9_addSeason 5 = .ok (.iload_n 2, 1) := by decide +kernel
theorem dX9_addSeason_6 : decode cX9_addSeason 6 = .ok (.iconst 0, 1) := by decide +kernel
theorem dX9_addSeason_7 : decode cX9_addSeason 7 = .ok (.sipush 999, 3) := by decide +kernel
theorem dX9_addSeason_10 : decode cX9_addSeason 10 = .ok (.invokestatic 56, 3) := by decide +kernel
theorem dX9_addSeason_13 : decode cX9_addSeason 13 = .ok (.iload_n 3, 1) := by decide +kernel
theorem dX9_addSeason_14 : decode cX9_addSeason 14 = .ok (.iload_n 2, 1) := by decide +kernel
theorem dX9_addSeason_15 : decode cX9_addSeason 15 = .ok (.sipush 999, 3) := by decide +kernel
theorem dX9_addSeason_18 : decode cX9_addSeason 18 = .ok (.invokestatic 56, 3) := by decide +kernel
theorem dX9_addSeason_21 : decode cX9_addSeason 21 = .ok (.iload 4, 2) := by decide +kernel
theorem dX9_addSeason_23 : decode cX9_addSeason 23 = .ok (.iconst 1, 1) := by decide +kernel
theorem dX9_addSeason_24 : decode cX9_addSeason 24 = .ok (.bipush 14, 2) := by decide +kernel
theorem dX9_addSeason_26 : decode cX9_addSeason 26 = .ok (.invokestatic 56, 3) := by decide +kernel
theorem dX9_addSeason_29 : decode cX9_addSeason 29 = .ok (.iload 5, 2) := by decide +kernel
theorem dX9_addSeason_31 : decode cX9_addSeason 31 = .ok (.iconst 0, 1) := by decide +kernel
theorem dX9_addSeason_32 : decode cX9_addSeason 32 = .ok (.sipush 9999, 3) := by decide +kernel
theorem dX9_addSeason_35 : decode cX9_addSeason 35 = .ok (.invokestatic 56, 3) := by decide +kernel
theorem dX9_addSeason_38 : decode cX9_addSeason 38 = .ok (.aload_n 0, 1) := by decide +kernel
theorem dX9_addSeason_39 : decode cX9_addSeason 39 = .ok (.getfield 10, 3) := by decide +kernel
theorem dX9_addSeason_42 : decode cX9_addSeason 42 = .ok (.getfield 96, 3) := by decide +kernel
theorem dX9_addSeason_45 : decode cX9_addSeason 45 = .ok (.getfield 100, 3) := by decide +kernel
theorem dX9_addSeason_48 : decode cX9_addSeason 48 = .ok (.bipush 12, 2) := by decide +kernel
theorem dX9_addSeason_50 : decode cX9_addSeason 50 = .ok (.if_icmp .lt 13, 3) := by decide +kernel
theorem dX9_addSeason_53 : decode cX9_addSeason 53 = .ok (.new 69, 3) := by decide +kernel
theorem dX9_addSeason_56 : decode cX9_addSeason 56 = .ok (.dup, 1) := by decide +kernel
theorem dX9_addSeason_57 : decode cX9_addSeason 57 = .ok (.ldc 103, 2) := by decide +kernel
theorem dX9_addSeason_59 : decode cX9_addSeason 59 = .ok (.invokespecial 73, 3) := by decide +kernel
theorem dX9_addSeason_62 : decode cX9_addSeason 62 = .ok (.athrow, 1) := by decide +kernel
theorem dX9_addSeason_63 : decode cX9_addSeason 63 = .ok (.aload_n 0, 1) := by decide +kernel
theorem dX9_addSeason_64 : decode cX9_addSeason 64 = .ok (.getfield 10, 3) := by decide +kernel
theorem dX9_addSeason_67 : decode cX9_addSeason 67 = .ok (.getfield 96, 3) := by decide +kernel
theorem dX9_addSeason_70 : decode cX9_addSeason 70 = .ok (.iload_n 1, 1) := by decide +kernel
theorem dX9_addSeason_71 : decode cX9_addSeason 71 = .ok (.iload_n 2, 1) := by decide +kernel
theorem dX9_addSeason_72 : decode cX9_addSeason 72 = .ok (.iload_n 3, 1) := by decide +kernel
theorem dX9_addSeason_73 : decode cX9_addSeason 73 = .ok (.iload 4, 2) := by decide +kernel
theorem dX9_addSeason_75 : decode cX9_addSeason 75 = .ok (.iload 5, 2) := by decide +kernel
theorem dX9_addSeason_77 : decode cX9_addSeason 77 = .ok (.invokevirtual 105, 3) := by decide +kernel
theorem dX9_addSeason_80 : decode cX9_addSeason 80 = .ok (.ireturn, 1) := by decide +kernel
theorem dX9_classCount_0 : decode cX9_classCount 0 = .ok (.aload_n 0, 1) := by decide +kernel
theorem dX9_classCount_1 : decode cX9_classCount 1 = .ok (.getfield 10, 3) := by decide +kernel
theorem dX9_classCount_4 : decode cX9_classCount 4 = .ok (.getfield 60, 3) := by decide +kernel
theorem dX9_classCount_7 : decode cX9_classCount 7 = .ok (.getfield 64, 3) := by decide +kernel
theorem dX9_classCount_10 : decode cX9_classCount 10 = .ok (.ireturn, 1) := by decide +kernel
theorem dX9_siteCount_0 : decode cX9_siteCount 0 = .ok (.aload_n 0, 1) := by decide +kernel
theorem dX9_siteCount_1 : decode cX9_siteCount 1 = .ok (.getfield 10, 3) := by decide +kernel
theorem dX9_siteCount_4 : decode cX9_siteCount 4 = .ok (.getfield 84, 3) := by decide +kernel
theorem dX9_siteCount_7 : decode cX9_siteCount 7 = .ok (.getfield 88, 3) := by decide +kernel
theorem dX9_siteCount_10 : decode cX9_siteCount 10 = .ok (.ireturn, 1) := by decide +kernel
theorem dX9_classOf_0 : decode cX9_classOf 0 = .ok (.aload_n 0, 1) := by decide +kernel
theorem dX9_classOf_1 : decode cX9_classOf 1 = .ok (.iload_n 1, 1) := by decide +kernel
theorem dX9_classOf_2 : decode cX9_classOf 2 = .ok (.invokevirtual 108, 3) := by decide +kernel
theorem dX9_classOf_5 : decode cX9_classOf 5 = .ok (.aload_n 0, 1) := by decide +kernel
theorem dX9_classOf_6 : decode cX9_classOf 6 = .ok (.getfield 10, 3) := by decide +kernel
theorem dX9_classOf_9 : decode cX9_classOf 9 = .ok (.getfield 84, 3) := by decide +kernel
theorem dX9_classOf_12 : decode cX9_classOf 12 = .ok (.getfield 111, 3) := by decide +kernel
theorem dX9_classOf_15 : decode cX9_classOf 15 = .ok (.iload_n 1, 1) := by decide +kernel
theorem dX9_classOf_16 : decode cX9_classOf 16 = .ok (.iaload, 1) := by decide +kernel
theorem dX9_classOf_17 : decode cX9_classOf 17 = .ok (.ireturn, 1) := by decide +kernel
theorem dX9_minimum_0 : decode cX9_minimum 0 = .ok (.aload_n 0, 1) := by decide +kernel
theorem dX9_minimum_1 : decode cX9_minimum 1 = .ok (.iload_n 1, 1) := by decide +kernel
theorem dX9_minimum_2 : decode cX9_minimum 2 = .ok (.invokevirtual 80, 3) := by decide +kernel
theorem dX9_minimum_5 : decode cX9_minimum 5 = .ok (.iload_n 2, 1) := by decide +kernel
theorem dX9_minimum_6 : decode cX9_minimum 6 = .ok (.iconst 0, 1) := by decide +kernel
theorem dX9_minimum_7 : decode cX9_minimum 7 = .ok (.sipush 999, 3) := by decide +kernel
theorem dX9_minimum_10 : decode cX9_minimum 10 = .ok (.invokestatic 56, 3) := by decide +kernel
theorem dX9_minimum_13 : decode cX9_minimum 13 = .ok (.aload_n 0, 1) := by decide +kernel
theorem dX9_minimum_14 : decode cX9_minimum 14 = .ok (.getfield 10, 3) := by decide +kernel
theorem dX9_minimum_17 : decode cX9_minimum 17 = .ok (.getfield 96, 3) := by decide +kernel
theorem dX9_minimum_20 : decode cX9_minimum 20 = .ok (.iload_n 1, 1) := by decide +kernel
theorem dX9_minimum_21 : decode cX9_minimum 21 = .ok (.iload_n 2, 1) := by decide +kernel
theorem dX9_minimum_22 : decode cX9_minimum 22 = .ok (.invokevirtual 115, 3) := by decide +kernel
theorem dX9_minimum_25 : decode cX9_minimum 25 = .ok (.ireturn, 1) := by decide +kernel
theorem dX9_price_0 : decode cX9_price 0 = .ok (.aload_n 0, 1) := by decide +kernel
theorem dX9_price_1 : decode cX9_price 1 = .ok (.iload_n 1, 1) := by decide +kernel
theorem dX9_price_2 : decode cX9_price 2 = .ok (.invokevirtual 80, 3) := by decide +kernel
theorem dX9_price_5 : decode cX9_price 5 = .ok (.iload_n 2, 1) := by decide +kernel
theorem dX9_price_6 : decode cX9_price 6 = .ok (.iconst 0, 1) := by decide +kernel
theorem dX9_price_7 : decode cX9_price 7 = .ok (.sipush 999, 3) := by decide +kernel
theorem dX9_price_10 : decode cX9_price 10 = .ok (.invokestatic 56, 3) := by decide +kernel
theorem dX9_price_13 : decode cX9_price 13 = .ok (.aload_n 0, 1) := by decide +kernel
theorem dX9_price_14 : decode cX9_price 14 = .ok (.getfield 10, 3) := by decide +kernel
theorem dX9_price_17 : decode cX9_price 17 = .ok (.getfield 96, 3) := by decide +kernel
theorem dX9_price_20 : decode cX9_price 20 = .ok (.iload_n 1, 1) := by decide +kernel
theorem dX9_price_21 : decode cX9_price 21 = .ok (.iload_n 2, 1) := by decide +kernel
theorem dX9_price_22 : decode cX9_price 22 = .ok (.invokevirtual 119, 3) := by decide +kernel
theorem dX9_price_25 : decode cX9_price 25 = .ok (.ireturn, 1) := by decide +kernel
theorem dX9_capacity_0 : decode cX9_capacity 0 = .ok (.aload_n 0, 1) := by decide +kernel
theorem dX9_capacity_1 : decode cX9_capacity 1 = .ok (.iload_n 1, 1) := by decide +kernel
theorem dX9_capacity_2 : decode cX9_capacity 2 = .ok (.invokevirtual 80, 3) := by decide +kernel
theorem dX9_capacity_5 : decode cX9_capacity 5 = .ok (.aload_n 0, 1) := by decide +kernel
theorem dX9_capacity_6 : decode cX9_capacity 6 = .ok (.getfield 10, 3) := by decide +kernel
theorem dX9_capacity_9 : decode cX9_capacity 9 = .ok (.iload_n 1, 1) := by decide +kernel
theorem dX9_capacity_10 : decode cX9_capacity 10 = .ok (.iload_n 2, 1) := by decide +kernel
theorem dX9_capacity_11 : decode cX9_capacity 11 = .ok (.invokevirtual 122, 3) := by decide +kernel
theorem dX9_capacity_14 : decode cX9_capacity 14 = .ok (.ireturn, 1) := by decide +kernel
theorem dX9_released_0 : decode cX9_released 0 = .ok (.aload_n 0, 1) := by decide +kernel
theorem dX9_released_1 : decode cX9_released 1 = .ok (.iload_n 1, 1) := by decide +kernel
theorem dX9_released_2 : decode cX9_released 2 = .ok (.invokevirtual 80, 3) := by decide +kernel
theorem dX9_released_5 : decode cX9_released 5 = .ok (.aload_n 0, 1) := by decide +kernel
theorem dX9_released_6 : decode cX9_released 6 = .ok (.getfield 10, 3) := by decide +kernel
theorem dX9_released_9 : decode cX9_released 9 = .ok (.iload_n 1, 1) := by decide +kernel
theorem dX9_released_10 : decode cX9_released 10 = .ok (.iload_n 2, 1) := by decide +kernel
theorem dX9_released_11 : decode cX9_released 11 = .ok (.invokevirtual 125, 3) := by decide +kernel
theorem dX9_released_14 : decode cX9_released 14 = .ok (.ireturn, 1) := by decide +kernel
theorem dX9_taken_0 : decode cX9_taken 0 = .ok (.aload_n 0, 1) := by decide +kernel
theorem dX9_taken_1 : decode cX9_taken 1 = .ok (.iload_n 1, 1) := by decide +kernel
theorem dX9_taken_2 : decode cX9_taken 2 = .ok (.invokevirtual 80, 3) := by decide +kernel
theorem dX9_taken_5 : decode cX9_taken 5 = .ok (.aload_n 0, 1) := by decide +kernel
theorem dX9_taken_6 : decode cX9_taken 6 = .ok (.getfield 10, 3) := by decide +kernel
theorem dX9_taken_9 : decode cX9_taken 9 = .ok (.getfield 128, 3) := by decide +kernel
theorem dX9_taken_12 : decode cX9_taken 12 = .ok (.iload_n 1, 1) := by decide +kernel
theorem dX9_taken_13 : decode cX9_taken 13 = .ok (.iload_n 2, 1) := by decide +kernel
theorem dX9_taken_14 : decode cX9_taken 14 = .ok (.invokevirtual 132, 3) := by decide +kernel
theorem dX9_taken_17 : decode cX9_taken 17 = .ok (.ireturn, 1) := by decide +kernel
theorem dX9_available_0 : decode cX9_available 0 = .ok (.aload_n 0, 1) := by decide +kernel
theorem dX9_available_1 : decode cX9_available 1 = .ok (.iload_n 1, 1) := by decide +kernel
theorem dX9_available_2 : decode cX9_available 2 = .ok (.invokevirtual 80, 3) := by decide +kernel
theorem dX9_available_5 : decode cX9_available 5 = .ok (.aload_n 0, 1) := by decide +kernel
theorem dX9_available_6 : decode cX9_available 6 = .ok (.getfield 10, 3) := by decide +kernel
theorem dX9_available_9 : decode cX9_available 9 = .ok (.iload_n 1, 1) := by decide +kernel
theorem dX9_available_10 : decode cX9_available 10 = .ok (.iload_n 2, 1) := by decide +kernel
theorem dX9_available_11 : decode cX9_available 11 = .ok (.invokevirtual 125, 3) := by decide +kernel
theorem dX9_available_14 : decode cX9_available 14 = .ok (.aload_n 0, 1) := by decide +kernel
theorem dX9_available_15 : decode cX9_available 15 = .ok (.getfield 10, 3) := by decide +kernel
theorem dX9_available_18 : decode cX9_available 18 = .ok (.getfield 128, 3) := by decide +kernel
theorem dX9_available_21 : decode cX9_available 21 = .ok (.iload_n 1, 1) := by decide +kernel
theorem dX9_available_22 : decode cX9_available 22 = .ok (.iload_n 2, 1) := by decide +kernel
theorem dX9_available_23 : decode cX9_available 23 = .ok (.invokevirtual 132, 3) := by decide +kernel
theorem dX9_available_26 : decode cX9_available 26 = .ok (.isub, 1) := by decide +kernel
theorem dX9_available_27 : decode cX9_available 27 = .ok (.istore_n 3, 1) := by decide +kernel
theorem dX9_available_28 : decode cX9_available 28 = .ok (.iload_n 3, 1) := by decide +kernel
theorem dX9_available_29 : decode cX9_available 29 = .ok (.iconst 0, 1) := by decide +kernel
theorem dX9_available_30 : decode cX9_available 30 = .ok (.invokestatic 137, 3) := by decide +kernel
theorem dX9_available_33 : decode cX9_available 33 = .ok (.ireturn, 1) := by decide +kernel
theorem dX9_obstacle_0 : decode cX9_obstacle 0 = .ok (.aload_n 0, 1) := by decide +kernel
theorem dX9_obstacle_1 : decode cX9_obstacle 1 = .ok (.iload_n 1, 1) := by decide +kernel
theorem dX9_obstacle_2 : decode cX9_obstacle 2 = .ok (.invokevirtual 80, 3) := by decide +kernel
theorem dX9_obstacle_5 : decode cX9_obstacle 5 = .ok (.iload_n 3, 1) := by decide +kernel
theorem dX9_obstacle_6 : decode cX9_obstacle 6 = .ok (.iconst 1, 1) := by decide +kernel
theorem dX9_obstacle_7 : decode cX9_obstacle 7 = .ok (.bipush 28, 2) := by decide +kernel
theorem dX9_obstacle_9 : decode cX9_obstacle 9 = .ok (.invokestatic 56, 3) := by decide +kernel
theorem dX9_obstacle_12 : decode cX9_obstacle 12 = .ok (.aload_n 0, 1) := by decide +kernel
theorem dX9_obstacle_13 : decode cX9_obstacle 13 = .ok (.getfield 28, 3) := by decide +kernel
theorem dX9_obstacle_16 : decode cX9_obstacle 16 = .ok (.iload_n 1, 1) := by decide +kernel
theorem dX9_obstacle_17 : decode cX9_obstacle 17 = .ok (.invokevirtual 142, 3) := by decide +kernel
theorem dX9_obstacle_20 : decode cX9_obstacle 20 = .ok (.aload_n 0, 1) := by decide +kernel
theorem dX9_obstacle_21 : decode cX9_obstacle 21 = .ok (.getfield 28, 3) := by decide +kernel
theorem dX9_obstacle_24 : decode cX9_obstacle 24 = .ok (.iload_n 2, 1) := by decide +kernel
theorem dX9_obstacle_25 : decode cX9_obstacle 25 = .ok (.iload_n 3, 1) := by decide +kernel
theorem dX9_obstacle_26 : decode cX9_obstacle 26 = .ok (.invokevirtual 145, 3) := by decide +kernel
theorem dX9_obstacle_29 : decode cX9_obstacle 29 = .ok (.ireturn, 1) := by decide +kernel
theorem dX9_longestStay_0 : decode cX9_longestStay 0 = .ok (.aload_n 0, 1) := by decide +kernel
theorem dX9_longestStay_1 : decode cX9_longestStay 1 = .ok (.iload_n 1, 1) := by decide +kernel
theorem dX9_longestStay_2 : decode cX9_longestStay 2 = .ok (.invokevirtual 80, 3) := by decide +kernel
theorem dX9_longestStay_5 : decode cX9_longestStay 5 = .ok (.aload_n 0, 1) := by decide +kernel
theorem dX9_longestStay_6 : decode cX9_longestStay 6 = .ok (.getfield 28, 3) := by decide +kernel
theorem dX9_longestStay_9 : decode cX9_longestStay 9 = .ok (.iload_n 1, 1) := by decide +kernel
theorem dX9_longestStay_10 : decode cX9_longestStay 10 = .ok (.invokevirtual 142, 3) := by decide +kernel
theorem dX9_longestStay_13 : decode cX9_longestStay 13 = .ok (.bipush 28, 2) := by decide +kernel
theorem dX9_longestStay_15 : decode cX9_longestStay 15 = .ok (.istore_n 3, 1) := by decide +kernel
theorem dX9_longestStay_16 : decode cX9_longestStay 16 = .ok (.iload_n 3, 1) := by decide +kernel
theorem dX9_longestStay_17 : decode cX9_longestStay 17 = .ok (.iconst 1, 1) := by decide +kernel
theorem dX9_longestStay_18 : decode cX9_longestStay 18 = .ok (.if_icmp .lt 23, 3) := by decide +kernel
theorem dX9_longestStay_21 : decode cX9_longestStay 21 = .ok (.aload_n 0, 1) := by decide +kernel
theorem dX9_longestStay_22 : decode cX9_longestStay 22 = .ok (.getfield 28, 3) := by decide +kernel
theorem dX9_longestStay_25 : decode cX9_longestStay 25 = .ok (.iload_n 2, 1) := by decide +kernel
theorem dX9_longestStay_26 : decode cX9_longestStay 26 = .ok (.iload_n 3, 1) := by decide +kernel
theorem dX9_longestStay_27 : decode cX9_longestStay 27 = .ok (.invokevirtual 145, 3) := by decide +kernel
theorem dX9_longestStay_30 : decode cX9_longestStay 30 = .ok (.ifCond .ne 5, 3) := by decide +kernel
theorem dX9_longestStay_33 : decode cX9_longestStay 33 = .ok (.iload_n 3, 1) := by decide +kernel
theorem dX9_longestStay_34 : decode cX9_longestStay 34 = .ok (.ireturn, 1) := by decide +kernel
theorem dX9_longestStay_35 : decode cX9_longestStay 35 = .ok (.iinc 3 (-1), 3) := by decide +kernel
theorem dX9_longestStay_38 : decode cX9_longestStay 38 = .ok (.goto (-22), 3) := by decide +kernel
theorem dX9_longestStay_41 : decode cX9_longestStay 41 = .ok (.iconst 0, 1) := by decide +kernel
theorem dX9_longestStay_42 : decode cX9_longestStay 42 = .ok (.ireturn, 1) := by decide +kernel
theorem dX9_cheapestArrival_0 : decode cX9_cheapestArrival 0 = .ok (.aload_n 0, 1) := by decide +kernel
theorem dX9_cheapestArrival_1 : decode cX9_cheapestArrival 1 = .ok (.iload_n 1, 1) := by decide +kernel
theorem dX9_cheapestArrival_2 : decode cX9_cheapestArrival 2 = .ok (.invokevirtual 80, 3) := by decide +kernel
theorem dX9_cheapestArrival_5 : decode cX9_cheapestArrival 5 = .ok (.iload_n 2, 1) := by decide +kernel
theorem dX9_cheapestArrival_6 : decode cX9_cheapestArrival 6 = .ok (.iconst 1, 1) := by decide +kernel
theorem dX9_cheapestArrival_7 : decode cX9_cheapestArrival 7 = .ok (.bipush 28, 2) := by decide +kernel
theorem dX9_cheapestArrival_9 : decode cX9_cheapestArrival 9 = .ok (.invokestatic 56, 3) := by decide +kernel
theorem dX9_cheapestArrival_12 : decode cX9_cheapestArrival 12 = .ok (.iload_n 3, 1) := by decide +kernel
theorem dX9_cheapestArrival_13 : decode cX9_cheapestArrival 13 = .ok (.iconst 0, 1) := by decide +kernel
theorem dX9_cheapestArrival_14 : decode cX9_cheapestArrival 14 = .ok (.sipush 999, 3) := by decide +kernel
theorem dX9_cheapestArrival_17 : decode cX9_cheapestArrival 17 = .ok (.invokestatic 56, 3) := by decide +kernel
theorem dX9_cheapestArrival_20 : decode cX9_cheapestArrival 20 = .ok (.iload 4, 2) := by decide +kernel
theorem dX9_cheapestArrival_22 : decode cX9_cheapestArrival 22 = .ok (.iload_n 3, 1) := by decide +kernel
theorem dX9_cheapestArrival_23 : decode cX9_cheapestArrival 23 = .ok (.sipush 999, 3) := by decide +kernel
theorem dX9_cheapestArrival_26 : decode cX9_cheapestArrival 26 = .ok (.invokestatic 56, 3) := by decide +kernel
theorem dX9_cheapestArrival_29 : decode cX9_cheapestArrival 29 = .ok (.aload_n 0, 1) := by decide +kernel
theorem dX9_cheapestArrival_30 : decode cX9_cheapestArrival 30 = .ok (.getfield 28, 3) := by decide +kernel
theorem dX9_cheapestArrival_33 : decode cX9_cheapestArrival 33 = .ok (.iload_n 1, 1) := by decide +kernel
theorem dX9_cheapestArrival_34 : decode cX9_cheapestArrival 34 = .ok (.invokevirtual 142, 3) := by decide +kernel
theorem dX9_cheapestArrival_37 : decode cX9_cheapestArrival 37 = .ok (.iconst (-1), 1) := by decide +kernel
theorem dX9_cheapestArrival_38 : decode cX9_cheapestArrival 38 = .ok (.istore 5, 2) := by decide +kernel
theorem dX9_cheapestArrival_40 : decode cX9_cheapestArrival 40 = .ok (.iconst 0, 1) := by decide +kernel
theorem dX9_cheapestArrival_41 : decode cX9_cheapestArrival 41 = .ok (.istore 6, 2) := by decide +kernel
theorem dX9_cheapestArrival_43 : decode cX9_cheapestArrival 43 = .ok (.iload_n 3, 1) := by decide +kernel
theorem dX9_cheapestArrival_44 : decode cX9_cheapestArrival 44 = .ok (.istore 7, 2) := by decide +kernel
theorem dX9_cheapestArrival_46 : decode cX9_cheapestArrival 46 = .ok (.iload 7, 2) := by decide +kernel
theorem dX9_cheapestArrival_48 : decode cX9_cheapestArrival 48 = .ok (.iload 4, 2) := by decide +kernel
theorem dX9_cheapestArrival_50 : decode cX9_cheapestArrival 50 = .ok (.if_icmp .gt 65, 3) := by decide +kernel
theorem dX9_cheapestArrival_53 : decode cX9_cheapestArrival 53 = .ok (.aload_n 0, 1) := by decide +kernel
theorem dX9_cheapestArrival_54 : decode cX9_cheapestArrival 54 = .ok (.getfield 28, 3) := by decide +kernel
theorem dX9_cheapestArrival_57 : decode cX9_cheapestArrival 57 = .ok (.iload 7, 2) := by decide +kernel
theorem dX9_cheapestArrival_59 : decode cX9_cheapestArrival 59 = .ok (.iload_n 2, 1) := by decide +kernel
theorem dX9_cheapestArrival_60 : decode cX9_cheapestArrival 60 = .ok (.invokevirtual 145, 3) := by decide +kernel
theorem dX9_cheapestArrival_63 : decode cX9_cheapestArrival 63 = .ok (.ifCond .eq 6, 3) := by decide +kernel
theorem dX9_cheapestArrival_66 : decode cX9_cheapestArrival 66 = .ok (.goto 43, 3) := by decide +kernel
theorem dX9_cheapestArrival_69 : decode cX9_cheapestArrival 69 = .ok (.aload_n 0, 1) := by decide +kernel
theorem dX9_cheapestArrival_70 : decode cX9_cheapestArrival 70 = .ok (.getfield 10, 3) := by decide +kernel
theorem dX9_cheapestArrival_73 : decode cX9_cheapestArrival 73 = .ok (.getfield 96, 3) := by decide +kernel
theorem dX9_cheapestArrival_76 : decode cX9_cheapestArrival 76 = .ok (.iload_n 1, 1) := by decide +kernel
theorem dX9_cheapestArrival_77 : decode cX9_cheapestArrival 77 = .ok (.iload 7, 2) := by decide +kernel
theorem dX9_cheapestArrival_79 : decode cX9_cheapestArrival 79 = .ok (.iload 7, 2) := by decide +kernel
theorem dX9_cheapestArrival_81 : decode cX9_cheapestArrival 81 = .ok (.iload_n 2, 1) := by decide +kernel
theorem dX9_cheapestArrival_82 : decode cX9_cheapestArrival 82 = .ok (.iadd, 1) := by decide +kernel
theorem dX9_cheapestArrival_83 : decode cX9_cheapestArrival 83 = .ok (.invokevirtual 148, 3) := by decide +kernel
theorem dX9_cheapestArrival_86 : decode cX9_cheapestArrival 86 = .ok (.istore 8, 2) := by decide +kernel
theorem dX9_cheapestArrival_88 : decode cX9_cheapestArrival 88 = .ok (.iload 5, 2) := by decide +kernel
theorem dX9_cheapestArrival_90 : decode cX9_cheapestArrival 90 = .ok (.iconst (-1), 1) := by decide +kernel
theorem dX9_cheapestArrival_91 : decode cX9_cheapestArrival 91 = .ok (.if_icmp .eq 10, 3) := by decide +kernel
theorem dX9_cheapestArrival_94 : decode cX9_cheapestArrival 94 = .ok (.iload 8, 2) := by decide +kernel
theorem dX9_cheapestArrival_96 : decode cX9_cheapestArrival 96 = .ok (.iload 6, 2) := by decide +kernel
theorem dX9_cheapestArrival_98 : decode cX9_cheapestArrival 98 = .ok (.if_icmp .ge 11, 3) := by decide +kernel
theorem dX9_cheapestArrival_101 : decode cX9_cheapestArrival 101 = .ok (.iload 7, 2) := by decide +kernel
theorem dX9_cheapestArrival_103 : decode cX9_cheapestArrival 103 = .ok (.istore 5, 2) := by decide +kernel
theorem dX9_cheapestArrival_105 : decode cX9_cheapestArrival 105 = .ok (.iload 8, 2) := by decide +kernel
theorem dX9_cheapestArrival_107 : decode cX9_cheapestArrival 107 = .ok (.istore 6, 2) := by decide +kernel
theorem dX9_cheapestArrival_109 : decode cX9_cheapestArrival 109 = .ok (.iinc 7 1, 3) := by decide +kernel
theorem dX9_cheapestArrival_112 : decode cX9_cheapestArrival 112 = .ok (.goto (-66), 3) := by decide +kernel
theorem dX9_cheapestArrival_115 : decode cX9_cheapestArrival 115 = .ok (.iload 5, 2) := by decide +kernel
theorem dX9_cheapestArrival_117 : decode cX9_cheapestArrival 117 = .ok (.ireturn, 1) := by decide +kernel
theorem dX9_nextGap_0 : decode cX9_nextGap 0 = .ok (.aload_n 0, 1) := by decide +kernel
theorem dX9_nextGap_1 : decode cX9_nextGap 1 = .ok (.iload_n 1, 1) := by decide +kernel
theorem dX9_nextGap_2 : decode cX9_nextGap 2 = .ok (.invokevirtual 80, 3) := by decide +kernel
theorem dX9_nextGap_5 : decode cX9_nextGap 5 = .ok (.iload_n 2, 1) := by decide +kernel
theorem dX9_nextGap_6 : decode cX9_nextGap 6 = .ok (.iconst 0, 1) := by decide +kernel
theorem dX9_nextGap_7 : decode cX9_nextGap 7 = .ok (.sipush 999, 3) := by decide +kernel
theorem dX9_nextGap_10 : decode cX9_nextGap 10 = .ok (.invokestatic 56, 3) := by decide +kernel
theorem dX9_nextGap_13 : decode cX9_nextGap 13 = .ok (.aload_n 0, 1) := by decide +kernel
theorem dX9_nextGap_14 : decode cX9_nextGap 14 = .ok (.getfield 28, 3) := by decide +kernel
theorem dX9_nextGap_17 : decode cX9_nextGap 17 = .ok (.iload_n 1, 1) := by decide +kernel
theorem dX9_nextGap_18 : decode cX9_nextGap 18 = .ok (.invokevirtual 142, 3) := by decide +kernel
theorem dX9_nextGap_21 : decode cX9_nextGap 21 = .ok (.iload_n 2, 1) := by decide +kernel
theorem dX9_nextGap_22 : decode cX9_nextGap 22 = .ok (.istore_n 3, 1) := by decide +kernel
theorem dX9_nextGap_23 : decode cX9_nextGap 23 = .ok (.iload_n 3, 1) := by decide +kernel
theorem dX9_nextGap_24 : decode cX9_nextGap 24 = .ok (.sipush 998, 3) := by decide +kernel
theorem dX9_nextGap_27 : decode cX9_nextGap 27 = .ok (.if_icmp .gt 35, 3) := by decide +kernel
theorem dX9_nextGap_30 : decode cX9_nextGap 30 = .ok (.aload_n 0, 1) := by decide +kernel
theorem dX9_nextGap_31 : decode cX9_nextGap 31 = .ok (.getfield 28, 3) := by decide +kernel
theorem dX9_nextGap_34 : decode cX9_nextGap 34 = .ok (.iload_n 3, 1) := by decide +kernel
theorem dX9_nextGap_35 : decode cX9_nextGap 35 = .ok (.invokevirtual 151, 3) := by decide +kernel
theorem dX9_nextGap_38 : decode cX9_nextGap 38 = .ok (.ifCond .eq 18, 3) := by decide +kernel
theorem dX9_nextGap_41 : decode cX9_nextGap 41 = .ok (.aload_n 0, 1) := by decide +kernel
theorem dX9_nextGap_42 : decode cX9_nextGap 42 = .ok (.getfield 28, 3) := by decide +kernel
theorem dX9_nextGap_45 : decode cX9_nextGap 45 = .ok (.iload_n 3, 1) := by decide +kernel
theorem dX9_nextGap_46 : decode cX9_nextGap 46 = .ok (.iconst 1, 1) := by decide +kernel
theorem dX9_nextGap_47 : decode cX9_nextGap 47 = .ok (.isub, 1) := by decide +kernel
theorem dX9_nextGap_48 : decode cX9_nextGap 48 = .ok (.invokevirtual 151, 3) := by decide +kernel
theorem dX9_nextGap_51 : decode cX9_nextGap 51 = .ok (.ifCond .ne 5, 3) := by decide +kernel
theorem dX9_nextGap_54 : decode cX9_nextGap 54 = .ok (.iload_n 3, 1) := by decide +kernel
theorem dX9_nextGap_55 : decode cX9_nextGap 55 = .ok (.ireturn, 1) := by decide +kernel
theorem dX9_nextGap_56 : decode cX9_nextGap 56 = .ok (.iinc 3 1, 3) := by decide +kernel
theorem dX9_nextGap_59 : decode cX9_nextGap 59 = .ok (.goto (-36), 3) := by decide +kernel
theorem dX9_nextGap_62 : decode cX9_nextGap 62 = .ok (.iconst (-1), 1) := by decide +kernel
theorem dX9_nextGap_63 : decode cX9_nextGap 63 = .ok (.ireturn, 1) := by decide +kernel
theorem dX9_book_0 : decode cX9_book 0 = .ok (.aload_n 0, 1) := by decide +kernel
theorem dX9_book_1 : decode cX9_book 1 = .ok (.iload_n 1, 1) := by decide +kernel
theorem dX9_book_2 : decode cX9_book 2 = .ok (.invokevirtual 80, 3) := by decide +kernel
theorem dX9_book_5 : decode cX9_book 5 = .ok (.iload_n 3, 1) := by decide +kernel
theorem dX9_book_6 : decode cX9_book 6 = .ok (.iconst 1, 1) := by decide +kernel
theorem dX9_book_7 : decode cX9_book 7 = .ok (.bipush 28, 2) := by decide +kernel
theorem dX9_book_9 : decode cX9_book 9 = .ok (.invokestatic 56, 3) := by decide +kernel
theorem dX9_book_12 : decode cX9_book 12 = .ok (.aload_n 0, 1) := by decide +kernel
theorem dX9_book_13 : decode cX9_book 13 = .ok (.getfield 28, 3) := by decide +kernel
theorem dX9_book_16 : decode cX9_book 16 = .ok (.iload_n 1, 1) := by decide +kernel
theorem dX9_book_17 : decode cX9_book 17 = .ok (.invokevirtual 142, 3) := by decide +kernel
theorem dX9_book_20 : decode cX9_book 20 = .ok (.aload_n 0, 1) := by decide +kernel
theorem dX9_book_21 : decode cX9_book 21 = .ok (.getfield 10, 3) := by decide +kernel
theorem dX9_book_24 : decode cX9_book 24 = .ok (.getfield 128, 3) := by decide +kernel
theorem dX9_book_27 : decode cX9_book 27 = .ok (.invokevirtual 155, 3) := by decide +kernel
theorem dX9_book_30 : decode cX9_book 30 = .ok (.ifCond .ne 15, 3) := by decide +kernel
theorem dX9_book_33 : decode cX9_book 33 = .ok (.aload_n 0, 1) := by decide +kernel
theorem dX9_book_34 : decode cX9_book 34 = .ok (.getfield 28, 3) := by decide +kernel
theorem dX9_book_37 : decode cX9_book 37 = .ok (.iload_n 2, 1) := by decide +kernel
theorem dX9_book_38 : decode cX9_book 38 = .ok (.iload_n 3, 1) := by decide +kernel
theorem dX9_book_39 : decode cX9_book 39 = .ok (.invokevirtual 145, 3) := by decide +kernel
theorem dX9_book_42 : decode cX9_book 42 = .ok (.ifCond .eq 13, 3) := by decide +kernel
theorem dX9_book_45 : decode cX9_book 45 = .ok (.new 69, 3) := by decide +kernel
theorem dX9_book_48 : decode cX9_book 48 = .ok (.dup, 1) := by decide +kernel
theorem dX9_book_49 : decode cX9_book 49 = .ok (.ldc 159, 2) := by decide +kernel
theorem dX9_book_51 : decode cX9_book 51 = .ok (.invokespecial 73, 3) := by decide +kernel
theorem dX9_book_54 : decode cX9_book 54 = .ok (.athrow, 1) := by decide +kernel
theorem dX9_book_55 : decode cX9_book 55 = .ok (.aload_n 0, 1) := by decide +kernel
theorem dX9_book_56 : decode cX9_book 56 = .ok (.getfield 10, 3) := by decide +kernel
theorem dX9_book_59 : decode cX9_book 59 = .ok (.iload_n 1, 1) := by decide +kernel
theorem dX9_book_60 : decode cX9_book 60 = .ok (.iload_n 2, 1) := by decide +kernel
theorem dX9_book_61 : decode cX9_book 61 = .ok (.iload_n 3, 1) := by decide +kernel
theorem dX9_book_62 : decode cX9_book 62 = .ok (.invokevirtual 161, 3) := by decide +kernel
theorem dX9_book_65 : decode cX9_book 65 = .ok (.ireturn, 1) := by decide +kernel
theorem dX9_bookingCount_0 : decode cX9_bookingCount 0 = .ok (.aload_n 0, 1) := by decide +kernel
theorem dX9_bookingCount_1 : decode cX9_bookingCount 1 = .ok (.getfield 10, 3) := by decide +kernel
theorem dX9_bookingCount_4 : decode cX9_bookingCount 4 = .ok (.getfield 128, 3) := by decide +kernel
theorem dX9_bookingCount_7 : decode cX9_bookingCount 7 = .ok (.getfield 164, 3) := by decide +kernel
theorem dX9_bookingCount_10 : decode cX9_bookingCount 10 = .ok (.ireturn, 1) := by decide +kernel
theorem dX9_bookingState_0 : decode cX9_bookingState 0 = .ok (.aload_n 0, 1) := by decide +kernel
theorem dX9_bookingState_1 : decode cX9_bookingState 1 = .ok (.iload_n 1, 1) := by decide +kernel
theorem dX9_bookingState_2 : decode cX9_bookingState 2 = .ok (.invokevirtual 165, 3) := by decide +kernel
theorem dX9_bookingState_5 : decode cX9_bookingState 5 = .ok (.aload_n 0, 1) := by decide +kernel
theorem dX9_bookingState_6 : decode cX9_bookingState 6 = .ok (.getfield 10, 3) := by decide +kernel
theorem dX9_bookingState_9 : decode cX9_bookingState 9 = .ok (.getfield 128, 3) := by decide +kernel
theorem dX9_bookingState_12 : decode cX9_bookingState 12 = .ok (.getfield 168, 3) := by decide +kernel
theorem dX9_bookingState_15 : decode cX9_bookingState 15 = .ok (.iload_n 1, 1) := by decide +kernel
theorem dX9_bookingState_16 : decode cX9_bookingState 16 = .ok (.iaload, 1) := by decide +kernel
theorem dX9_bookingState_17 : decode cX9_bookingState 17 = .ok (.ireturn, 1) := by decide +kernel
theorem dX9_bookingClass_0 : decode cX9_bookingClass 0 = .ok (.aload_n 0, 1) := by decide +kernel
theorem dX9_bookingClass_1 : decode cX9_bookingClass 1 = .ok (.iload_n 1, 1) := by decide +kernel
theorem dX9_bookingClass_2 : decode cX9_bookingClass 2 = .ok (.invokevirtual 165, 3) := by decide +kernel
theorem dX9_bookingClass_5 : decode cX9_bookingClass 5 = .ok (.aload_n 0, 1) := by decide +kernel
theorem dX9_bookingClass_6 : decode cX9_bookingClass 6 = .ok (.getfield 10, 3) := by decide +kernel
theorem dX9_bookingClass_9 : decode cX9_bookingClass 9 = .ok (.getfield 128, 3) := by decide +kernel
theorem dX9_bookingClass_12 : decode cX9_bookingClass 12 = .ok (.getfield 171, 3) := by decide +kernel
theorem dX9_bookingClass_15 : decode cX9_bookingClass 15 = .ok (.iload_n 1, 1) := by decide +kernel
theorem dX9_bookingClass_16 : decode cX9_bookingClass 16 = .ok (.iaload, 1) := by decide +kernel
theorem dX9_bookingClass_17 : decode cX9_bookingClass 17 = .ok (.ireturn, 1) := by decide +kernel
theorem dX9_arrival_0 : decode cX9_arrival 0 = .ok (.aload_n 0, 1) := by decide +kernel
theorem dX9_arrival_1 : decode cX9_arrival 1 = .ok (.iload_n 1, 1) := by decide +kernel
theorem dX9_arrival_2 : decode cX9_arrival 2 = .ok (.invokevirtual 165, 3) := by decide +kernel
theorem dX9_arrival_5 : decode cX9_arrival 5 = .ok (.aload_n 0, 1) := by decide +kernel
theorem dX9_arrival_6 : decode cX9_arrival 6 = .ok (.getfield 10, 3) := by decide +kernel
theorem dX9_arrival_9 : decode cX9_arrival 9 = .ok (.getfield 128, 3) := by decide +kernel
theorem dX9_arrival_12 : decode cX9_arrival 12 = .ok (.getfield 172, 3) := by decide +kernel
theorem dX9_arrival_15 : decode cX9_arrival 15 = .ok (.iload_n 1, 1) := by decide +kernel
theorem dX9_arrival_16 : decode cX9_arrival 16 = .ok (.iaload, 1) := by decide +kernel
theorem dX9_arrival_17 : decode cX9_arrival 17 = .ok (.ireturn, 1) := by decide +kernel
theorem dX9_departure_0 : decode cX9_departure 0 = .ok (.aload_n 0, 1) := by decide +kernel
theorem dX9_departure_1 : decode cX9_departure 1 = .ok (.iload_n 1, 1) := by decide +kernel
theorem dX9_departure_2 : decode cX9_departure 2 = .ok (.invokevirtual 165, 3) := by decide +kernel
theorem dX9_departure_5 : decode cX9_departure 5 = .ok (.aload_n 0, 1) := by decide +kernel
theorem dX9_departure_6 : decode cX9_departure 6 = .ok (.getfield 10, 3) := by decide +kernel
theorem dX9_departure_9 : decode cX9_departure 9 = .ok (.getfield 128, 3) := by decide +kernel
theorem dX9_departure_12 : decode cX9_departure 12 = .ok (.getfield 175, 3) := by decide +kernel
theorem dX9_departure_15 : decode cX9_departure 15 = .ok (.iload_n 1, 1) := by decide +kernel
theorem dX9_departure_16 : decode cX9_departure 16 = .ok (.iaload, 1) := by decide +kernel
theorem dX9_departure_17 : decode cX9_departure 17 = .ok (.ireturn, 1) := by decide +kernel
theorem dX9_cost_0 : decode cX9_cost 0 = .ok (.aload_n 0, 1) := by decide +kernel
theorem dX9_cost_1 : decode cX9_cost 1 = .ok (.iload_n 1, 1) := by decide +kernel
theorem dX9_cost_2 : decode cX9_cost 2 = .ok (.invokevirtual 165, 3) := by decide +kernel
theorem dX9_cost_5 : decode cX9_cost 5 = .ok (.aload_n 0, 1) := by decide +kernel
theorem dX9_cost_6 : decode cX9_cost 6 = .ok (.getfield 10, 3) := by decide +kernel
theorem dX9_cost_9 : decode cX9_cost 9 = .ok (.getfield 128, 3) := by decide +kernel
theorem dX9_cost_12 : decode cX9_cost 12 = .ok (.getfield 178, 3) := by decide +kernel
theorem dX9_cost_15 : decode cX9_cost 15 = .ok (.iload_n 1, 1) := by decide +kernel
theorem dX9_cost_16 : decode cX9_cost 16 = .ok (.iaload, 1) := by decide +kernel
theorem dX9_cost_17 : decode cX9_cost 17 = .ok (.ireturn, 1) := by decide +kernel
theorem dX9_siteOf_0 : decode cX9_siteOf 0 = .ok (.aload_n 0, 1) := by decide +kernel
theorem dX9_siteOf_1 : decode cX9_siteOf 1 = .ok (.iload_n 1, 1) := by decide +kernel
theorem dX9_siteOf_2 : decode cX9_siteOf 2 = .ok (.invokevirtual 165, 3) := by decide +kernel
theorem dX9_siteOf_5 : decode cX9_siteOf 5 = .ok (.aload_n 0, 1) := by decide +kernel
theorem dX9_siteOf_6 : decode cX9_siteOf 6 = .ok (.getfield 10, 3) := by decide +kernel
theorem dX9_siteOf_9 : decode cX9_siteOf 9 = .ok (.getfield 128, 3) := by decide +kernel
theorem dX9_siteOf_12 : decode cX9_siteOf 12 = .ok (.getfield 181, 3) := by decide +kernel
theorem dX9_siteOf_15 : decode cX9_siteOf 15 = .ok (.iload_n 1, 1) := by decide +kernel
theorem dX9_siteOf_16 : decode cX9_siteOf 16 = .ok (.iaload, 1) := by decide +kernel
theorem dX9_siteOf_17 : decode cX9_siteOf 17 = .ok (.ireturn, 1) := by decide +kernel
theorem dX9_cancel_0 : decode cX9_cancel 0 = .ok (.aload_n 0, 1) := by decide +kernel
theorem dX9_cancel_1 : decode cX9_cancel 1 = .ok (.iload_n 1, 1) := by decide +kernel
theorem dX9_cancel_2 : decode cX9_cancel 2 = .ok (.invokevirtual 165, 3) := by decide +kernel
theorem dX9_cancel_5 : decode cX9_cancel 5 = .ok (.aload_n 0, 1) := by decide +kernel
theorem dX9_cancel_6 : decode cX9_cancel 6 = .ok (.getfield 10, 3) := by decide +kernel
theorem dX9_cancel_9 : decode cX9_cancel 9 = .ok (.getfield 128, 3) := by decide +kernel
theorem dX9_cancel_12 : decode cX9_cancel 12 = .ok (.getfield 168, 3) := by decide +kernel
theorem dX9_cancel_15 : decode cX9_cancel 15 = .ok (.iload_n 1, 1) := by decide +kernel
theorem dX9_cancel_16 : decode cX9_cancel 16 = .ok (.iaload, 1) := by decide +kernel
theorem dX9_cancel_17 : decode cX9_cancel 17 = .ok (.ifCond .ne 7, 3) := by decide +kernel
theorem dX9_cancel_20 : decode cX9_cancel 20 = .ok (.iconst 1, 1) := by decide +kernel
theorem dX9_cancel_21 : decode cX9_cancel 21 = .ok (.goto 4, 3) := by decide +kernel
theorem dX9_cancel_24 : decode cX9_cancel 24 = .ok (.iconst 0, 1) := by decide +kernel
theorem dX9_cancel_25 : decode cX9_cancel 25 = .ok (.invokestatic 184, 3) := by decide +kernel
theorem dX9_cancel_28 : decode cX9_cancel 28 = .ok (.aload_n 0, 1) := by decide +kernel
theorem dX9_cancel_29 : decode cX9_cancel 29 = .ok (.getfield 10, 3) := by decide +kernel
theorem dX9_cancel_32 : decode cX9_cancel 32 = .ok (.iload_n 1, 1) := by decide +kernel
theorem dX9_cancel_33 : decode cX9_cancel 33 = .ok (.invokevirtual 188, 3) := by decide +kernel
theorem dX9_cancel_36 : decode cX9_cancel 36 = .ok (.istore_n 2, 1) := by decide +kernel
theorem dX9_cancel_37 : decode cX9_cancel 37 = .ok (.aload_n 0, 1) := by decide +kernel
theorem dX9_cancel_38 : decode cX9_cancel 38 = .ok (.getfield 10, 3) := by decide +kernel
theorem dX9_cancel_41 : decode cX9_cancel 41 = .ok (.getfield 128, 3) := by decide +kernel
theorem dX9_cancel_44 : decode cX9_cancel 44 = .ok (.getfield 178, 3) := by decide +kernel
theorem dX9_cancel_47 : decode cX9_cancel 47 = .ok (.iload_n 1, 1) := by decide +kernel
theorem dX9_cancel_48 : decode cX9_cancel 48 = .ok (.dup2, 1) := by decide +kernel
theorem dX9_cancel_49 : decode cX9_cancel 49 = .ok (.iaload, 1) := by decide +kernel
theorem dX9_cancel_50 : decode cX9_cancel 50 = .ok (.iload_n 2, 1) := by decide +kernel
theorem dX9_cancel_51 : decode cX9_cancel 51 = .ok (.isub, 1) := by decide +kernel
theorem dX9_cancel_52 : decode cX9_cancel 52 = .ok (.iastore, 1) := by decide +kernel
theorem dX9_cancel_53 : decode cX9_cancel 53 = .ok (.aload_n 0, 1) := by decide +kernel
theorem dX9_cancel_54 : decode cX9_cancel 54 = .ok (.getfield 10, 3) := by decide +kernel
theorem dX9_cancel_57 : decode cX9_cancel 57 = .ok (.getfield 128, 3) := by decide +kernel
theorem dX9_cancel_60 : decode cX9_cancel 60 = .ok (.getfield 168, 3) := by decide +kernel
theorem dX9_cancel_63 : decode cX9_cancel 63 = .ok (.iload_n 1, 1) := by decide +kernel
theorem dX9_cancel_64 : decode cX9_cancel 64 = .ok (.iconst 3, 1) := by decide +kernel
theorem dX9_cancel_65 : decode cX9_cancel 65 = .ok (.iastore, 1) := by decide +kernel
theorem dX9_cancel_66 : decode cX9_cancel 66 = .ok (.iload_n 2, 1) := by decide +kernel
theorem dX9_cancel_67 : decode cX9_cancel 67 = .ok (.ireturn, 1) := by decide +kernel
theorem dX9_vacantSite_0 : decode cX9_vacantSite 0 = .ok (.aload_n 0, 1) := by decide +kernel
theorem dX9_vacantSite_1 : decode cX9_vacantSite 1 = .ok (.iload_n 1, 1) := by decide +kernel
theorem dX9_vacantSite_2 : decode cX9_vacantSite 2 = .ok (.invokevirtual 80, 3) := by decide +kernel
theorem dX9_vacantSite_5 : decode cX9_vacantSite 5 = .ok (.aload_n 0, 1) := by decide +kernel
theorem dX9_vacantSite_6 : decode cX9_vacantSite 6 = .ok (.getfield 10, 3) := by decide +kernel
theorem dX9_vacantSite_9 : decode cX9_vacantSite 9 = .ok (.iload_n 1, 1) := by decide +kernel
theorem dX9_vacantSite_10 : decode cX9_vacantSite 10 = .ok (.invokevirtual 191, 3) := by decide +kernel
theorem dX9_vacantSite_13 : decode cX9_vacantSite 13 = .ok (.ireturn, 1) := by decide +kernel
theorem dX9_checkIn_0 : decode cX9_checkIn 0 = .ok (.aload_n 0, 1) := by decide +kernel
theorem dX9_checkIn_1 : decode cX9_checkIn 1 = .ok (.iload_n 1, 1) := by decide +kernel
theorem dX9_checkIn_2 : decode cX9_checkIn 2 = .ok (.invokevirtual 165, 3) := by decide +kernel
theorem dX9_checkIn_5 : decode cX9_checkIn 5 = .ok (.aload_n 0, 1) := by decide +kernel
theorem dX9_checkIn_6 : decode cX9_checkIn 6 = .ok (.getfield 10, 3) := by decide +kernel
theorem dX9_checkIn_9 : decode cX9_checkIn 9 = .ok (.getfield 128, 3) := by decide +kernel
theorem dX9_checkIn_12 : decode cX9_checkIn 12 = .ok (.getfield 171, 3) := by decide +kernel
theorem dX9_checkIn_15 : decode cX9_checkIn 15 = .ok (.iload_n 1, 1) := by decide +kernel
theorem dX9_checkIn_16 : decode cX9_checkIn 16 = .ok (.iaload, 1) := by decide +kernel
theorem dX9_checkIn_17 : decode cX9_checkIn 17 = .ok (.istore_n 3, 1) := by decide +kernel
theorem dX9_checkIn_18 : decode cX9_checkIn 18 = .ok (.iload_n 2, 1) := by decide +kernel
theorem dX9_checkIn_19 : decode cX9_checkIn 19 = .ok (.iconst (-1), 1) := by decide +kernel
theorem dX9_checkIn_20 : decode cX9_checkIn 20 = .ok (.if_icmp .eq 14, 3) := by decide +kernel
theorem dX9_checkIn_23 : decode cX9_checkIn 23 = .ok (.aload_n 0, 1) := by decide +kernel
theorem dX9_checkIn_24 : decode cX9_checkIn 24 = .ok (.iload_n 2, 1) := by decide +kernel
theorem dX9_checkIn_25 : decode cX9_checkIn 25 = .ok (.invokevirtual 108, 3) := by decide +kernel
theorem dX9_checkIn_28 : decode cX9_checkIn 28 = .ok (.aload_n 0, 1) := by decide +kernel
theorem dX9_checkIn_29 : decode cX9_checkIn 29 = .ok (.iload_n 2, 1) := by decide +kernel
theorem dX9_checkIn_30 : decode cX9_checkIn 30 = .ok (.iload_n 3, 1) := by decide +kernel
theorem dX9_checkIn_31 : decode cX9_checkIn 31 = .ok (.invokevirtual 194, 3) := by decide +kernel
theorem dX9_checkIn_34 : decode cX9_checkIn 34 = .ok (.aload_n 0, 1) := by decide +kernel
theorem dX9_checkIn_35 : decode cX9_checkIn 35 = .ok (.getfield 10, 3) := by decide +kernel
theorem dX9_checkIn_38 : decode cX9_checkIn 38 = .ok (.getfield 128, 3) := by decide +kernel
theorem dX9_checkIn_41 : decode cX9_checkIn 41 = .ok (.getfield 168, 3) := by decide +kernel
theorem dX9_checkIn_44 : decode cX9_checkIn 44 = .ok (.iload_n 1, 1) := by decide +kernel
theorem dX9_checkIn_45 : decode cX9_checkIn 45 = .ok (.iaload, 1) := by decide +kernel
theorem dX9_checkIn_46 : decode cX9_checkIn 46 = .ok (.ifCond .ne 7, 3) := by decide +kernel
theorem dX9_checkIn_49 : decode cX9_checkIn 49 = .ok (.iconst 1, 1) := by decide +kernel
theorem dX9_checkIn_50 : decode cX9_checkIn 50 = .ok (.goto 4, 3) := by decide +kernel
theorem dX9_checkIn_53 : decode cX9_checkIn 53 = .ok (.iconst 0, 1) := by decide +kernel
theorem dX9_checkIn_54 : decode cX9_checkIn 54 = .ok (.invokestatic 184, 3) := by decide +kernel
theorem dX9_checkIn_57 : decode cX9_checkIn 57 = .ok (.aload_n 0, 1) := by decide +kernel
theorem dX9_checkIn_58 : decode cX9_checkIn 58 = .ok (.getfield 10, 3) := by decide +kernel
theorem dX9_checkIn_61 : decode cX9_checkIn 61 = .ok (.getfield 128, 3) := by decide +kernel
theorem dX9_checkIn_64 : decode cX9_checkIn 64 = .ok (.getfield 172, 3) := by decide +kernel
theorem dX9_checkIn_67 : decode cX9_checkIn 67 = .ok (.iload_n 1, 1) := by decide +kernel
theorem dX9_checkIn_68 : decode cX9_checkIn 68 = .ok (.iaload, 1) := by decide +kernel
theorem dX9_checkIn_69 : decode cX9_checkIn 69 = .ok (.aload_n 0, 1) := by decide +kernel
theorem dX9_checkIn_70 : decode cX9_checkIn 70 = .ok (.getfield 10, 3) := by decide +kernel
theorem dX9_checkIn_73 : decode cX9_checkIn 73 = .ok (.getfield 198, 3) := by decide +kernel
theorem dX9_checkIn_76 : decode cX9_checkIn 76 = .ok (.if_icmp .ne 7, 3) := by decide +kernel
theorem dX9_checkIn_79 : decode cX9_checkIn 79 = .ok (.iconst 1, 1) := by decide +kernel
theorem dX9_checkIn_80 : decode cX9_checkIn 80 = .ok (.goto 4, 3) := by decide +kernel
theorem dX9_checkIn_83 : decode cX9_checkIn 83 = .ok (.iconst 0, 1) := by decide +kernel
theorem dX9_checkIn_84 : decode cX9_checkIn 84 = .ok (.invokestatic 184, 3) := by decide +kernel
theorem dX9_checkIn_87 : decode cX9_checkIn 87 = .ok (.iload_n 2, 1) := by decide +kernel
theorem dX9_checkIn_88 : decode cX9_checkIn 88 = .ok (.iconst (-1), 1) := by decide +kernel
theorem dX9_checkIn_89 : decode cX9_checkIn 89 = .ok (.if_icmp .ne 14, 3) := by decide +kernel
theorem dX9_checkIn_92 : decode cX9_checkIn 92 = .ok (.aload_n 0, 1) := by decide +kernel
theorem dX9_checkIn_93 : decode cX9_checkIn 93 = .ok (.getfield 10, 3) := by decide +kernel
theorem dX9_checkIn_96 : decode cX9_checkIn 96 = .ok (.iload_n 3, 1) := by decide +kernel
theorem dX9_checkIn_97 : decode cX9_checkIn 97 = .ok (.invokevirtual 191, 3) := by decide +kernel
theorem dX9_checkIn_100 : decode cX9_checkIn 100 = .ok (.goto 4, 3) := by decide +kernel
theorem dX9_checkIn_103 : decode cX9_checkIn 103 = .ok (.iload_n 2, 1) := by decide +kernel
theorem dX9_checkIn_104 : decode cX9_checkIn 104 = .ok (.istore 4, 2) := by decide +kernel
theorem dX9_checkIn_106 : decode cX9_checkIn 106 = .ok (.iload 4, 2) := by decide +kernel
theorem dX9_checkIn_108 : decode cX9_checkIn 108 = .ok (.iconst (-1), 1) := by decide +kernel
theorem dX9_checkIn_109 : decode cX9_checkIn 109 = .ok (.if_icmp .eq 19, 3) := by decide +kernel
theorem dX9_checkIn_112 : decode cX9_checkIn 112 = .ok (.aload_n 0, 1) := by decide +kernel
theorem dX9_checkIn_113 : decode cX9_checkIn 113 = .ok (.getfield 10, 3) := by decide +kernel
theorem dX9_checkIn_116 : decode cX9_checkIn 116 = .ok (.iload 4, 2) := by decide +kernel
theorem dX9_checkIn_118 : decode cX9_checkIn 118 = .ok (.invokevirtual 201, 3) := by decide +kernel
theorem dX9_checkIn_121 : decode cX9_checkIn 121 = .ok (.ifCond .eq 7, 3) := by decide +kernel
theorem dX9_checkIn_124 : decode cX9_checkIn 124 = .ok (.iconst 1, 1) := by decide +kernel
theorem dX9_checkIn_125 : decode cX9_checkIn 125 = .ok (.goto 4, 3) := by decide +kernel
theorem dX9_checkIn_128 : decode cX9_checkIn 128 = .ok (.iconst 0, 1) := by decide +kernel
theorem dX9_checkIn_129 : decode cX9_checkIn 129 = .ok (.invokestatic 184, 3) := by decide +kernel
theorem dX9_checkIn_132 : decode cX9_checkIn 132 = .ok (.aload_n 0, 1) := by decide +kernel
theorem dX9_checkIn_133 : decode cX9_checkIn 133 = .ok (.getfield 10, 3) := by decide +kernel
theorem dX9_checkIn_136 : decode cX9_checkIn 136 = .ok (.getfield 128, 3) := by decide +kernel
theorem dX9_checkIn_139 : decode cX9_checkIn 139 = .ok (.getfield 168, 3) := by decide +kernel
theorem dX9_checkIn_142 : decode cX9_checkIn 142 = .ok (.iload_n 1, 1) := by decide +kernel
theorem dX9_checkIn_143 : decode cX9_checkIn 143 = .ok (.iconst 1, 1) := by decide +kernel
theorem dX9_checkIn_144 : decode cX9_checkIn 144 = .ok (.iastore, 1) := by decide +kernel
theorem dX9_checkIn_145 : decode cX9_checkIn 145 = .ok (.aload_n 0, 1) := by decide +kernel
theorem dX9_checkIn_146 : decode cX9_checkIn 146 = .ok (.getfield 10, 3) := by decide +kernel
theorem dX9_checkIn_149 : decode cX9_checkIn 149 = .ok (.getfield 128, 3) := by decide +kernel
theorem dX9_checkIn_152 : decode cX9_checkIn 152 = .ok (.getfield 181, 3) := by decide +kernel
theorem dX9_checkIn_155 : decode cX9_checkIn 155 = .ok (.iload_n 1, 1) := by decide +kernel
theorem dX9_checkIn_156 : decode cX9_checkIn 156 = .ok (.iload 4, 2) := by decide +kernel
theorem dX9_checkIn_158 : decode cX9_checkIn 158 = .ok (.iastore, 1) := by decide +kernel
theorem dX9_checkIn_159 : decode cX9_checkIn 159 = .ok (.iload 4, 2) := by decide +kernel
theorem dX9_checkIn_161 : decode cX9_checkIn 161 = .ok (.ireturn, 1) := by decide +kernel
theorem dX9_move_0 : decode cX9_move 0 = .ok (.aload_n 0, 1) := by decide +kernel
theorem dX9_move_1 : decode cX9_move 1 = .ok (.iload_n 1, 1) := by decide +kernel
theorem dX9_move_2 : decode cX9_move 2 = .ok (.invokevirtual 165, 3) := by decide +kernel
theorem dX9_move_5 : decode cX9_move 5 = .ok (.aload_n 0, 1) := by decide +kernel
theorem dX9_move_6 : decode cX9_move 6 = .ok (.iload_n 2, 1) := by decide +kernel
theorem dX9_move_7 : decode cX9_move 7 = .ok (.invokevirtual 108, 3) := by decide +kernel
theorem dX9_move_10 : decode cX9_move 10 = .ok (.aload_n 0, 1) := by decide +kernel
theorem dX9_move_11 : decode cX9_move 11 = .ok (.iload_n 2, 1) := by decide +kernel
theorem dX9_move_12 : decode cX9_move 12 = .ok (.aload_n 0, 1) := by decide +kernel
theorem dX9_move_13 : decode cX9_move 13 = .ok (.getfield 10, 3) := by decide +kernel
theorem dX9_move_16 : decode cX9_move 16 = .ok (.getfield 128, 3) := by decide +kernel
theorem dX9_move_19 : decode cX9_move 19 = .ok (.getfield 171, 3) := by decide +kernel
theorem dX9_move_22 : decode cX9_move 22 = .ok (.iload_n 1, 1) := by decide +kernel
theorem dX9_move_23 : decode cX9_move 23 = .ok (.iaload, 1) := by decide +kernel
theorem dX9_move_24 : decode cX9_move 24 = .ok (.invokevirtual 194, 3) := by decide +kernel
theorem dX9_move_27 : decode cX9_move 27 = .ok (.aload_n 0, 1) := by decide +kernel
theorem dX9_move_28 : decode cX9_move 28 = .ok (.getfield 10, 3) := by decide +kernel
theorem dX9_move_31 : decode cX9_move 31 = .ok (.getfield 128, 3) := by decide +kernel
theorem dX9_move_34 : decode cX9_move 34 = .ok (.getfield 168, 3) := by decide +kernel
theorem dX9_move_37 : decode cX9_move 37 = .ok (.iload_n 1, 1) := by decide +kernel
theorem dX9_move_38 : decode cX9_move 38 = .ok (.iaload, 1) := by decide +kernel
theorem dX9_move_39 : decode cX9_move 39 = .ok (.iconst 1, 1) := by decide +kernel
theorem dX9_move_40 : decode cX9_move 40 = .ok (.if_icmp .ne 7, 3) := by decide +kernel
theorem dX9_move_43 : decode cX9_move 43 = .ok (.iconst 1, 1) := by decide +kernel
theorem dX9_move_44 : decode cX9_move 44 = .ok (.goto 4, 3) := by decide +kernel
theorem dX9_move_47 : decode cX9_move 47 = .ok (.iconst 0, 1) := by decide +kernel
theorem dX9_move_48 : decode cX9_move 48 = .ok (.invokestatic 184, 3) := by decide +kernel
theorem dX9_move_51 : decode cX9_move 51 = .ok (.aload_n 0, 1) := by decide +kernel
theorem dX9_move_52 : decode cX9_move 52 = .ok (.getfield 10, 3) := by decide +kernel
theorem dX9_move_55 : decode cX9_move 55 = .ok (.iload_n 2, 1) := by decide +kernel
theorem dX9_move_56 : decode cX9_move 56 = .ok (.invokevirtual 201, 3) := by decide +kernel
theorem dX9_move_59 : decode cX9_move 59 = .ok (.invokestatic 184, 3) := by decide +kernel
theorem dX9_move_62 : decode cX9_move 62 = .ok (.aload_n 0, 1) := by decide +kernel
theorem dX9_move_63 : decode cX9_move 63 = .ok (.getfield 10, 3) := by decide +kernel
theorem dX9_move_66 : decode cX9_move 66 = .ok (.getfield 128, 3) := by decide +kernel
theorem dX9_move_69 : decode cX9_move 69 = .ok (.getfield 181, 3) := by decide +kernel
theorem dX9_move_72 : decode cX9_move 72 = .ok (.iload_n 1, 1) := by decide +kernel
theorem dX9_move_73 : decode cX9_move 73 = .ok (.iaload, 1) := by decide +kernel
theorem dX9_move_74 : decode cX9_move 74 = .ok (.istore_n 3, 1) := by decide +kernel
theorem dX9_move_75 : decode cX9_move 75 = .ok (.aload_n 0, 1) := by decide +kernel
theorem dX9_move_76 : decode cX9_move 76 = .ok (.getfield 10, 3) := by decide +kernel
theorem dX9_move_79 : decode cX9_move 79 = .ok (.getfield 128, 3) := by decide +kernel
theorem dX9_move_82 : decode cX9_move 82 = .ok (.getfield 181, 3) := by decide +kernel
theorem dX9_move_85 : decode cX9_move 85 = .ok (.iload_n 1, 1) := by decide +kernel
theorem dX9_move_86 : decode cX9_move 86 = .ok (.iload_n 2, 1) := by decide +kernel
theorem dX9_move_87 : decode cX9_move 87 = .ok (.iastore, 1) := by decide +kernel
theorem dX9_move_88 : decode cX9_move 88 = .ok (.iload_n 3, 1) := by decide +kernel
theorem dX9_move_89 : decode cX9_move 89 = .ok (.ireturn, 1) := by decide +kernel
theorem dX9_departEarly_0 : decode cX9_departEarly 0 = .ok (.aload_n 0, 1) := by decide +kernel
theorem dX9_departEarly_1 : decode cX9_departEarly 1 = .ok (.iload_n 1, 1) := by decide +kernel
theorem dX9_departEarly_2 : decode cX9_departEarly 2 = .ok (.invokevirtual 165, 3) := by decide +kernel
theorem dX9_departEarly_5 : decode cX9_departEarly 5 = .ok (.aload_n 0, 1) := by decide +kernel
theorem dX9_departEarly_6 : decode cX9_departEarly 6 = .ok (.getfield 10, 3) := by decide +kernel
theorem dX9_departEarly_9 : decode cX9_departEarly 9 = .ok (.getfield 128, 3) := by decide +kernel
theorem dX9_departEarly_12 : decode cX9_departEarly 12 = .ok (.getfield 168, 3) := by decide +kernel
theorem dX9_departEarly_15 : decode cX9_departEarly 15 = .ok (.iload_n 1, 1) := by decide +kernel
theorem dX9_departEarly_16 : decode cX9_departEarly 16 = .ok (.iaload, 1) := by decide +kernel
theorem dX9_departEarly_17 : decode cX9_departEarly 17 = .ok (.iconst 1, 1) := by decide +kernel
theorem dX9_departEarly_18 : decode cX9_departEarly 18 = .ok (.if_icmp .ne 7, 3) := by decide +kernel
theorem dX9_departEarly_21 : decode cX9_departEarly 21 = .ok (.iconst 1, 1) := by decide +kernel
theorem dX9_departEarly_22 : decode cX9_departEarly 22 = .ok (.goto 4, 3) := by decide +kernel
theorem dX9_departEarly_25 : decode cX9_departEarly 25 = .ok (.iconst 0, 1) := by decide +kernel
theorem dX9_departEarly_26 : decode cX9_departEarly 26 = .ok (.invokestatic 184, 3) := by decide +kernel
theorem dX9_departEarly_29 : decode cX9_departEarly 29 = .ok (.aload_n 0, 1) := by decide +kernel
theorem dX9_departEarly_30 : decode cX9_departEarly 30 = .ok (.getfield 10, 3) := by decide +kernel
theorem dX9_departEarly_33 : decode cX9_departEarly 33 = .ok (.iload_n 1, 1) := by decide +kernel
theorem dX9_departEarly_34 : decode cX9_departEarly 34 = .ok (.invokevirtual 204, 3) := by decide +kernel
theorem dX9_departEarly_37 : decode cX9_departEarly 37 = .ok (.istore_n 2, 1) := by decide +kernel
theorem dX9_departEarly_38 : decode cX9_departEarly 38 = .ok (.aload_n 0, 1) := by decide +kernel
theorem dX9_departEarly_39 : decode cX9_departEarly 39 = .ok (.getfield 10, 3) := by decide +kernel
theorem dX9_departEarly_42 : decode cX9_departEarly 42 = .ok (.getfield 128, 3) := by decide +kernel
theorem dX9_departEarly_45 : decode cX9_departEarly 45 = .ok (.getfield 178, 3) := by decide +kernel
theorem dX9_departEarly_48 : decode cX9_departEarly 48 = .ok (.iload_n 1, 1) := by decide +kernel
theorem dX9_departEarly_49 : decode cX9_departEarly 49 = .ok (.dup2, 1) := by decide +kernel
theorem dX9_departEarly_50 : decode cX9_departEarly 50 = .ok (.iaload, 1) := by decide +kernel
theorem dX9_departEarly_51 : decode cX9_departEarly 51 = .ok (.iload_n 2, 1) := by decide +kernel
theorem dX9_departEarly_52 : decode cX9_departEarly 52 = .ok (.isub, 1) := by decide +kernel
theorem dX9_departEarly_53 : decode cX9_departEarly 53 = .ok (.iastore, 1) := by decide +kernel
theorem dX9_departEarly_54 : decode cX9_departEarly 54 = .ok (.aload_n 0, 1) := by decide +kernel
theorem dX9_departEarly_55 : decode cX9_departEarly 55 = .ok (.getfield 10, 3) := by decide +kernel
theorem dX9_departEarly_58 : decode cX9_departEarly 58 = .ok (.getfield 128, 3) := by decide +kernel
theorem dX9_departEarly_61 : decode cX9_departEarly 61 = .ok (.getfield 175, 3) := by decide +kernel
theorem dX9_departEarly_64 : decode cX9_departEarly 64 = .ok (.iload_n 1, 1) := by decide +kernel
theorem dX9_departEarly_65 : decode cX9_departEarly 65 = .ok (.aload_n 0, 1) := by decide +kernel
theorem dX9_departEarly_66 : decode cX9_departEarly 66 = .ok (.getfield 10, 3) := by decide +kernel
theorem dX9_departEarly_69 : decode cX9_departEarly 69 = .ok (.getfield 198, 3) := by decide +kernel
theorem dX9_departEarly_72 : decode cX9_departEarly 72 = .ok (.aload_n 0, 1) := by decide +kernel
theorem dX9_departEarly_73 : decode cX9_departEarly 73 = .ok (.getfield 10, 3) := by decide +kernel
theorem dX9_departEarly_76 : decode cX9_departEarly 76 = .ok (.getfield 128, 3) := by decide +kernel
theorem dX9_departEarly_79 : decode cX9_departEarly 79 = .ok (.getfield 172, 3) := by decide +kernel
theorem dX9_departEarly_82 : decode cX9_departEarly 82 = .ok (.iload_n 1, 1) := by decide +kernel
theorem dX9_departEarly_83 : decode cX9_departEarly 83 = .ok (.iaload, 1) := by decide +kernel
theorem dX9_departEarly_84 : decode cX9_departEarly 84 = .ok (.iconst 1, 1) := by decide +kernel
theorem dX9_departEarly_85 : decode cX9_departEarly 85 = .ok (.iadd, 1) := by decide +kernel
theorem dX9_departEarly_86 : decode cX9_departEarly 86 = .ok (.invokestatic 137, 3) := by decide +kernel
theorem dX9_departEarly_89 : decode cX9_departEarly 89 = .ok (.iastore, 1) := by decide +kernel
theorem dX9_departEarly_90 : decode cX9_departEarly 90 = .ok (.aload_n 0, 1) := by decide +kernel
theorem dX9_departEarly_91 : decode cX9_departEarly 91 = .ok (.getfield 10, 3) := by decide +kernel
theorem dX9_departEarly_94 : decode cX9_departEarly 94 = .ok (.getfield 128, 3) := by decide +kernel
theorem dX9_departEarly_97 : decode cX9_departEarly 97 = .ok (.getfield 168, 3) := by decide +kernel
theorem dX9_departEarly_100 : decode cX9_departEarly 100 = .ok (.iload_n 1, 1) := by decide +kernel
theorem dX9_departEarly_101 : decode cX9_departEarly 101 = .ok (.iconst 2, 1) := by decide +kernel
theorem dX9_departEarly_102 : decode cX9_departEarly 102 = .ok (.iastore, 1) := by decide +kernel
theorem dX9_departEarly_103 : decode cX9_departEarly 103 = .ok (.iload_n 2, 1) := by decide +kernel
theorem dX9_departEarly_104 : decode cX9_departEarly 104 = .ok (.ireturn, 1) := by decide +kernel
theorem dX9_extend_0 : decode cX9_extend 0 = .ok (.aload_n 0, 1) := by decide +kernel
theorem dX9_extend_1 : decode cX9_extend 1 = .ok (.iload_n 1, 1) := by decide +kernel
theorem dX9_extend_2 : decode cX9_extend 2 = .ok (.invokevirtual 165, 3) := by decide +kernel
theorem dX9_extend_5 : decode cX9_extend 5 = .ok (.iload_n 2, 1) := by decide +kernel
theorem dX9_extend_6 : decode cX9_extend 6 = .ok (.iconst 1, 1) := by decide +kernel
theorem dX9_extend_7 : decode cX9_extend 7 = .ok (.bipush 28, 2) := by decide +kernel
theorem dX9_extend_9 : decode cX9_extend 9 = .ok (.invokestatic 56, 3) := by decide +kernel
theorem dX9_extend_12 : decode cX9_extend 12 = .ok (.aload_n 0, 1) := by decide +kernel
theorem dX9_extend_13 : decode cX9_extend 13 = .ok (.getfield 10, 3) := by decide +kernel
theorem dX9_extend_16 : decode cX9_extend 16 = .ok (.getfield 128, 3) := by decide +kernel
theorem dX9_extend_19 : decode cX9_extend 19 = .ok (.iload_n 1, 1) := by decide +kernel
theorem dX9_extend_20 : decode cX9_extend 20 = .ok (.invokevirtual 207, 3) := by decide +kernel
theorem dX9_extend_23 : decode cX9_extend 23 = .ok (.invokestatic 184, 3) := by decide +kernel
theorem dX9_extend_26 : decode cX9_extend 26 = .ok (.aload_n 0, 1) := by decide +kernel
theorem dX9_extend_27 : decode cX9_extend 27 = .ok (.getfield 10, 3) := by decide +kernel
theorem dX9_extend_30 : decode cX9_extend 30 = .ok (.getfield 128, 3) := by decide +kernel
theorem dX9_extend_33 : decode cX9_extend 33 = .ok (.getfield 171, 3) := by decide +kernel
theorem dX9_extend_36 : decode cX9_extend 36 = .ok (.iload_n 1, 1) := by decide +kernel
theorem dX9_extend_37 : decode cX9_extend 37 = .ok (.iaload, 1) := by decide +kernel
theorem dX9_extend_38 : decode cX9_extend 38 = .ok (.istore_n 3, 1) := by decide +kernel
theorem dX9_extend_39 : decode cX9_extend 39 = .ok (.aload_n 0, 1) := by decide +kernel
theorem dX9_extend_40 : decode cX9_extend 40 = .ok (.getfield 10, 3) := by decide +kernel
theorem dX9_extend_43 : decode cX9_extend 43 = .ok (.getfield 128, 3) := by decide +kernel
theorem dX9_extend_46 : decode cX9_extend 46 = .ok (.getfield 175, 3) := by decide +kernel
theorem dX9_extend_49 : decode cX9_extend 49 = .ok (.iload_n 1, 1) := by decide +kernel
theorem dX9_extend_50 : decode cX9_extend 50 = .ok (.iaload, 1) := by decide +kernel
theorem dX9_extend_51 : decode cX9_extend 51 = .ok (.istore 4, 2) := by decide +kernel
theorem dX9_extend_53 : decode cX9_extend 53 = .ok (.aload_n 0, 1) := by decide +kernel
theorem dX9_extend_54 : decode cX9_extend 54 = .ok (.getfield 28, 3) := by decide +kernel
theorem dX9_extend_57 : decode cX9_extend 57 = .ok (.iload_n 3, 1) := by decide +kernel
theorem dX9_extend_58 : decode cX9_extend 58 = .ok (.invokevirtual 142, 3) := by decide +kernel
theorem dX9_extend_61 : decode cX9_extend 61 = .ok (.aload_n 0, 1) := by decide +kernel
theorem dX9_extend_62 : decode cX9_extend 62 = .ok (.getfield 28, 3) := by decide +kernel
theorem dX9_extend_65 : decode cX9_extend 65 = .ok (.iload 4, 2) := by decide +kernel
theorem dX9_extend_67 : decode cX9_extend 67 = .ok (.iload_n 2, 1) := by decide +kernel
theorem dX9_extend_68 : decode cX9_extend 68 = .ok (.invokevirtual 210, 3) := by decide +kernel
theorem dX9_extend_71 : decode cX9_extend 71 = .ok (.ifCond .ne 7, 3) := by decide +kernel
theorem dX9_extend_74 : decode cX9_extend 74 = .ok (.iconst 1, 1) := by decide +kernel
theorem dX9_extend_75 : decode cX9_extend 75 = .ok (.goto 4, 3) := by decide +kernel
theorem dX9_extend_78 : decode cX9_extend 78 = .ok (.iconst 0, 1) := by decide +kernel
theorem dX9_extend_79 : decode cX9_extend 79 = .ok (.invokestatic 184, 3) := by decide +kernel
theorem dX9_extend_82 : decode cX9_extend 82 = .ok (.aload_n 0, 1) := by decide +kernel
theorem dX9_extend_83 : decode cX9_extend 83 = .ok (.getfield 10, 3) := by decide +kernel
theorem dX9_extend_86 : decode cX9_extend 86 = .ok (.getfield 96, 3) := by decide +kernel
theorem dX9_extend_89 : decode cX9_extend 89 = .ok (.iload_n 3, 1) := by decide +kernel
theorem dX9_extend_90 : decode cX9_extend 90 = .ok (.iload 4, 2) := by decide +kernel
theorem dX9_extend_92 : decode cX9_extend 92 = .ok (.iload 4, 2) := by decide +kernel
theorem dX9_extend_94 : decode cX9_extend 94 = .ok (.iload_n 2, 1) := by decide +kernel
theorem dX9_extend_95 : decode cX9_extend 95 = .ok (.iadd, 1) := by decide +kernel
theorem dX9_extend_96 : decode cX9_extend 96 = .ok (.invokevirtual 148, 3) := by decide +kernel
theorem dX9_extend_99 : decode cX9_extend 99 = .ok (.istore 5, 2) := by decide +kernel
theorem dX9_extend_101 : decode cX9_extend 101 = .ok (.aload_n 0, 1) := by decide +kernel
theorem dX9_extend_102 : decode cX9_extend 102 = .ok (.getfield 10, 3) := by decide +kernel
theorem dX9_extend_105 : decode cX9_extend 105 = .ok (.getfield 128, 3) := by decide +kernel
theorem dX9_extend_108 : decode cX9_extend 108 = .ok (.getfield 175, 3) := by decide +kernel
theorem dX9_extend_111 : decode cX9_extend 111 = .ok (.iload_n 1, 1) := by decide +kernel
theorem dX9_extend_112 : decode cX9_extend 112 = .ok (.iload 4, 2) := by decide +kernel
theorem dX9_extend_114 : decode cX9_extend 114 = .ok (.iload_n 2, 1) := by decide +kernel
theorem dX9_extend_115 : decode cX9_extend 115 = .ok (.iadd, 1) := by decide +kernel
theorem dX9_extend_116 : decode cX9_extend 116 = .ok (.iastore, 1) := by decide +kernel
theorem dX9_extend_117 : decode cX9_extend 117 = .ok (.aload_n 0, 1) := by decide +kernel
theorem dX9_extend_118 : decode cX9_extend 118 = .ok (.getfield 10, 3) := by decide +kernel
theorem dX9_extend_121 : decode cX9_extend 121 = .ok (.getfield 128, 3) := by decide +kernel
theorem dX9_extend_124 : decode cX9_extend 124 = .ok (.getfield 178, 3) := by decide +kernel
theorem dX9_extend_127 : decode cX9_extend 127 = .ok (.iload_n 1, 1) := by decide +kernel
theorem dX9_extend_128 : decode cX9_extend 128 = .ok (.dup2, 1) := by decide +kernel
theorem dX9_extend_129 : decode cX9_extend 129 = .ok (.iaload, 1) := by decide +kernel
theorem dX9_extend_130 : decode cX9_extend 130 = .ok (.iload 5, 2) := by decide +kernel
theorem dX9_extend_132 : decode cX9_extend 132 = .ok (.iadd, 1) := by decide +kernel
theorem dX9_extend_133 : decode cX9_extend 133 = .ok (.iastore, 1) := by decide +kernel
theorem dX9_extend_134 : decode cX9_extend 134 = .ok (.iload 5, 2) := by decide +kernel
theorem dX9_extend_136 : decode cX9_extend 136 = .ok (.ireturn, 1) := by decide +kernel
theorem dX9_endDays_0 : decode cX9_endDays 0 = .ok (.iload_n 1, 1) := by decide +kernel
theorem dX9_endDays_1 : decode cX9_endDays 1 = .ok (.iconst 1, 1) := by decide +kernel
theorem dX9_endDays_2 : decode cX9_endDays 2 = .ok (.bipush 60, 2) := by decide +kernel
theorem dX9_endDays_4 : decode cX9_endDays 4 = .ok (.invokestatic 56, 3) := by decide +kernel
theorem dX9_endDays_7 : decode cX9_endDays 7 = .ok (.aload_n 0, 1) := by decide +kernel
theorem dX9_endDays_8 : decode cX9_endDays 8 = .ok (.getfield 10, 3) := by decide +kernel
theorem dX9_endDays_11 : decode cX9_endDays 11 = .ok (.getfield 198, 3) := by decide +kernel
theorem dX9_endDays_14 : decode cX9_endDays 14 = .ok (.iload_n 1, 1) := by decide +kernel
theorem dX9_endDays_15 : decode cX9_endDays 15 = .ok (.iadd, 1) := by decide +kernel
theorem dX9_endDays_16 : decode cX9_endDays 16 = .ok (.sipush 999, 3) := by decide +kernel
theorem dX9_endDays_19 : decode cX9_endDays 19 = .ok (.if_icmp .le 13, 3) := by decide +kernel
theorem dX9_endDays_22 : decode cX9_endDays 22 = .ok (.new 69, 3) := by decide +kernel
theorem dX9_endDays_25 : decode cX9_endDays 25 = .ok (.dup, 1) := by decide +kernel
theorem dX9_endDays_26 : decode cX9_endDays 26 = .ok (.ldc 213, 2) := by decide +kernel
theorem dX9_endDays_28 : decode cX9_endDays 28 = .ok (.invokespecial 73, 3) := by decide +kernel
theorem dX9_endDays_31 : decode cX9_endDays 31 = .ok (.athrow, 1) := by decide +kernel
theorem dX9_endDays_32 : decode cX9_endDays 32 = .ok (.iconst 0, 1) := by decide +kernel
theorem dX9_endDays_33 : decode cX9_endDays 33 = .ok (.istore_n 2, 1) := by decide +kernel
theorem dX9_endDays_34 : decode cX9_endDays 34 = .ok (.iload_n 2, 1) := by decide +kernel
theorem dX9_endDays_35 : decode cX9_endDays 35 = .ok (.iload_n 1, 1) := by decide +kernel
theorem dX9_endDays_36 : decode cX9_endDays 36 = .ok (.if_icmp .ge 16, 3) := by decide +kernel
theorem dX9_endDays_39 : decode cX9_endDays 39 = .ok (.aload_n 0, 1) := by decide +kernel
theorem dX9_endDays_40 : decode cX9_endDays 40 = .ok (.getfield 10, 3) := by decide +kernel
theorem dX9_endDays_43 : decode cX9_endDays 43 = .ok (.invokevirtual 215, 3) := by decide +kernel
theorem dX9_endDays_46 : decode cX9_endDays 46 = .ok (.iinc 2 1, 3) := by decide +kernel
theorem dX9_endDays_49 : decode cX9_endDays 49 = .ok (.goto (-15), 3) := by decide +kernel
theorem dX9_endDays_52 : decode cX9_endDays 52 = .ok (.aload_n 0, 1) := by decide +kernel
theorem dX9_endDays_53 : decode cX9_endDays 53 = .ok (.getfield 10, 3) := by decide +kernel
theorem dX9_endDays_56 : decode cX9_endDays 56 = .ok (.getfield 198, 3) := by decide +kernel
theorem dX9_endDays_59 : decode cX9_endDays 59 = .ok (.ireturn, 1) := by decide +kernel
theorem dX9_today_0 : decode cX9_today 0 = .ok (.aload_n 0, 1) := by decide +kernel
theorem dX9_today_1 : decode cX9_today 1 = .ok (.getfield 10, 3) := by decide +kernel
theorem dX9_today_4 : decode cX9_today 4 = .ok (.getfield 198, 3) := by decide +kernel
theorem dX9_today_7 : decode cX9_today 7 = .ok (.ireturn, 1) := by decide +kernel
theorem dX9_close_0 : decode cX9_close 0 = .ok (.aload_n 0, 1) := by decide +kernel
theorem dX9_close_1 : decode cX9_close 1 = .ok (.iload_n 1, 1) := by decide +kernel
theorem dX9_close_2 : decode cX9_close 2 = .ok (.invokevirtual 108, 3) := by decide +kernel
theorem dX9_close_5 : decode cX9_close 5 = .ok (.iload_n 2, 1) := by decide +kernel
theorem dX9_close_6 : decode cX9_close 6 = .ok (.aload_n 0, 1) := by decide +kernel
theorem dX9_close_7 : decode cX9_close 7 = .ok (.getfield 10, 3) := by decide +kernel
theorem dX9_close_10 : decode cX9_close 10 = .ok (.getfield 198, 3) := by decide +kernel
theorem dX9_close_13 : decode cX9_close 13 = .ok (.iconst 1, 1) := by decide +kernel
theorem dX9_close_14 : decode cX9_close 14 = .ok (.iadd, 1) := by decide +kernel
theorem dX9_close_15 : decode cX9_close 15 = .ok (.sipush 999, 3) := by decide +kernel
theorem dX9_close_18 : decode cX9_close 18 = .ok (.invokestatic 56, 3) := by decide +kernel
theorem dX9_close_21 : decode cX9_close 21 = .ok (.aload_n 0, 1) := by decide +kernel
theorem dX9_close_22 : decode cX9_close 22 = .ok (.getfield 10, 3) := by decide +kernel
theorem dX9_close_25 : decode cX9_close 25 = .ok (.iload_n 1, 1) := by decide +kernel
theorem dX9_close_26 : decode cX9_close 26 = .ok (.invokevirtual 201, 3) := by decide +kernel
theorem dX9_close_29 : decode cX9_close 29 = .ok (.invokestatic 184, 3) := by decide +kernel
theorem dX9_close_32 : decode cX9_close 32 = .ok (.aload_n 0, 1) := by decide +kernel
theorem dX9_close_33 : decode cX9_close 33 = .ok (.getfield 10, 3) := by decide +kernel
theorem dX9_close_36 : decode cX9_close 36 = .ok (.aload_n 0, 1) := by decide +kernel
theorem dX9_close_37 : decode cX9_close 37 = .ok (.getfield 10, 3) := by decide +kernel
theorem dX9_close_40 : decode cX9_close 40 = .ok (.getfield 84, 3) := by decide +kernel
theorem dX9_close_43 : decode cX9_close 43 = .ok (.getfield 111, 3) := by decide +kernel
theorem dX9_close_46 : decode cX9_close 46 = .ok (.iload_n 1, 1) := by decide +kernel
theorem dX9_close_47 : decode cX9_close 47 = .ok (.iaload, 1) := by decide +kernel
theorem dX9_close_48 : decode cX9_close 48 = .ok (.iload_n 2, 1) := by decide +kernel
theorem dX9_close_49 : decode cX9_close 49 = .ok (.invokevirtual 218, 3) := by decide +kernel
theorem dX9_close_52 : decode cX9_close 52 = .ok (.invokestatic 184, 3) := by decide +kernel
theorem dX9_close_55 : decode cX9_close 55 = .ok (.aload_n 0, 1) := by decide +kernel
theorem dX9_close_56 : decode cX9_close 56 = .ok (.getfield 10, 3) := by decide +kernel
theorem dX9_close_59 : decode cX9_close 59 = .ok (.getfield 84, 3) := by decide +kernel
theorem dX9_close_62 : decode cX9_close 62 = .ok (.getfield 222, 3) := by decide +kernel
theorem dX9_close_65 : decode cX9_close 65 = .ok (.iload_n 1, 1) := by decide +kernel
theorem dX9_close_66 : decode cX9_close 66 = .ok (.iload_n 2, 1) := by decide +kernel
theorem dX9_close_67 : decode cX9_close 67 = .ok (.iastore, 1) := by decide +kernel
theorem dX9_close_68 : decode cX9_close 68 = .ok (.return_, 1) := by decide +kernel
theorem dX9_open_0 : decode cX9_open 0 = .ok (.aload_n 0, 1) := by decide +kernel
theorem dX9_open_1 : decode cX9_open 1 = .ok (.iload_n 1, 1) := by decide +kernel
theorem dX9_open_2 : decode cX9_open 2 = .ok (.invokevirtual 108, 3) := by decide +kernel
theorem dX9_open_5 : decode cX9_open 5 = .ok (.aload_n 0, 1) := by decide +kernel
theorem dX9_open_6 : decode cX9_open 6 = .ok (.getfield 10, 3) := by decide +kernel
theorem dX9_open_9 : decode cX9_open 9 = .ok (.getfield 84, 3) := by decide +kernel
theorem dX9_open_12 : decode cX9_open 12 = .ok (.iload_n 1, 1) := by decide +kernel
theorem dX9_open_13 : decode cX9_open 13 = .ok (.aload_n 0, 1) := by decide +kernel
theorem dX9_open_14 : decode cX9_open 14 = .ok (.getfield 10, 3) := by decide +kernel
theorem dX9_open_17 : decode cX9_open 17 = .ok (.getfield 198, 3) := by decide +kernel
theorem dX9_open_20 : decode cX9_open 20 = .ok (.invokevirtual 225, 3) := by decide +kernel
theorem dX9_open_23 : decode cX9_open 23 = .ok (.invokestatic 184, 3) := by decide +kernel
theorem dX9_open_26 : decode cX9_open 26 = .ok (.aload_n 0, 1) := by decide +kernel
theorem dX9_open_27 : decode cX9_open 27 = .ok (.getfield 10, 3) := by decide +kernel
theorem dX9_open_30 : decode cX9_open 30 = .ok (.getfield 84, 3) := by decide +kernel
theorem dX9_open_33 : decode cX9_open 33 = .ok (.getfield 222, 3) := by decide +kernel
theorem dX9_open_36 : decode cX9_open 36 = .ok (.iload_n 1, 1) := by decide +kernel
theorem dX9_open_37 : decode cX9_open 37 = .ok (.iaload, 1) := by decide +kernel
theorem dX9_open_38 : decode cX9_open 38 = .ok (.istore_n 2, 1) := by decide +kernel
theorem dX9_open_39 : decode cX9_open 39 = .ok (.aload_n 0, 1) := by decide +kernel
theorem dX9_open_40 : decode cX9_open 40 = .ok (.getfield 10, 3) := by decide +kernel
theorem dX9_open_43 : decode cX9_open 43 = .ok (.getfield 84, 3) := by decide +kernel
theorem dX9_open_46 : decode cX9_open 46 = .ok (.getfield 222, 3) := by decide +kernel
theorem dX9_open_49 : decode cX9_open 49 = .ok (.iload_n 1, 1) := by decide +kernel
theorem dX9_open_50 : decode cX9_open 50 = .ok (.iconst 0, 1) := by decide +kernel
theorem dX9_open_51 : decode cX9_open 51 = .ok (.iastore, 1) := by decide +kernel
theorem dX9_open_52 : decode cX9_open 52 = .ok (.iload_n 2, 1) := by decide +kernel
theorem dX9_open_53 : decode cX9_open 53 = .ok (.ireturn, 1) := by decide +kernel
theorem dX9_request_0 : decode cX9_request 0 = .ok (.aload_n 0, 1) := by decide +kernel
theorem dX9_request_1 : decode cX9_request 1 = .ok (.iload_n 1, 1) := by decide +kernel
theorem dX9_request_2 : decode cX9_request 2 = .ok (.invokevirtual 80, 3) := by decide +kernel
theorem dX9_request_5 : decode cX9_request 5 = .ok (.iload_n 2, 1) := by decide +kernel
theorem dX9_request_6 : decode cX9_request 6 = .ok (.aload_n 0, 1) := by decide +kernel
theorem dX9_request_7 : decode cX9_request 7 = .ok (.getfield 10, 3) := by decide +kernel
theorem dX9_request_10 : decode cX9_request 10 = .ok (.getfield 198, 3) := by decide +kernel
theorem dX9_request_13 : decode cX9_request 13 = .ok (.sipush 998, 3) := by decide +kernel
theorem dX9_request_16 : decode cX9_request 16 = .ok (.invokestatic 56, 3) := by decide +kernel
theorem dX9_request_19 : decode cX9_request 19 = .ok (.iload_n 3, 1) := by decide +kernel
theorem dX9_request_20 : decode cX9_request 20 = .ok (.iconst 1, 1) := by decide +kernel
theorem dX9_request_21 : decode cX9_request 21 = .ok (.bipush 28, 2) := by decide +kernel
theorem dX9_request_23 : decode cX9_request 23 = .ok (.invokestatic 56, 3) := by decide +kernel
theorem dX9_request_26 : decode cX9_request 26 = .ok (.aload_n 0, 1) := by decide +kernel
theorem dX9_request_27 : decode cX9_request 27 = .ok (.getfield 10, 3) := by decide +kernel
theorem dX9_request_30 : decode cX9_request 30 = .ok (.getfield 228, 3) := by decide +kernel
theorem dX9_request_33 : decode cX9_request 33 = .ok (.getfield 232, 3) := by decide +kernel
theorem dX9_request_36 : decode cX9_request 36 = .ok (.bipush 20, 2) := by decide +kernel
theorem dX9_request_38 : decode cX9_request 38 = .ok (.if_icmp .lt 13, 3) := by decide +kernel
theorem dX9_request_41 : decode cX9_request 41 = .ok (.new 69, 3) := by decide +kernel
theorem dX9_request_44 : decode cX9_request 44 = .ok (.dup, 1) := by decide +kernel
theorem dX9_request_45 : decode cX9_request 45 = .ok (.ldc 235, 2) := by decide +kernel
theorem dX9_request_47 : decode cX9_request 47 = .ok (.invokespecial 73, 3) := by decide +kernel
theorem dX9_request_50 : decode cX9_request 50 = .ok (.athrow, 1) := by decide +kernel
theorem dX9_request_51 : decode cX9_request 51 = .ok (.aload_n 0, 1) := by decide +kernel
theorem dX9_request_52 : decode cX9_request 52 = .ok (.getfield 10, 3) := by decide +kernel
theorem dX9_request_55 : decode cX9_request 55 = .ok (.getfield 228, 3) := by decide +kernel
theorem dX9_request_58 : decode cX9_request 58 = .ok (.iload_n 1, 1) := by decide +kernel
theorem dX9_request_59 : decode cX9_request 59 = .ok (.iload_n 2, 1) := by decide +kernel
theorem dX9_request_60 : decode cX9_request 60 = .ok (.iload_n 3, 1) := by decide +kernel
theorem dX9_request_61 : decode cX9_request 61 = .ok (.invokevirtual 237, 3) := by decide +kernel
theorem dX9_request_64 : decode cX9_request 64 = .ok (.ireturn, 1) := by decide +kernel
theorem dX9_requestState_0 : decode cX9_requestState 0 = .ok (.aload_n 0, 1) := by decide +kernel
theorem dX9_requestState_1 : decode cX9_requestState 1 = .ok (.iload_n 1, 1) := by decide +kernel
theorem dX9_requestState_2 : decode cX9_requestState 2 = .ok (.invokevirtual 238, 3) := by decide +kernel
theorem dX9_requestState_5 : decode cX9_requestState 5 = .ok (.aload_n 0, 1) := by decide +kernel
theorem dX9_requestState_6 : decode cX9_requestState 6 = .ok (.getfield 10, 3) := by decide +kernel
theorem dX9_requestState_9 : decode cX9_requestState 9 = .ok (.getfield 228, 3) := by decide +kernel
theorem dX9_requestState_12 : decode cX9_requestState 12 = .ok (.getfield 241, 3) := by decide +kernel
theorem dX9_requestState_15 : decode cX9_requestState 15 = .ok (.iload_n 1, 1) := by decide +kernel
theorem dX9_requestState_16 : decode cX9_requestState 16 = .ok (.iaload, 1) := by decide +kernel
theorem dX9_requestState_17 : decode cX9_requestState 17 = .ok (.ireturn, 1) := by decide +kernel
theorem dX9_bookingOf_0 : decode cX9_bookingOf 0 = .ok (.aload_n 0, 1) := by decide +kernel
theorem dX9_bookingOf_1 : decode cX9_bookingOf 1 = .ok (.iload_n 1, 1) := by decide +kernel
theorem dX9_bookingOf_2 : decode cX9_bookingOf 2 = .ok (.invokevirtual 238, 3) := by decide +kernel
theorem dX9_bookingOf_5 : decode cX9_bookingOf 5 = .ok (.aload_n 0, 1) := by decide +kernel
theorem dX9_bookingOf_6 : decode cX9_bookingOf 6 = .ok (.getfield 10, 3) := by decide +kernel
theorem dX9_bookingOf_9 : decode cX9_bookingOf 9 = .ok (.getfield 228, 3) := by decide +kernel
theorem dX9_bookingOf_12 : decode cX9_bookingOf 12 = .ok (.getfield 242, 3) := by decide +kernel
theorem dX9_bookingOf_15 : decode cX9_bookingOf 15 = .ok (.iload_n 1, 1) := by decide +kernel
theorem dX9_bookingOf_16 : decode cX9_bookingOf 16 = .ok (.iaload, 1) := by decide +kernel
theorem dX9_bookingOf_17 : decode cX9_bookingOf 17 = .ok (.ireturn, 1) := by decide +kernel
theorem dX9_withdraw_0 : decode cX9_withdraw 0 = .ok (.aload_n 0, 1) := by decide +kernel
theorem dX9_withdraw_1 : decode cX9_withdraw 1 = .ok (.iload_n 1, 1) := by decide +kernel
theorem dX9_withdraw_2 : decode cX9_withdraw 2 = .ok (.invokevirtual 238, 3) := by decide +kernel
theorem dX9_withdraw_5 : decode cX9_withdraw 5 = .ok (.aload_n 0, 1) := by decide +kernel
theorem dX9_withdraw_6 : decode cX9_withdraw 6 = .ok (.getfield 10, 3) := by decide +kernel
theorem dX9_withdraw_9 : decode cX9_withdraw 9 = .ok (.getfield 228, 3) := by decide +kernel
theorem dX9_withdraw_12 : decode cX9_withdraw 12 = .ok (.getfield 241, 3) := by decide +kernel
theorem dX9_withdraw_15 : decode cX9_withdraw 15 = .ok (.iload_n 1, 1) := by decide +kernel
theorem dX9_withdraw_16 : decode cX9_withdraw 16 = .ok (.iaload, 1) := by decide +kernel
theorem dX9_withdraw_17 : decode cX9_withdraw 17 = .ok (.ifCond .ne 7, 3) := by decide +kernel
theorem dX9_withdraw_20 : decode cX9_withdraw 20 = .ok (.iconst 1, 1) := by decide +kernel
theorem dX9_withdraw_21 : decode cX9_withdraw 21 = .ok (.goto 4, 3) := by decide +kernel
theorem dX9_withdraw_24 : decode cX9_withdraw 24 = .ok (.iconst 0, 1) := by decide +kernel
theorem dX9_withdraw_25 : decode cX9_withdraw 25 = .ok (.invokestatic 184, 3) := by decide +kernel
theorem dX9_withdraw_28 : decode cX9_withdraw 28 = .ok (.aload_n 0, 1) := by decide +kernel
theorem dX9_withdraw_29 : decode cX9_withdraw 29 = .ok (.getfield 10, 3) := by decide +kernel
theorem dX9_withdraw_32 : decode cX9_withdraw 32 = .ok (.getfield 228, 3) := by decide +kernel
theorem dX9_withdraw_35 : decode cX9_withdraw 35 = .ok (.getfield 241, 3) := by decide +kernel
theorem dX9_withdraw_38 : decode cX9_withdraw 38 = .ok (.iload_n 1, 1) := by decide +kernel
theorem dX9_withdraw_39 : decode cX9_withdraw 39 = .ok (.iconst 2, 1) := by decide +kernel
theorem dX9_withdraw_40 : decode cX9_withdraw 40 = .ok (.iastore, 1) := by decide +kernel
theorem dX9_withdraw_41 : decode cX9_withdraw 41 = .ok (.return_, 1) := by decide +kernel
theorem dX9_fill_0 : decode cX9_fill 0 = .ok (.aload_n 0, 1) := by decide +kernel
theorem dX9_fill_1 : decode cX9_fill 1 = .ok (.iload_n 1, 1) := by decide +kernel
theorem dX9_fill_2 : decode cX9_fill 2 = .ok (.invokevirtual 80, 3) := by decide +kernel
theorem dX9_fill_5 : decode cX9_fill 5 = .ok (.iconst 0, 1) := by decide +kernel
theorem dX9_fill_6 : decode cX9_fill 6 = .ok (.istore_n 2, 1) := by decide +kernel
theorem dX9_fill_7 : decode cX9_fill 7 = .ok (.iload_n 2, 1) := by decide +kernel
theorem dX9_fill_8 : decode cX9_fill 8 = .ok (.bipush 20, 2) := by decide +kernel
theorem dX9_fill_10 : decode cX9_fill 10 = .ok (.if_icmp .ge 43, 3) := by decide +kernel
theorem dX9_fill_13 : decode cX9_fill 13 = .ok (.aload_n 0, 1) := by decide +kernel
theorem dX9_fill_14 : decode cX9_fill 14 = .ok (.getfield 10, 3) := by decide +kernel
theorem dX9_fill_17 : decode cX9_fill 17 = .ok (.getfield 128, 3) := by decide +kernel
theorem dX9_fill_20 : decode cX9_fill 20 = .ok (.invokevirtual 155, 3) := by decide +kernel
theorem dX9_fill_23 : decode cX9_fill 23 = .ok (.ifCond .ne 30, 3) := by decide +kernel
theorem dX9_fill_26 : decode cX9_fill 26 = .ok (.aload_n 0, 1) := by decide +kernel
theorem dX9_fill_27 : decode cX9_fill 27 = .ok (.iload_n 1, 1) := by decide +kernel
theorem dX9_fill_28 : decode cX9_fill 28 = .ok (.invokevirtual 245, 3) := by decide +kernel
theorem dX9_fill_31 : decode cX9_fill 31 = .ok (.istore_n 3, 1) := by decide +kernel
theorem dX9_fill_32 : decode cX9_fill 32 = .ok (.iload_n 3, 1) := by decide +kernel
theorem dX9_fill_33 : decode cX9_fill 33 = .ok (.iconst (-1), 1) := by decide +kernel
theorem dX9_fill_34 : decode cX9_fill 34 = .ok (.if_icmp .ne 5, 3) := by decide +kernel
theorem dX9_fill_37 : decode cX9_fill 37 = .ok (.iload_n 2, 1) := by decide +kernel
theorem dX9_fill_38 : decode cX9_fill 38 = .ok (.ireturn, 1) := by decide +kernel
theorem dX9_fill_39 : decode cX9_fill 39 = .ok (.aload_n 0, 1) := by decide +kernel
theorem dX9_fill_40 : decode cX9_fill 40 = .ok (.getfield 10, 3) := by decide +kernel
theorem dX9_fill_43 : decode cX9_fill 43 = .ok (.iload_n 3, 1) := by decide +kernel
theorem dX9_fill_44 : decode cX9_fill 44 = .ok (.invokevirtual 248, 3) := by decide +kernel
theorem dX9_fill_47 : decode cX9_fill 47 = .ok (.iinc 2 1, 3) := by decide +kernel
theorem dX9_fill_50 : decode cX9_fill 50 = .ok (.goto (-43), 3) := by decide +kernel
theorem dX9_fill_53 : decode cX9_fill 53 = .ok (.iload_n 2, 1) := by decide +kernel
theorem dX9_fill_54 : decode cX9_fill 54 = .ok (.ireturn, 1) := by decide +kernel
theorem dX9_planSite_0 : decode cX9_planSite 0 = .ok (.aload_n 0, 1) := by decide +kernel
theorem dX9_planSite_1 : decode cX9_planSite 1 = .ok (.iload_n 1, 1) := by decide +kernel
theorem dX9_planSite_2 : decode cX9_planSite 2 = .ok (.invokevirtual 165, 3) := by decide +kernel
theorem dX9_planSite_5 : decode cX9_planSite 5 = .ok (.iload_n 2, 1) := by decide +kernel
theorem dX9_planSite_6 : decode cX9_planSite 6 = .ok (.iconst 0, 1) := by decide +kernel
theorem dX9_planSite_7 : decode cX9_planSite 7 = .ok (.iconst 1, 1) := by decide +kernel
theorem dX9_planSite_8 : decode cX9_planSite 8 = .ok (.invokestatic 56, 3) := by decide +kernel
theorem dX9_planSite_11 : decode cX9_planSite 11 = .ok (.aload_n 0, 1) := by decide +kernel
theorem dX9_planSite_12 : decode cX9_planSite 12 = .ok (.getfield 10, 3) := by decide +kernel
theorem dX9_planSite_15 : decode cX9_planSite 15 = .ok (.getfield 128, 3) := by decide +kernel
theorem dX9_planSite_18 : decode cX9_planSite 18 = .ok (.iload_n 1, 1) := by decide +kernel
theorem dX9_planSite_19 : decode cX9_planSite 19 = .ok (.invokevirtual 207, 3) := by decide +kernel
theorem dX9_planSite_22 : decode cX9_planSite 22 = .ok (.invokestatic 184, 3) := by decide +kernel
theorem dX9_planSite_25 : decode cX9_planSite 25 = .ok (.aload_n 0, 1) := by decide +kernel
theorem dX9_planSite_26 : decode cX9_planSite 26 = .ok (.getfield 35, 3) := by decide +kernel
theorem dX9_planSite_29 : decode cX9_planSite 29 = .ok (.aload_n 0, 1) := by decide +kernel
theorem dX9_planSite_30 : decode cX9_planSite 30 = .ok (.getfield 10, 3) := by decide +kernel
theorem dX9_planSite_33 : decode cX9_planSite 33 = .ok (.getfield 128, 3) := by decide +kernel
theorem dX9_planSite_36 : decode cX9_planSite 36 = .ok (.getfield 171, 3) := by decide +kernel
theorem dX9_planSite_39 : decode cX9_planSite 39 = .ok (.iload_n 1, 1) := by decide +kernel
theorem dX9_planSite_40 : decode cX9_planSite 40 = .ok (.iaload, 1) := by decide +kernel
theorem dX9_planSite_41 : decode cX9_planSite 41 = .ok (.iload_n 2, 1) := by decide +kernel
theorem dX9_planSite_42 : decode cX9_planSite 42 = .ok (.invokevirtual 251, 3) := by decide +kernel
theorem dX9_planSite_45 : decode cX9_planSite 45 = .ok (.aload_n 0, 1) := by decide +kernel
theorem dX9_planSite_46 : decode cX9_planSite 46 = .ok (.getfield 35, 3) := by decide +kernel
theorem dX9_planSite_49 : decode cX9_planSite 49 = .ok (.getfield 254, 3) := by decide +kernel
theorem dX9_planSite_52 : decode cX9_planSite 52 = .ok (.iload_n 1, 1) := by decide +kernel
theorem dX9_planSite_53 : decode cX9_planSite 53 = .ok (.iaload, 1) := by decide +kernel
theorem dX9_planSite_54 : decode cX9_planSite 54 = .ok (.ireturn, 1) := by decide +kernel
theorem dX9_gapNights_0 : decode cX9_gapNights 0 = .ok (.aload_n 0, 1) := by decide +kernel
theorem dX9_gapNights_1 : decode cX9_gapNights 1 = .ok (.iload_n 1, 1) := by decide +kernel
theorem dX9_gapNights_2 : decode cX9_gapNights 2 = .ok (.invokevirtual 80, 3) := by decide +kernel
theorem dX9_gapNights_5 : decode cX9_gapNights 5 = .ok (.iload_n 2, 1) := by decide +kernel
theorem dX9_gapNights_6 : decode cX9_gapNights 6 = .ok (.iconst 0, 1) := by decide +kernel
theorem dX9_gapNights_7 : decode cX9_gapNights 7 = .ok (.iconst 1, 1) := by decide +kernel
theorem dX9_gapNights_8 : decode cX9_gapNights 8 = .ok (.invokestatic 56, 3) := by decide +kernel
theorem dX9_gapNights_11 : decode cX9_gapNights 11 = .ok (.aload_n 0, 1) := by decide +kernel
theorem dX9_gapNights_12 : decode cX9_gapNights 12 = .ok (.getfield 35, 3) := by decide +kernel
theorem dX9_gapNights_15 : decode cX9_gapNights 15 = .ok (.iload_n 1, 1) := by decide +kernel
theorem dX9_gapNights_16 : decode cX9_gapNights 16 = .ok (.iload_n 2, 1) := by decide +kernel
theorem dX9_gapNights_17 : decode cX9_gapNights 17 = .ok (.invokevirtual 251, 3) := by decide +kernel
theorem dX9_gapNights_20 : decode cX9_gapNights 20 = .ok (.aload_n 0, 1) := by decide +kernel
theorem dX9_gapNights_21 : decode cX9_gapNights 21 = .ok (.getfield 35, 3) := by decide +kernel
theorem dX9_gapNights_24 : decode cX9_gapNights 24 = .ok (.getfield 255, 3) := by decide +kernel
theorem dX9_gapNights_27 : decode cX9_gapNights 27 = .ok (.ireturn, 1) := by decide +kernel
theorem dX9_orphanNights_0 : decode cX9_orphanNights 0 = .ok (.aload_n 0, 1) := by decide +kernel
theorem dX9_orphanNights_1 : decode cX9_orphanNights 1 = .ok (.iload_n 1, 1) := by decide +kernel
theorem dX9_orphanNights_2 : decode cX9_orphanNights 2 = .ok (.invokevirtual 80, 3) := by decide +kernel
theorem dX9_orphanNights_5 : decode cX9_orphanNights 5 = .ok (.iload_n 2, 1) := by decide +kernel
theorem dX9_orphanNights_6 : decode cX9_orphanNights 6 = .ok (.iconst 0, 1) := by decide +kernel
theorem dX9_orphanNights_7 : decode cX9_orphanNights 7 = .ok (.iconst 1, 1) := by decide +kernel
theorem dX9_orphanNights_8 : decode cX9_orphanNights 8 = .ok (.invokestatic 56, 3) := by decide +kernel
theorem dX9_orphanNights_11 : decode cX9_orphanNights 11 = .ok (.aload_n 0, 1) := by decide +kernel
theorem dX9_orphanNights_12 : decode cX9_orphanNights 12 = .ok (.getfield 35, 3) := by decide +kernel
theorem dX9_orphanNights_15 : decode cX9_orphanNights 15 = .ok (.iload_n 1, 1) := by decide +kernel
theorem dX9_orphanNights_16 : decode cX9_orphanNights 16 = .ok (.iload_n 2, 1) := by decide +kernel
theorem dX9_orphanNights_17 : decode cX9_orphanNights 17 = .ok (.invokevirtual 251, 3) := by decide +kernel
theorem dX9_orphanNights_20 : decode cX9_orphanNights 20 = .ok (.aload_n 0, 1) := by decide +kernel
theorem dX9_orphanNights_21 : decode cX9_orphanNights 21 = .ok (.getfield 35, 3) := by decide +kernel
theorem dX9_orphanNights_24 : decode cX9_orphanNights 24 = .ok (.getfield 258, 3) := by decide +kernel
theorem dX9_orphanNights_27 : decode cX9_orphanNights 27 = .ok (.ireturn, 1) := by decide +kernel
theorem dX9_occupancyNumerator_0 : decode cX9_occupancyNumerator 0 = .ok (.aload_n 0, 1) := by decide +kernel
theorem dX9_occupancyNumerator_1 : decode cX9_occupancyNumerator 1 = .ok (.iload_n 1, 1) := by decide +kernel
theorem dX9_occupancyNumerator_2 : decode cX9_occupancyNumerator 2 = .ok (.invokevirtual 80, 3) := by decide +kernel
theorem dX9_occupancyNumerator_5 : decode cX9_occupancyNumerator 5 = .ok (.aload_n 0, 1) := by decide +kernel
theorem dX9_occupancyNumerator_6 : decode cX9_occupancyNumerator 6 = .ok (.iload_n 2, 1) := by decide +kernel
theorem dX9_occupancyNumerator_7 : decode cX9_occupancyNumerator 7 = .ok (.iload_n 3, 1) := by decide +kernel
theorem dX9_occupancyNumerator_8 : decode cX9_occupancyNumerator 8 = .ok (.invokevirtual 261, 3) := by decide +kernel
theorem dX9_occupancyNumerator_11 : decode cX9_occupancyNumerator 11 = .ok (.aload_n 0, 1) := by decide +kernel
theorem dX9_occupancyNumerator_12 : decode cX9_occupancyNumerator 12 = .ok (.getfield 10, 3) := by decide +kernel
theorem dX9_occupancyNumerator_15 : decode cX9_occupancyNumerator 15 = .ok (.iload_n 1, 1) := by decide +kernel
theorem dX9_occupancyNumerator_16 : decode cX9_occupancyNumerator 16 = .ok (.iload_n 2, 1) := by decide +kernel
theorem dX9_occupancyNumerator_17 : decode cX9_occupancyNumerator 17 = .ok (.iload_n 3, 1) := by decide +kernel
theorem dX9_occupancyNumerator_18 : decode cX9_occupancyNumerator 18 = .ok (.invokevirtual 264, 3) := by decide +kernel
theorem dX9_occupancyNumerator_21 : decode cX9_occupancyNumerator 21 = .ok (.istore 4, 2) := by decide +kernel
theorem dX9_occupancyNumerator_23 : decode cX9_occupancyNumerator 23 = .ok (.iload 4, 2) := by decide +kernel
theorem dX9_occupancyNumerator_25 : decode cX9_occupancyNumerator 25 = .ok (.aload_n 0, 1) := by decide +kernel
theorem dX9_occupancyNumerator_26 : decode cX9_occupancyNumerator 26 = .ok (.getfield 10, 3) := by decide +kernel
theorem dX9_occupancyNumerator_29 : decode cX9_occupancyNumerator 29 = .ok (.iload_n 1, 1) := by decide +kernel
theorem dX9_occupancyNumerator_30 : decode cX9_occupancyNumerator 30 = .ok (.iload_n 2, 1) := by decide +kernel
theorem dX9_occupancyNumerator_31 : decode cX9_occupancyNumerator 31 = .ok (.iload_n 3, 1) := by decide +kernel
theorem dX9_occupancyNumerator_32 : decode cX9_occupancyNumerator 32 = .ok (.invokevirtual 267, 3) := by decide +kernel
theorem dX9_occupancyNumerator_35 : decode cX9_occupancyNumerator 35 = .ok (.invokestatic 270, 3) := by decide +kernel
theorem dX9_occupancyNumerator_38 : decode cX9_occupancyNumerator 38 = .ok (.istore 5, 2) := by decide +kernel
theorem dX9_occupancyNumerator_40 : decode cX9_occupancyNumerator 40 = .ok (.iload 4, 2) := by decide +kernel
theorem dX9_occupancyNumerator_42 : decode cX9_occupancyNumerator 42 = .ok (.ifCond .eq 8, 3) := by decide +kernel
theorem dX9_occupancyNumerator_45 : decode cX9_occupancyNumerator 45 = .ok (.iload 5, 2) := by decide +kernel
theorem dX9_occupancyNumerator_47 : decode cX9_occupancyNumerator 47 = .ok (.ifCond .ne 7, 3) := by decide +kernel
theorem dX9_occupancyNumerator_50 : decode cX9_occupancyNumerator 50 = .ok (.iconst 0, 1) := by decide +kernel
theorem dX9_occupancyNumerator_51 : decode cX9_occupancyNumerator 51 = .ok (.goto 8, 3) := by decide +kernel
theorem dX9_occupancyNumerator_54 : decode cX9_occupancyNumerator 54 = .ok (.iload 4, 2) := by decide +kernel
theorem dX9_occupancyNumerator_56 : decode cX9_occupancyNumerator 56 = .ok (.iload 5, 2) := by decide +kernel
theorem dX9_occupancyNumerator_58 : decode cX9_occupancyNumerator 58 = .ok (.idiv, 1) := by decide +kernel
theorem dX9_occupancyNumerator_59 : decode cX9_occupancyNumerator 59 = .ok (.ireturn, 1) := by decide +kernel
theorem dX9_occupancyDenominator_0 : decode cX9_occupancyDenominator 0 = .ok (.aload_n 0, 1) := by decide +kernel
theorem dX9_occupancyDenominator_1 : decode cX9_occupancyDenominator 1 = .ok (.iload_n 1, 1) := by decide +kernel
theorem dX9_occupancyDenominator_2 : decode cX9_occupancyDenominator 2 = .ok (.invokevirtual 80, 3) := by decide +kernel
theorem dX9_occupancyDenominator_5 : decode cX9_occupancyDenominator 5 = .ok (.aload_n 0, 1) := by decide +kernel
theorem dX9_occupancyDenominator_6 : decode cX9_occupancyDenominator 6 = .ok (.iload_n 2, 1) := by decide +kernel
theorem dX9_occupancyDenominator_7 : decode cX9_occupancyDenominator 7 = .ok (.iload_n 3, 1) := by decide +kernel
theorem dX9_occupancyDenominator_8 : decode cX9_occupancyDenominator 8 = .ok (.invokevirtual 261, 3) := by decide +kernel
theorem dX9_occupancyDenominator_11 : decode cX9_occupancyDenominator 11 = .ok (.aload_n 0, 1) := by decide +kernel
theorem dX9_occupancyDenominator_12 : decode cX9_occupancyDenominator 12 = .ok (.getfield 10, 3) := by decide +kernel
theorem dX9_occupancyDenominator_15 : decode cX9_occupancyDenominator 15 = .ok (.iload_n 1, 1) := by decide +kernel
theorem dX9_occupancyDenominator_16 : decode cX9_occupancyDenominator 16 = .ok (.iload_n 2, 1) := by decide +kernel
theorem dX9_occupancyDenominator_17 : decode cX9_occupancyDenominator 17 = .ok (.iload_n 3, 1) := by decide +kernel
theorem dX9_occupancyDenominator_18 : decode cX9_occupancyDenominator 18 = .ok (.invokevirtual 264, 3) := by decide +kernel
theorem dX9_occupancyDenominator_21 : decode cX9_occupancyDenominator 21 = .ok (.istore 4, 2) := by decide +kernel
theorem dX9_occupancyDenominator_23 : decode cX9_occupancyDenominator 23 = .ok (.aload_n 0, 1) := by decide +kernel
theorem dX9_occupancyDenominator_24 : decode cX9_occupancyDenominator 24 = .ok (.getfield 10, 3) := by decide +kernel
theorem dX9_occupancyDenominator_27 : decode cX9_occupancyDenominator 27 = .ok (.iload_n 1, 1) := by decide +kernel
theorem dX9_occupancyDenominator_28 : decode cX9_occupancyDenominator 28 = .ok (.iload_n 2, 1) := by decide +kernel
theorem dX9_occupancyDenominator_29 : decode cX9_occupancyDenominator 29 = .ok (.iload_n 3, 1) := by decide +kernel
theorem dX9_occupancyDenominator_30 : decode cX9_occupancyDenominator 30 = .ok (.invokevirtual 267, 3) := by decide +kernel
theorem dX9_occupancyDenominator_33 : decode cX9_occupancyDenominator 33 = .ok (.istore 5, 2) := by decide +kernel
theorem dX9_occupancyDenominator_35 : decode cX9_occupancyDenominator 35 = .ok (.iload 4, 2) := by decide +kernel
theorem dX9_occupancyDenominator_37 : decode cX9_occupancyDenominator 37 = .ok (.iload 5, 2) := by decide +kernel
theorem dX9_occupancyDenominator_39 : decode cX9_occupancyDenominator 39 = .ok (.invokestatic 270, 3) := by decide +kernel
theorem dX9_occupancyDenominator_42 : decode cX9_occupancyDenominator 42 = .ok (.istore 6, 2) := by decide +kernel
theorem dX9_occupancyDenominator_44 : decode cX9_occupancyDenominator 44 = .ok (.iload 4, 2) := by decide +kernel
theorem dX9_occupancyDenominator_46 : decode cX9_occupancyDenominator 46 = .ok (.ifCond .eq 8, 3) := by decide +kernel
theorem dX9_occupancyDenominator_49 : decode cX9_occupancyDenominator 49 = .ok (.iload 6, 2) := by decide +kernel
theorem dX9_occupancyDenominator_51 : decode cX9_occupancyDenominator 51 = .ok (.ifCond .ne 7, 3) := by decide +kernel
theorem dX9_occupancyDenominator_54 : decode cX9_occupancyDenominator 54 = .ok (.iconst 1, 1) := by decide +kernel
theorem dX9_occupancyDenominator_55 : decode cX9_occupancyDenominator 55 = .ok (.goto 8, 3) := by decide +kernel
theorem dX9_occupancyDenominator_58 : decode cX9_occupancyDenominator 58 = .ok (.iload 5, 2) := by decide +kernel
theorem dX9_occupancyDenominator_60 : decode cX9_occupancyDenominator 60 = .ok (.iload 6, 2) := by decide +kernel
theorem dX9_occupancyDenominator_62 : decode cX9_occupancyDenominator 62 = .ok (.idiv, 1) := by decide +kernel
theorem dX9_occupancyDenominator_63 : decode cX9_occupancyDenominator 63 = .ok (.ireturn, 1) := by decide +kernel
theorem dX9_expected_0 : decode cX9_expected 0 = .ok (.iload_n 1, 1) := by decide +kernel
theorem dX9_expected_1 : decode cX9_expected 1 = .ok (.iconst (-1), 1) := by decide +kernel
theorem dX9_expected_2 : decode cX9_expected 2 = .ok (.if_icmp .eq 8, 3) := by decide +kernel
theorem dX9_expected_5 : decode cX9_expected 5 = .ok (.aload_n 0, 1) := by decide +kernel
theorem dX9_expected_6 : decode cX9_expected 6 = .ok (.iload_n 1, 1) := by decide +kernel
theorem dX9_expected_7 : decode cX9_expected 7 = .ok (.invokevirtual 80, 3) := by decide +kernel
theorem dX9_expected_10 : decode cX9_expected 10 = .ok (.iload_n 2, 1) := by decide +kernel
theorem dX9_expected_11 : decode cX9_expected 11 = .ok (.iconst 0, 1) := by decide +kernel
theorem dX9_expected_12 : decode cX9_expected 12 = .ok (.sipush 999, 3) := by decide +kernel
theorem dX9_expected_15 : decode cX9_expected 15 = .ok (.invokestatic 56, 3) := by decide +kernel
theorem dX9_expected_18 : decode cX9_expected 18 = .ok (.iconst 0, 1) := by decide +kernel
theorem dX9_expected_19 : decode cX9_expected 19 = .ok (.istore 4, 2) := by decide +kernel
theorem dX9_expected_21 : decode cX9_expected 21 = .ok (.iconst 0, 1) := by decide +kernel
theorem dX9_expected_22 : decode cX9_expected 22 = .ok (.istore 5, 2) := by decide +kernel
theorem dX9_expected_24 : decode cX9_expected 24 = .ok (.iload 5, 2) := by decide +kernel
theorem dX9_expected_26 : decode cX9_expected 26 = .ok (.aload_n 0, 1) := by decide +kernel
theorem dX9_expected_27 : decode cX9_expected 27 = .ok (.getfield 10, 3) := by decide +kernel
theorem dX9_expected_30 : decode cX9_expected 30 = .ok (.getfield 128, 3) := by decide +kernel
theorem dX9_expected_33 : decode cX9_expected 33 = .ok (.getfield 164, 3) := by decide +kernel
theorem dX9_expected_36 : decode cX9_expected 36 = .ok (.if_icmp .ge 74, 3) := by decide +kernel
theorem dX9_expected_39 : decode cX9_expected 39 = .ok (.iload_n 3, 1) := by decide +kernel
theorem dX9_expected_40 : decode cX9_expected 40 = .ok (.ifCond .eq 19, 3) := by decide +kernel
theorem dX9_expected_43 : decode cX9_expected 43 = .ok (.aload_n 0, 1) := by decide +kernel
theorem dX9_expected_44 : decode cX9_expected 44 = .ok (.getfield 10, 3) := by decide +kernel
theorem dX9_expected_47 : decode cX9_expected 47 = .ok (.getfield 128, 3) := by decide +kernel
theorem dX9_expected_50 : decode cX9_expected 50 = .ok (.iload 5, 2) := by decide +kernel
theorem dX9_expected_52 : decode cX9_expected 52 = .ok (.iload_n 2, 1) := by decide +kernel
theorem dX9_expected_53 : decode cX9_expected 53 = .ok (.invokevirtual 273, 3) := by decide +kernel
theorem dX9_expected_56 : decode cX9_expected 56 = .ok (.goto 16, 3) := by decide +kernel
theorem dX9_expected_59 : decode cX9_expected 59 = .ok (.aload_n 0, 1) := by decide +kernel
theorem dX9_expected_60 : decode cX9_expected 60 = .ok (.getfield 10, 3) := by decide +kernel
theorem dX9_expected_63 : decode cX9_expected 63 = .ok (.getfield 128, 3) := by decide +kernel
theorem dX9_expected_66 : decode cX9_expected 66 = .ok (.iload 5, 2) := by decide +kernel
theorem dX9_expected_68 : decode cX9_expected 68 = .ok (.iload_n 2, 1) := by decide +kernel
theorem dX9_expected_69 : decode cX9_expected 69 = .ok (.invokevirtual 276, 3) := by decide +kernel
theorem dX9_expected_72 : decode cX9_expected 72 = .ok (.istore 6, 2) := by decide +kernel
theorem dX9_expected_74 : decode cX9_expected 74 = .ok (.iload 6, 2) := by decide +kernel
theorem dX9_expected_76 : decode cX9_expected 76 = .ok (.ifCond .eq 28, 3) := by decide +kernel
theorem dX9_expected_79 : decode cX9_expected 79 = .ok (.iload_n 1, 1) := by decide +kernel
theorem dX9_expected_80 : decode cX9_expected 80 = .ok (.iconst (-1), 1) := by decide +kernel
theorem dX9_expected_81 : decode cX9_expected 81 = .ok (.if_icmp .eq 20, 3) := by decide +kernel
theorem dX9_expected_84 : decode cX9_expected 84 = .ok (.aload_n 0, 1) := by decide +kernel
theorem dX9_expected_85 : decode cX9_expected 85 = .ok (.getfield 10, 3) := by decide +kernel
theorem dX9_expected_88 : decode cX9_expected 88 = .ok (.getfield 128, 3) := by decide +kernel
theorem dX9_expected_91 : decode cX9_expected 91 = .ok (.getfield 171, 3) := by decide +kernel
theorem dX9_expected_94 : decode cX9_expected 94 = .ok (.iload 5, 2) := by decide +kernel
theorem dX9_expected_96 : decode cX9_expected 96 = .ok (.iaload, 1) := by decide +kernel
theorem dX9_expected_97 : decode cX9_expected 97 = .ok (.iload_n 1, 1) := by decide +kernel
theorem dX9_expected_98 : decode cX9_expected 98 = .ok (.if_icmp .ne 6, 3) := by decide +kernel
theorem dX9_expected_101 : decode cX9_expected 101 = .ok (.iinc 4 1, 3) := by decide +kernel
theorem dX9_expected_104 : decode cX9_expected 104 = .ok (.iinc 5 1, 3) := by decide +kernel
theorem dX9_expected_107 : decode cX9_expected 107 = .ok (.goto (-83), 3) := by decide +kernel
theorem dX9_expected_110 : decode cX9_expected 110 = .ok (.iload 4, 2) := by decide +kernel
theorem dX9_expected_112 : decode cX9_expected 112 = .ok (.ireturn, 1) := by decide +kernel
theorem dX9_dearestBooking_0 : decode cX9_dearestBooking 0 = .ok (.aload_n 0, 1) := by decide +kernel
theorem dX9_dearestBooking_1 : decode cX9_dearestBooking 1 = .ok (.iload_n 1, 1) := by decide +kernel
theorem dX9_dearestBooking_2 : decode cX9_dearestBooking 2 = .ok (.invokevirtual 80, 3) := by decide +kernel
theorem dX9_dearestBooking_5 : decode cX9_dearestBooking 5 = .ok (.iconst (-1), 1) := by decide +kernel
theorem dX9_dearestBooking_6 : decode cX9_dearestBooking 6 = .ok (.istore_n 2, 1) := by decide +kernel
theorem dX9_dearestBooking_7 : decode cX9_dearestBooking 7 = .ok (.iconst 0, 1) := by decide +kernel
theorem dX9_dearestBooking_8 : decode cX9_dearestBooking 8 = .ok (.istore_n 3, 1) := by decide +kernel
theorem dX9_dearestBooking_9 : decode cX9_dearestBooking 9 = .ok (.iload_n 3, 1) := by decide +kernel
theorem dX9_dearestBooking_10 : decode cX9_dearestBooking 10 = .ok (.aload_n 0, 1) := by decide +kernel
theorem dX9_dearestBooking_11 : decode cX9_dearestBooking 11 = .ok (.getfield 10, 3) := by decide +kernel
theorem dX9_dearestBooking_14 : decode cX9_dearestBooking 14 = .ok (.getfield 128, 3) := by decide +kernel
theorem dX9_dearestBooking_17 : decode cX9_dearestBooking 17 = .ok (.getfield 164, 3) := by decide +kernel
theorem dX9_dearestBooking_20 : decode cX9_dearestBooking 20 = .ok (.if_icmp .ge 64, 3) := by decide +kernel
theorem dX9_dearestBooking_23 : decode cX9_dearestBooking 23 = .ok (.aload_n 0, 1) := by decide +kernel
theorem dX9_dearestBooking_24 : decode cX9_dearestBooking 24 = .ok (.getfield 10, 3) := by decide +kernel
theorem dX9_dearestBooking_27 : decode cX9_dearestBooking 27 = .ok (.getfield 128, 3) := by decide +kernel
theorem dX9_dearestBooking_30 : decode cX9_dearestBooking 30 = .ok (.iload_n 3, 1) := by decide +kernel
theorem dX9_dearestBooking_31 : decode cX9_dearestBooking 31 = .ok (.invokevirtual 207, 3) := by decide +kernel
theorem dX9_dearestBooking_34 : decode cX9_dearestBooking 34 = .ok (.ifCond .eq 44, 3) := by decide +kernel
theorem dX9_dearestBooking_37 : decode cX9_dearestBooking 37 = .ok (.aload_n 0, 1) := by decide +kernel
theorem dX9_dearestBooking_38 : decode cX9_dearestBooking 38 = .ok (.getfield 10, 3) := by decide +kernel
theorem dX9_dearestBooking_41 : decode cX9_dearestBooking 41 = .ok (.getfield 128, 3) := by decide +kernel
theorem dX9_dearestBooking_44 : decode cX9_dearestBooking 44 = .ok (.getfield 171, 3) := by decide +kernel
theorem dX9_dearestBooking_47 : decode cX9_dearestBooking 47 = .ok (.iload_n 3, 1) := by decide +kernel
theorem dX9_dearestBooking_48 : decode cX9_dearestBooking 48 = .ok (.iaload, 1) := by decide +kernel
theorem dX9_dearestBooking_49 : decode cX9_dearestBooking 49 = .ok (.iload_n 1, 1) := by decide +kernel
theorem dX9_dearestBooking_50 : decode cX9_dearestBooking 50 = .ok (.if_icmp .eq 6, 3) := by decide +kernel
theorem dX9_dearestBooking_53 : decode cX9_dearestBooking 53 = .ok (.goto 25, 3) := by decide +kernel
theorem dX9_dearestBooking_56 : decode cX9_dearestBooking 56 = .ok (.iload_n 2, 1) := by decide +kernel
theorem dX9_dearestBooking_57 : decode cX9_dearestBooking 57 = .ok (.iconst (-1), 1) := by decide +kernel
theorem dX9_dearestBooking_58 : decode cX9_dearestBooking 58 = .ok (.if_icmp .eq 18, 3) := by decide +kernel
theorem dX9_dearestBooking_61 : decode cX9_dearestBooking 61 = .ok (.aload_n 0, 1) := by decide +kernel
theorem dX9_dearestBooking_62 : decode cX9_dearestBooking 62 = .ok (.getfield 10, 3) := by decide +kernel
theorem dX9_dearestBooking_65 : decode cX9_dearestBooking 65 = .ok (.getfield 128, 3) := by decide +kernel
theorem dX9_dearestBooking_68 : decode cX9_dearestBooking 68 = .ok (.iload_n 3, 1) := by decide +kernel
theorem dX9_dearestBooking_69 : decode cX9_dearestBooking 69 = .ok (.iload_n 2, 1) := by decide +kernel
theorem dX9_dearestBooking_70 : decode cX9_dearestBooking 70 = .ok (.invokevirtual 279, 3) := by decide +kernel
theorem dX9_dearestBooking_73 : decode cX9_dearestBooking 73 = .ok (.ifCond .eq 5, 3) := by decide +kernel
theorem dX9_dearestBooking_76 : decode cX9_dearestBooking 76 = .ok (.iload_n 3, 1) := by decide +kernel
theorem dX9_dearestBooking_77 : decode cX9_dearestBooking 77 = .ok (.istore_n 2, 1) := by decide +kernel
theorem dX9_dearestBooking_78 : decode cX9_dearestBooking 78 = .ok (.iinc 3 1, 3) := by decide +kernel
theorem dX9_dearestBooking_81 : decode cX9_dearestBooking 81 = .ok (.goto (-72), 3) := by decide +kernel
theorem dX9_dearestBooking_84 : decode cX9_dearestBooking 84 = .ok (.iload_n 2, 1) := by decide +kernel
theorem dX9_dearestBooking_85 : decode cX9_dearestBooking 85 = .ok (.ireturn, 1) := by decide +kernel
theorem dX9_busiestNight_0 : decode cX9_busiestNight 0 = .ok (.aload_n 0, 1) := by decide +kernel
theorem dX9_busiestNight_1 : decode cX9_busiestNight 1 = .ok (.iload_n 1, 1) := by decide +kernel
theorem dX9_busiestNight_2 : decode cX9_busiestNight 2 = .ok (.invokevirtual 80, 3) := by decide +kernel
theorem dX9_busiestNight_5 : decode cX9_busiestNight 5 = .ok (.aload_n 0, 1) := by decide +kernel
theorem dX9_busiestNight_6 : decode cX9_busiestNight 6 = .ok (.iload_n 2, 1) := by decide +kernel
theorem dX9_busiestNight_7 : decode cX9_busiestNight 7 = .ok (.iload_n 3, 1) := by decide +kernel
theorem dX9_busiestNight_8 : decode cX9_busiestNight 8 = .ok (.invokevirtual 261, 3) := by decide +kernel
theorem dX9_busiestNight_11 : decode cX9_busiestNight 11 = .ok (.iload_n 2, 1) := by decide +kernel
theorem dX9_busiestNight_12 : decode cX9_busiestNight 12 = .ok (.istore 4, 2) := by decide +kernel
theorem dX9_busiestNight_14 : decode cX9_busiestNight 14 = .ok (.aload_n 0, 1) := by decide +kernel
theorem dX9_busiestNight_15 : decode cX9_busiestNight 15 = .ok (.getfield 10, 3) := by decide +kernel
theorem dX9_busiestNight_18 : decode cX9_busiestNight 18 = .ok (.getfield 128, 3) := by decide +kernel
theorem dX9_busiestNight_21 : decode cX9_busiestNight 21 = .ok (.iload_n 1, 1) := by decide +kernel
theorem dX9_busiestNight_22 : decode cX9_busiestNight 22 = .ok (.iload_n 2, 1) := by decide +kernel
theorem dX9_busiestNight_23 : decode cX9_busiestNight 23 = .ok (.invokevirtual 132, 3) := by decide +kernel
theorem dX9_busiestNight_26 : decode cX9_busiestNight 26 = .ok (.istore 5, 2) := by decide +kernel
theorem dX9_busiestNight_28 : decode cX9_busiestNight 28 = .ok (.iload_n 2, 1) := by decide +kernel
theorem dX9_busiestNight_29 : decode cX9_busiestNight 29 = .ok (.iconst 1, 1) := by decide +kernel
theorem dX9_busiestNight_30 : decode cX9_busiestNight 30 = .ok (.iadd, 1) := by decide +kernel
theorem dX9_busiestNight_31 : decode cX9_busiestNight 31 = .ok (.istore 6, 2) := by decide +kernel
theorem dX9_busiestNight_33 : decode cX9_busiestNight 33 = .ok (.iload 6, 2) := by decide +kernel
theorem dX9_busiestNight_35 : decode cX9_busiestNight 35 = .ok (.iload_n 3, 1) := by decide +kernel
theorem dX9_busiestNight_36 : decode cX9_busiestNight 36 = .ok (.if_icmp .gt 39, 3) := by decide +kernel
theorem dX9_busiestNight_39 : decode cX9_busiestNight 39 = .ok (.aload_n 0, 1) := by decide +kernel
theorem dX9_busiestNight_40 : decode cX9_busiestNight 40 = .ok (.getfield 10, 3) := by decide +kernel
theorem dX9_busiestNight_43 : decode cX9_busiestNight 43 = .ok (.getfield 128, 3) := by decide +kernel
theorem dX9_busiestNight_46 : decode cX9_busiestNight 46 = .ok (.iload_n 1, 1) := by decide +kernel
theorem dX9_busiestNight_47 : decode cX9_busiestNight 47 = .ok (.iload 6, 2) := by decide +kernel
theorem dX9_busiestNight_49 : decode cX9_busiestNight 49 = .ok (.invokevirtual 132, 3) := by decide +kernel
theorem dX9_busiestNight_52 : decode cX9_busiestNight 52 = .ok (.istore 7, 2) := by decide +kernel
theorem dX9_busiestNight_54 : decode cX9_busiestNight 54 = .ok (.iload 7, 2) := by decide +kernel
theorem dX9_busiestNight_56 : decode cX9_busiestNight 56 = .ok (.iload 5, 2) := by decide +kernel
theorem dX9_busiestNight_58 : decode cX9_busiestNight 58 = .ok (.if_icmp .le 11, 3) := by decide +kernel
theorem dX9_busiestNight_61 : decode cX9_busiestNight 61 = .ok (.iload 6, 2) := by decide +kernel
theorem dX9_busiestNight_63 : decode cX9_busiestNight 63 = .ok (.istore 4, 2) := by decide +kernel
theorem dX9_busiestNight_65 : decode cX9_busiestNight 65 = .ok (.iload 7, 2) := by decide +kernel
theorem dX9_busiestNight_67 : decode cX9_busiestNight 67 = .ok (.istore 5, 2) := by decide +kernel
theorem dX9_busiestNight_69 : decode cX9_busiestNight 69 = .ok (.iinc 6 1, 3) := by decide +kernel
theorem dX9_busiestNight_72 : decode cX9_busiestNight 72 = .ok (.goto (-39), 3) := by decide +kernel
theorem dX9_busiestNight_75 : decode cX9_busiestNight 75 = .ok (.iload 4, 2) := by decide +kernel
theorem dX9_busiestNight_77 : decode cX9_busiestNight 77 = .ok (.ireturn, 1) := by decide +kernel
theorem dX9_revenue_0 : decode cX9_revenue 0 = .ok (.iconst 0, 1) := by decide +kernel
theorem dX9_revenue_1 : decode cX9_revenue 1 = .ok (.istore_n 1, 1) := by decide +kernel
theorem dX9_revenue_2 : decode cX9_revenue 2 = .ok (.iconst 0, 1) := by decide +kernel
theorem dX9_revenue_3 : decode cX9_revenue 3 = .ok (.istore_n 2, 1) := by decide +kernel
theorem dX9_revenue_4 : decode cX9_revenue 4 = .ok (.iload_n 2, 1) := by decide +kernel
theorem dX9_revenue_5 : decode cX9_revenue 5 = .ok (.aload_n 0, 1) := by decide +kernel
theorem dX9_revenue_6 : decode cX9_revenue 6 = .ok (.getfield 10, 3) := by decide +kernel
theorem dX9_revenue_9 : decode cX9_revenue 9 = .ok (.getfield 128, 3) := by decide +kernel
theorem dX9_revenue_12 : decode cX9_revenue 12 = .ok (.getfield 164, 3) := by decide +kernel
theorem dX9_revenue_15 : decode cX9_revenue 15 = .ok (.if_icmp .ge 24, 3) := by decide +kernel
theorem dX9_revenue_18 : decode cX9_revenue 18 = .ok (.iload_n 1, 1) := by decide +kernel
theorem dX9_revenue_19 : decode cX9_revenue 19 = .ok (.aload_n 0, 1) := by decide +kernel
theorem dX9_revenue_20 : decode cX9_revenue 20 = .ok (.getfield 10, 3) := by decide +kernel
theorem dX9_revenue_23 : decode cX9_revenue 23 = .ok (.getfield 128, 3) := by decide +kernel
theorem dX9_revenue_26 : decode cX9_revenue 26 = .ok (.getfield 178, 3) := by decide +kernel
theorem dX9_revenue_29 : decode cX9_revenue 29 = .ok (.iload_n 2, 1) := by decide +kernel
theorem dX9_revenue_30 : decode cX9_revenue 30 = .ok (.iaload, 1) := by decide +kernel
theorem dX9_revenue_31 : decode cX9_revenue 31 = .ok (.iadd, 1) := by decide +kernel
theorem dX9_revenue_32 : decode cX9_revenue 32 = .ok (.istore_n 1, 1) := by decide +kernel
theorem dX9_revenue_33 : decode cX9_revenue 33 = .ok (.iinc 2 1, 3) := by decide +kernel
theorem dX9_revenue_36 : decode cX9_revenue 36 = .ok (.goto (-32), 3) := by decide +kernel
theorem dX9_revenue_39 : decode cX9_revenue 39 = .ok (.iload_n 1, 1) := by decide +kernel
theorem dX9_revenue_40 : decode cX9_revenue 40 = .ok (.ireturn, 1) := by decide +kernel
theorem dX9_appendText_0 : decode cX9_appendText 0 = .ok (.aload_n 0, 1) := by decide +kernel
theorem dX9_appendText_1 : decode cX9_appendText 1 = .ok (.getfield 52, 3) := by decide +kernel
theorem dX9_appendText_4 : decode cX9_appendText 4 = .ok (.sipush 496, 3) := by decide +kernel
theorem dX9_appendText_7 : decode cX9_appendText 7 = .ok (.if_icmp .le 14, 3) := by decide +kernel
theorem dX9_appendText_10 : decode cX9_appendText 10 = .ok (.new 69, 3) := by decide +kernel
theorem dX9_appendText_13 : decode cX9_appendText 13 = .ok (.dup, 1) := by decide +kernel
theorem dX9_appendText_14 : decode cX9_appendText 14 = .ok (.ldc_w 282, 3) := by decide +kernel
theorem dX9_appendText_17 : decode cX9_appendText 17 = .ok (.invokespecial 73, 3) := by decide +kernel
theorem dX9_appendText_20 : decode cX9_appendText 20 = .ok (.athrow, 1) := by decide +kernel
theorem dX9_appendText_21 : decode cX9_appendText 21 = .ok (.bipush 24, 2) := by decide +kernel
theorem dX9_appendText_23 : decode cX9_appendText 23 = .ok (.istore_n 2, 1) := by decide +kernel
theorem dX9_appendText_24 : decode cX9_appendText 24 = .ok (.iload_n 2, 1) := by decide +kernel
theorem dX9_appendText_25 : decode cX9_appendText 25 = .ok (.ifCond .lt 32, 3) := by decide +kernel
theorem dX9_appendText_28 : decode cX9_appendText 28 = .ok (.aload_n 0, 1) := by decide +kernel
theorem dX9_appendText_29 : decode cX9_appendText 29 = .ok (.getfield 39, 3) := by decide +kernel
theorem dX9_appendText_32 : decode cX9_appendText 32 = .ok (.aload_n 0, 1) := by decide +kernel
theorem dX9_appendText_33 : decode cX9_appendText 33 = .ok (.getfield 52, 3) := by decide +kernel
theorem dX9_appendText_36 : decode cX9_appendText 36 = .ok (.iload_n 1, 1) := by decide +kernel
theorem dX9_appendText_37 : decode cX9_appendText 37 = .ok (.iload_n 2, 1) := by decide +kernel
theorem dX9_appendText_38 : decode cX9_appendText 38 = .ok (.ishr, 1) := by decide +kernel
theorem dX9_appendText_39 : decode cX9_appendText 39 = .ok (.i2b, 1) := by decide +kernel
theorem dX9_appendText_40 : decode cX9_appendText 40 = .ok (.bastore, 1) := by decide +kernel
theorem dX9_appendText_41 : decode cX9_appendText 41 = .ok (.aload_n 0, 1) := by decide +kernel
theorem dX9_appendText_42 : decode cX9_appendText 42 = .ok (.dup, 1) := by decide +kernel
theorem dX9_appendText_43 : decode cX9_appendText 43 = .ok (.getfield 52, 3) := by decide +kernel
theorem dX9_appendText_46 : decode cX9_appendText 46 = .ok (.iconst 1, 1) := by decide +kernel
theorem dX9_appendText_47 : decode cX9_appendText 47 = .ok (.iadd, 1) := by decide +kernel
theorem dX9_appendText_48 : decode cX9_appendText 48 = .ok (.putfield 52, 3) := by decide +kernel
theorem dX9_appendText_51 : decode cX9_appendText 51 = .ok (.iinc 2 (-8), 3) := by decide +kernel
theorem dX9_appendText_54 : decode cX9_appendText 54 = .ok (.goto (-30), 3) := by decide +kernel
theorem dX9_appendText_57 : decode cX9_appendText 57 = .ok (.aload_n 0, 1) := by decide +kernel
theorem dX9_appendText_58 : decode cX9_appendText 58 = .ok (.getfield 52, 3) := by decide +kernel
theorem dX9_appendText_61 : decode cX9_appendText 61 = .ok (.ireturn, 1) := by decide +kernel
theorem dX9_truncateText_0 : decode cX9_truncateText 0 = .ok (.iload_n 1, 1) := by decide +kernel
theorem dX9_truncateText_1 : decode cX9_truncateText 1 = .ok (.iconst 0, 1) := by decide +kernel
theorem dX9_truncateText_2 : decode cX9_truncateText 2 = .ok (.aload_n 0, 1) := by decide +kernel
theorem dX9_truncateText_3 : decode cX9_truncateText 3 = .ok (.getfield 52, 3) := by decide +kernel
theorem dX9_truncateText_6 : decode cX9_truncateText 6 = .ok (.invokestatic 56, 3) := by decide +kernel
theorem dX9_truncateText_9 : decode cX9_truncateText 9 = .ok (.aload_n 0, 1) := by decide +kernel
theorem dX9_truncateText_10 : decode cX9_truncateText 10 = .ok (.iload_n 1, 1) := by decide +kernel
theorem dX9_truncateText_11 : decode cX9_truncateText 11 = .ok (.putfield 52, 3) := by decide +kernel
theorem dX9_truncateText_14 : decode cX9_truncateText 14 = .ok (.iload_n 1, 1) := by decide +kernel
theorem dX9_truncateText_15 : decode cX9_truncateText 15 = .ok (.ireturn, 1) := by decide +kernel
theorem dX9_load_0 : decode cX9_load 0 = .ok (.aload_n 0, 1) := by decide +kernel
theorem dX9_load_1 : decode cX9_load 1 = .ok (.getfield 48, 3) := by decide +kernel
theorem dX9_load_4 : decode cX9_load 4 = .ok (.aload_n 0, 1) := by decide +kernel
theorem dX9_load_5 : decode cX9_load 5 = .ok (.getfield 52, 3) := by decide +kernel
theorem dX9_load_8 : decode cX9_load 8 = .ok (.invokevirtual 284, 3) := by decide +kernel
theorem dX9_load_11 : decode cX9_load 11 = .ok (.istore_n 1, 1) := by decide +kernel
theorem dX9_load_12 : decode cX9_load 12 = .ok (.aload_n 0, 1) := by decide +kernel
theorem dX9_load_13 : decode cX9_load 13 = .ok (.iconst 0, 1) := by decide +kernel
theorem dX9_load_14 : decode cX9_load 14 = .ok (.putfield 52, 3) := by decide +kernel
theorem dX9_load_17 : decode cX9_load 17 = .ok (.iload_n 1, 1) := by decide +kernel
theorem dX9_load_18 : decode cX9_load 18 = .ok (.iconst (-1), 1) := by decide +kernel
theorem dX9_load_19 : decode cX9_load 19 = .ok (.if_icmp .eq 14, 3) := by decide +kernel
theorem dX9_load_22 : decode cX9_load 22 = .ok (.aload_n 0, 1) := by decide +kernel
theorem dX9_load_23 : decode cX9_load 23 = .ok (.getfield 10, 3) := by decide +kernel
theorem dX9_load_26 : decode cX9_load 26 = .ok (.aload_n 0, 1) := by decide +kernel
theorem dX9_load_27 : decode cX9_load 27 = .ok (.getfield 16, 3) := by decide +kernel
theorem dX9_load_30 : decode cX9_load 30 = .ok (.invokevirtual 287, 3) := by decide +kernel
theorem dX9_load_33 : decode cX9_load 33 = .ok (.iload_n 1, 1) := by decide +kernel
theorem dX9_load_34 : decode cX9_load 34 = .ok (.ireturn, 1) := by decide +kernel
theorem dX9_errorCode_0 : decode cX9_errorCode 0 = .ok (.aload_n 0, 1) := by decide +kernel
theorem dX9_errorCode_1 : decode cX9_errorCode 1 = .ok (.getfield 48, 3) := by decide +kernel
theorem dX9_errorCode_4 : decode cX9_errorCode 4 = .ok (.getfield 290, 3) := by decide +kernel
theorem dX9_errorCode_7 : decode cX9_errorCode 7 = .ok (.ireturn, 1) := by decide +kernel
theorem dX9_errorPosition_0 : decode cX9_errorPosition 0 = .ok (.aload_n 0, 1) := by decide +kernel
theorem dX9_errorPosition_1 : decode cX9_errorPosition 1 = .ok (.getfield 48, 3) := by decide +kernel
theorem dX9_errorPosition_4 : decode cX9_errorPosition 4 = .ok (.getfield 293, 3) := by decide +kernel
theorem dX9_errorPosition_7 : decode cX9_errorPosition 7 = .ok (.ireturn, 1) := by decide +kernel
theorem dX9_save_0 : decode cX9_save 0 = .ok (.iload_n 1, 1) := by decide +kernel
theorem dX9_save_1 : decode cX9_save 1 = .ok (.iconst 0, 1) := by decide +kernel
theorem dX9_save_2 : decode cX9_save 2 = .ok (.iconst 1, 1) := by decide +kernel
theorem dX9_save_3 : decode cX9_save 3 = .ok (.invokestatic 56, 3) := by decide +kernel
theorem dX9_save_6 : decode cX9_save 6 = .ok (.aload_n 0, 1) := by decide +kernel
theorem dX9_save_7 : decode cX9_save 7 = .ok (.getfield 19, 3) := by decide +kernel
theorem dX9_save_10 : decode cX9_save 10 = .ok (.iload_n 1, 1) := by decide +kernel
theorem dX9_save_11 : decode cX9_save 11 = .ok (.aaload, 1) := by decide +kernel
theorem dX9_save_12 : decode cX9_save 12 = .ok (.astore_n 2, 1) := by decide +kernel
theorem dX9_save_13 : decode cX9_save 13 = .ok (.aload_n 2, 1) := by decide +kernel
theorem dX9_save_14 : decode cX9_save 14 = .ok (.ifnonnull 18, 3) := by decide +kernel
theorem dX9_save_17 : decode cX9_save 17 = .ok (.new 7, 3) := by decide +kernel
theorem dX9_save_20 : decode cX9_save 20 = .ok (.dup, 1) := by decide +kernel
theorem dX9_save_21 : decode cX9_save 21 = .ok (.invokespecial 9, 3) := by decide +kernel
theorem dX9_save_24 : decode cX9_save 24 = .ok (.astore_n 2, 1) := by decide +kernel
theorem dX9_save_25 : decode cX9_save 25 = .ok (.aload_n 0, 1) := by decide +kernel
theorem dX9_save_26 : decode cX9_save 26 = .ok (.getfield 19, 3) := by decide +kernel
theorem dX9_save_29 : decode cX9_save 29 = .ok (.iload_n 1, 1) := by decide +kernel
theorem dX9_save_30 : decode cX9_save 30 = .ok (.aload_n 2, 1) := by decide +kernel
theorem dX9_save_31 : decode cX9_save 31 = .ok (.aastore, 1) := by decide +kernel
theorem dX9_save_32 : decode cX9_save 32 = .ok (.aload_n 2, 1) := by decide +kernel
theorem dX9_save_33 : decode cX9_save 33 = .ok (.aload_n 0, 1) := by decide +kernel
theorem dX9_save_34 : decode cX9_save 34 = .ok (.getfield 10, 3) := by decide +kernel
theorem dX9_save_37 : decode cX9_save 37 = .ok (.invokevirtual 287, 3) := by decide +kernel
theorem dX9_save_40 : decode cX9_save 40 = .ok (.return_, 1) := by decide +kernel
theorem dX9_restore_0 : decode cX9_restore 0 = .ok (.iload_n 1, 1) := by decide +kernel
theorem dX9_restore_1 : decode cX9_restore 1 = .ok (.iconst 0, 1) := by decide +kernel
theorem dX9_restore_2 : decode cX9_restore 2 = .ok (.iconst 1, 1) := by decide +kernel
theorem dX9_restore_3 : decode cX9_restore 3 = .ok (.invokestatic 56, 3) := by decide +kernel
theorem dX9_restore_6 : decode cX9_restore 6 = .ok (.aload_n 0, 1) := by decide +kernel
theorem dX9_restore_7 : decode cX9_restore 7 = .ok (.getfield 19, 3) := by decide +kernel
theorem dX9_restore_10 : decode cX9_restore 10 = .ok (.iload_n 1, 1) := by decide +kernel
theorem dX9_restore_11 : decode cX9_restore 11 = .ok (.aaload, 1) := by decide +kernel
theorem dX9_restore_12 : decode cX9_restore 12 = .ok (.astore_n 2, 1) := by decide +kernel
theorem dX9_restore_13 : decode cX9_restore 13 = .ok (.aload_n 2, 1) := by decide +kernel
theorem dX9_restore_14 : decode cX9_restore 14 = .ok (.ifnonnull 14, 3) := by decide +kernel
theorem dX9_restore_17 : decode cX9_restore 17 = .ok (.new 69, 3) := by decide +kernel
theorem dX9_restore_20 : decode cX9_restore 20 = .ok (.dup, 1) := by decide +kernel
theorem dX9_restore_21 : decode cX9_restore 21 = .ok (.ldc_w 296, 3) := by decide +kernel
theorem dX9_restore_24 : decode cX9_restore 24 = .ok (.invokespecial 73, 3) := by decide +kernel
theorem dX9_restore_27 : decode cX9_restore 27 = .ok (.athrow, 1) := by decide +kernel
theorem dX9_restore_28 : decode cX9_restore 28 = .ok (.aload_n 0, 1) := by decide +kernel
theorem dX9_restore_29 : decode cX9_restore 29 = .ok (.getfield 10, 3) := by decide +kernel
theorem dX9_restore_32 : decode cX9_restore 32 = .ok (.aload_n 2, 1) := by decide +kernel
theorem dX9_restore_33 : decode cX9_restore 33 = .ok (.invokevirtual 287, 3) := by decide +kernel
theorem dX9_restore_36 : decode cX9_restore 36 = .ok (.return_, 1) := by decide +kernel
theorem dX9_checkClass_0 : decode cX9_checkClass 0 = .ok (.iload_n 1, 1) := by decide +kernel
theorem dX9_checkClass_1 : decode cX9_checkClass 1 = .ok (.ifCond .lt 17, 3) := by decide +kernel
theorem dX9_checkClass_4 : decode cX9_checkClass 4 = .ok (.iload_n 1, 1) := by decide +kernel
theorem dX9_checkClass_5 : decode cX9_checkClass 5 = .ok (.aload_n 0, 1) := by decide +kernel
theorem dX9_checkClass_6 : decode cX9_checkClass 6 = .ok (.getfield 10, 3) := by decide +kernel
theorem dX9_checkClass_9 : decode cX9_checkClass 9 = .ok (.getfield 60, 3) := by decide +kernel
theorem dX9_checkClass_12 : decode cX9_checkClass 12 = .ok (.getfield 64, 3) := by decide +kernel
theorem dX9_checkClass_15 : decode cX9_checkClass 15 = .ok (.if_icmp .lt 14, 3) := by decide +kernel
theorem dX9_checkClass_18 : decode cX9_checkClass 18 = .ok (.new 298, 3) := by decide +kernel
theorem dX9_checkClass_21 : decode cX9_checkClass 21 = .ok (.dup, 1) := by decide +kernel
theorem dX9_checkClass_22 : decode cX9_checkClass 22 = .ok (.ldc_w 300, 3) := by decide +kernel
theorem dX9_checkClass_25 : decode cX9_checkClass 25 = .ok (.invokespecial 302, 3) := by decide +kernel
theorem dX9_checkClass_28 : decode cX9_checkClass 28 = .ok (.athrow, 1) := by decide +kernel
theorem dX9_checkClass_29 : decode cX9_checkClass 29 = .ok (.return_, 1) := by decide +kernel
theorem dX9_checkSite_0 : decode cX9_checkSite 0 = .ok (.iload_n 1, 1) := by decide +kernel
theorem dX9_checkSite_1 : decode cX9_checkSite 1 = .ok (.ifCond .lt 17, 3) := by decide +kernel
theorem dX9_checkSite_4 : decode cX9_checkSite 4 = .ok (.iload_n 1, 1) := by decide +kernel
theorem dX9_checkSite_5 : decode cX9_checkSite 5 = .ok (.aload_n 0, 1) := by decide +kernel
theorem dX9_checkSite_6 : decode cX9_checkSite 6 = .ok (.getfield 10, 3) := by decide +kernel
theorem dX9_checkSite_9 : decode cX9_checkSite 9 = .ok (.getfield 84, 3) := by decide +kernel
theorem dX9_checkSite_12 : decode cX9_checkSite 12 = .ok (.getfield 88, 3) := by decide +kernel
theorem dX9_checkSite_15 : decode cX9_checkSite 15 = .ok (.if_icmp .lt 14, 3) := by decide +kernel
theorem dX9_checkSite_18 : decode cX9_checkSite 18 = .ok (.new 298, 3) := by decide +kernel
theorem dX9_checkSite_21 : decode cX9_checkSite 21 = .ok (.dup, 1) := by decide +kernel
theorem dX9_checkSite_22 : decode cX9_checkSite 22 = .ok (.ldc_w 303, 3) := by decide +kernel
theorem dX9_checkSite_25 : decode cX9_checkSite 25 = .ok (.invokespecial 302, 3) := by decide +kernel
theorem dX9_checkSite_28 : decode cX9_checkSite 28 = .ok (.athrow, 1) := by decide +kernel
theorem dX9_checkSite_29 : decode cX9_checkSite 29 = .ok (.return_, 1) := by decide +kernel
theorem dX9_checkBooking_0 : decode cX9_checkBooking 0 = .ok (.iload_n 1, 1) := by decide +kernel
theorem dX9_checkBooking_1 : decode cX9_checkBooking 1 = .ok (.ifCond .lt 17, 3) := by decide +kernel
theorem dX9_checkBooking_4 : decode cX9_checkBooking 4 = .ok (.iload_n 1, 1) := by decide +kernel
theorem dX9_checkBooking_5 : decode cX9_checkBooking 5 = .ok (.aload_n 0, 1) := by decide +kernel
theorem dX9_checkBooking_6 : decode cX9_checkBooking 6 = .ok (.getfield 10, 3) := by decide +kernel
theorem dX9_checkBooking_9 : decode cX9_checkBooking 9 = .ok (.getfield 128, 3) := by decide +kernel
theorem dX9_checkBooking_12 : decode cX9_checkBooking 12 = .ok (.getfield 164, 3) := by decide +kernel
theorem dX9_checkBooking_15 : decode cX9_checkBooking 15 = .ok (.if_icmp .lt 14, 3) := by decide +kernel
theorem dX9_checkBooking_18 : decode cX9_checkBooking 18 = .ok (.new 298, 3) := by decide +kernel
theorem dX9_checkBooking_21 : decode cX9_checkBooking 21 = .ok (.dup, 1) := by decide +kernel
theorem dX9_checkBooking_22 : decode cX9_checkBooking 22 = .ok (.ldc_w 305, 3) := by decide +kernel
theorem dX9_checkBooking_25 : decode cX9_checkBooking 25 = .ok (.invokespecial 302, 3) := by decide +kernel
theorem dX9_checkBooking_28 : decode cX9_checkBooking 28 = .ok (.athrow, 1) := by decide +kernel
theorem dX9_checkBooking_29 : decode cX9_checkBooking 29 = .ok (.return_, 1) := by decide +kernel
theorem dX9_checkRequest_0 : decode cX9_checkRequest 0 = .ok (.iload_n 1, 1) := by decide +kernel
theorem dX9_checkRequest_1 : decode cX9_checkRequest 1 = .ok (.ifCond .lt 17, 3) := by decide +kernel
theorem dX9_checkRequest_4 : decode cX9_checkRequest 4 = .ok (.iload_n 1, 1) := by decide +kernel
theorem dX9_checkRequest_5 : decode cX9_checkRequest 5 = .ok (.aload_n 0, 1) := by decide +kernel
theorem dX9_checkRequest_6 : decode cX9_checkRequest 6 = .ok (.getfield 10, 3) := by decide +kernel
theorem dX9_checkRequest_9 : decode cX9_checkRequest 9 = .ok (.getfield 228, 3) := by decide +kernel
theorem dX9_checkRequest_12 : decode cX9_checkRequest 12 = .ok (.getfield 232, 3) := by decide +kernel
theorem dX9_checkRequest_15 : decode cX9_checkRequest 15 = .ok (.if_icmp .lt 14, 3) := by decide +kernel
theorem dX9_checkRequest_18 : decode cX9_checkRequest 18 = .ok (.new 298, 3) := by decide +kernel
theorem dX9_checkRequest_21 : decode cX9_checkRequest 21 = .ok (.dup, 1) := by decide +kernel
theorem dX9_checkRequest_22 : decode cX9_checkRequest 22 = .ok (.ldc_w 307, 3) := by decide +kernel
theorem dX9_checkRequest_25 : decode cX9_checkRequest 25 = .ok (.invokespecial 302, 3) := by decide +kernel
theorem dX9_checkRequest_28 : decode cX9_checkRequest 28 = .ok (.athrow, 1) := by decide +kernel
theorem dX9_checkRequest_29 : decode cX9_checkRequest 29 = .ok (.return_, 1) := by decide +kernel
theorem dX9_checkSameClass_0 : decode cX9_checkSameClass 0 = .ok (.aload_n 0, 1) := by decide +kernel
theorem dX9_checkSameClass_1 : decode cX9_checkSameClass 1 = .ok (.getfield 10, 3) := by decide +kernel
theorem dX9_checkSameClass_4 : decode cX9_checkSameClass 4 = .ok (.getfield 84, 3) := by decide +kernel
theorem dX9_checkSameClass_7 : decode cX9_checkSameClass 7 = .ok (.getfield 111, 3) := by decide +kernel
theorem dX9_checkSameClass_10 : decode cX9_checkSameClass 10 = .ok (.iload_n 1, 1) := by decide +kernel
theorem dX9_checkSameClass_11 : decode cX9_checkSameClass 11 = .ok (.iaload, 1) := by decide +kernel
theorem dX9_checkSameClass_12 : decode cX9_checkSameClass 12 = .ok (.iload_n 2, 1) := by decide +kernel
theorem dX9_checkSameClass_13 : decode cX9_checkSameClass 13 = .ok (.if_icmp .eq 14, 3) := by decide +kernel
theorem dX9_checkSameClass_16 : decode cX9_checkSameClass 16 = .ok (.new 309, 3) := by decide +kernel
theorem dX9_checkSameClass_19 : decode cX9_checkSameClass 19 = .ok (.dup, 1) := by decide +kernel
theorem dX9_checkSameClass_20 : decode cX9_checkSameClass 20 = .ok (.ldc_w 311, 3) := by decide +kernel
theorem dX9_checkSameClass_23 : decode cX9_checkSameClass 23 = .ok (.invokespecial 313, 3) := by decide +kernel
theorem dX9_checkSameClass_26 : decode cX9_checkSameClass 26 = .ok (.athrow, 1) := by decide +kernel
theorem dX9_checkSameClass_27 : decode cX9_checkSameClass 27 = .ok (.return_, 1) := by decide +kernel
theorem dX9_checkNights_0 : decode cX9_checkNights 0 = .ok (.iload_n 1, 1) := by decide +kernel
theorem dX9_checkNights_1 : decode cX9_checkNights 1 = .ok (.aload_n 0, 1) := by decide +kernel
theorem dX9_checkNights_2 : decode cX9_checkNights 2 = .ok (.getfield 10, 3) := by decide +kernel
theorem dX9_checkNights_5 : decode cX9_checkNights 5 = .ok (.getfield 198, 3) := by decide +kernel
theorem dX9_checkNights_8 : decode cX9_checkNights 8 = .ok (.sipush 998, 3) := by decide +kernel
theorem dX9_checkNights_11 : decode cX9_checkNights 11 = .ok (.invokestatic 56, 3) := by decide +kernel
theorem dX9_checkNights_14 : decode cX9_checkNights 14 = .ok (.iload_n 2, 1) := by decide +kernel
theorem dX9_checkNights_15 : decode cX9_checkNights 15 = .ok (.iload_n 1, 1) := by decide +kernel
theorem dX9_checkNights_16 : decode cX9_checkNights 16 = .ok (.sipush 998, 3) := by decide +kernel
theorem dX9_checkNights_19 : decode cX9_checkNights 19 = .ok (.invokestatic 56, 3) := by decide +kernel
theorem dX9_checkNights_22 : decode cX9_checkNights 22 = .ok (.return_, 1) := by decide +kernel
theorem dX9_checkRange_0 : decode cX9_checkRange 0 = .ok (.iload_n 0, 1) := by decide +kernel
theorem dX9_checkRange_1 : decode cX9_checkRange 1 = .ok (.iload_n 1, 1) := by decide +kernel
theorem dX9_checkRange_2 : decode cX9_checkRange 2 = .ok (.if_icmp .lt 8, 3) := by decide +kernel
theorem dX9_checkRange_5 : decode cX9_checkRange 5 = .ok (.iload_n 0, 1) := by decide +kernel
theorem dX9_checkRange_6 : decode cX9_checkRange 6 = .ok (.iload_n 2, 1) := by decide +kernel
theorem dX9_checkRange_7 : decode cX9_checkRange 7 = .ok (.if_icmp .le 14, 3) := by decide +kernel
theorem dX9_checkRange_10 : decode cX9_checkRange 10 = .ok (.new 309, 3) := by decide +kernel
theorem dX9_checkRange_13 : decode cX9_checkRange 13 = .ok (.dup, 1) := by decide +kernel
theorem dX9_checkRange_14 : decode cX9_checkRange 14 = .ok (.ldc_w 314, 3) := by decide +kernel
theorem dX9_checkRange_17 : decode cX9_checkRange 17 = .ok (.invokespecial 313, 3) := by decide +kernel
theorem dX9_checkRange_20 : decode cX9_checkRange 20 = .ok (.athrow, 1) := by decide +kernel
theorem dX9_checkRange_21 : decode cX9_checkRange 21 = .ok (.return_, 1) := by decide +kernel
theorem dX9_checkState_0 : decode cX9_checkState 0 = .ok (.iload_n 0, 1) := by decide +kernel
theorem dX9_checkState_1 : decode cX9_checkState 1 = .ok (.ifCond .ne 14, 3) := by decide +kernel
theorem dX9_checkState_4 : decode cX9_checkState 4 = .ok (.new 69, 3) := by decide +kernel
theorem dX9_checkState_7 : decode cX9_checkState 7 = .ok (.dup, 1) := by decide +kernel
theorem dX9_checkState_8 : decode cX9_checkState 8 = .ok (.ldc_w 316, 3) := by decide +kernel
theorem dX9_checkState_11 : decode cX9_checkState 11 = .ok (.invokespecial 73, 3) := by decide +kernel
theorem dX9_checkState_14 : decode cX9_checkState 14 = .ok (.athrow, 1) := by decide +kernel
theorem dX9_checkState_15 : decode cX9_checkState 15 = .ok (.return_, 1) := by decide +kernel
theorem dX9_bestRequest_0 : decode cX9_bestRequest 0 = .ok (.aload_n 0, 1) := by decide +kernel
theorem dX9_bestRequest_1 : decode cX9_bestRequest 1 = .ok (.getfield 28, 3) := by decide +kernel
theorem dX9_bestRequest_4 : decode cX9_bestRequest 4 = .ok (.iload_n 1, 1) := by decide +kernel
theorem dX9_bestRequest_5 : decode cX9_bestRequest 5 = .ok (.invokevirtual 142, 3) := by decide +kernel
theorem dX9_bestRequest_8 : decode cX9_bestRequest 8 = .ok (.aload_n 0, 1) := by decide +kernel
theorem dX9_bestRequest_9 : decode cX9_bestRequest 9 = .ok (.getfield 10, 3) := by decide +kernel
theorem dX9_bestRequest_12 : decode cX9_bestRequest 12 = .ok (.getfield 228, 3) := by decide +kernel
theorem dX9_bestRequest_15 : decode cX9_bestRequest 15 = .ok (.astore_n 2, 1) := by decide +kernel
theorem dX9_bestRequest_16 : decode cX9_bestRequest 16 = .ok (.iconst (-1), 1) := by decide +kernel
theorem dX9_bestRequest_17 : decode cX9_bestRequest 17 = .ok (.istore_n 3, 1) := by decide +kernel
theorem dX9_bestRequest_18 : decode cX9_bestRequest 18 = .ok (.iconst 0, 1) := by decide +kernel
theorem dX9_bestRequest_19 : decode cX9_bestRequest 19 = .ok (.istore 4, 2) := by decide +kernel
theorem dX9_bestRequest_21 : decode cX9_bestRequest 21 = .ok (.iload 4, 2) := by decide +kernel
theorem dX9_bestRequest_23 : decode cX9_bestRequest 23 = .ok (.aload_n 2, 1) := by decide +kernel
theorem dX9_bestRequest_24 : decode cX9_bestRequest 24 = .ok (.getfield 232, 3) := by decide +kernel
theorem dX9_bestRequest_27 : decode cX9_bestRequest 27 = .ok (.if_icmp .ge 78, 3) := by decide +kernel
theorem dX9_bestRequest_30 : decode cX9_bestRequest 30 = .ok (.aload_n 2, 1) := by decide +kernel
theorem dX9_bestRequest_31 : decode cX9_bestRequest 31 = .ok (.getfield 241, 3) := by decide +kernel
theorem dX9_bestRequest_34 : decode cX9_bestRequest 34 = .ok (.iload 4, 2) := by decide +kernel
theorem dX9_bestRequest_36 : decode cX9_bestRequest 36 = .ok (.iaload, 1) := by decide +kernel
theorem dX9_bestRequest_37 : decode cX9_bestRequest 37 = .ok (.ifCond .ne 62, 3) := by decide +kernel
theorem dX9_bestRequest_40 : decode cX9_bestRequest 40 = .ok (.aload_n 2, 1) := by decide +kernel
theorem dX9_bestRequest_41 : decode cX9_bestRequest 41 = .ok (.getfield 318, 3) := by decide +kernel
theorem dX9_bestRequest_44 : decode cX9_bestRequest 44 = .ok (.iload 4, 2) := by decide +kernel
theorem dX9_bestRequest_46 : decode cX9_bestRequest 46 = .ok (.iaload, 1) := by decide +kernel
theorem dX9_bestRequest_47 : decode cX9_bestRequest 47 = .ok (.iload_n 1, 1) := by decide +kernel
theorem dX9_bestRequest_48 : decode cX9_bestRequest 48 = .ok (.if_icmp .eq 6, 3) := by decide +kernel
theorem dX9_bestRequest_51 : decode cX9_bestRequest 51 = .ok (.goto 48, 3) := by decide +kernel
theorem dX9_bestRequest_54 : decode cX9_bestRequest 54 = .ok (.iload_n 3, 1) := by decide +kernel
theorem dX9_bestRequest_55 : decode cX9_bestRequest 55 = .ok (.iconst (-1), 1) := by decide +kernel
theorem dX9_bestRequest_56 : decode cX9_bestRequest 56 = .ok (.if_icmp .eq 16, 3) := by decide +kernel
theorem dX9_bestRequest_59 : decode cX9_bestRequest 59 = .ok (.aload_n 2, 1) := by decide +kernel
theorem dX9_bestRequest_60 : decode cX9_bestRequest 60 = .ok (.iload 4, 2) := by decide +kernel
theorem dX9_bestRequest_62 : decode cX9_bestRequest 62 = .ok (.iload_n 3, 1) := by decide +kernel
theorem dX9_bestRequest_63 : decode cX9_bestRequest 63 = .ok (.invokevirtual 319, 3) := by decide +kernel
theorem dX9_bestRequest_66 : decode cX9_bestRequest 66 = .ok (.ifCond .ne 6, 3) := by decide +kernel
theorem dX9_bestRequest_69 : decode cX9_bestRequest 69 = .ok (.goto 30, 3) := by decide +kernel
theorem dX9_bestRequest_72 : decode cX9_bestRequest 72 = .ok (.aload_n 0, 1) := by decide +kernel
theorem dX9_bestRequest_73 : decode cX9_bestRequest 73 = .ok (.getfield 28, 3) := by decide +kernel
theorem dX9_bestRequest_76 : decode cX9_bestRequest 76 = .ok (.aload_n 2, 1) := by decide +kernel
theorem dX9_bestRequest_77 : decode cX9_bestRequest 77 = .ok (.getfield 322, 3) := by decide +kernel
theorem dX9_bestRequest_80 : decode cX9_bestRequest 80 = .ok (.iload 4, 2) := by decide +kernel
theorem dX9_bestRequest_82 : decode cX9_bestRequest 82 = .ok (.iaload, 1) := by decide +kernel
theorem dX9_bestRequest_83 : decode cX9_bestRequest 83 = .ok (.aload_n 2, 1) := by decide +kernel
theorem dX9_bestRequest_84 : decode cX9_bestRequest 84 = .ok (.getfield 323, 3) := by decide +kernel
theorem dX9_bestRequest_87 : decode cX9_bestRequest 87 = .ok (.iload 4, 2) := by decide +kernel
theorem dX9_bestRequest_89 : decode cX9_bestRequest 89 = .ok (.iaload, 1) := by decide +kernel
theorem dX9_bestRequest_90 : decode cX9_bestRequest 90 = .ok (.invokevirtual 145, 3) := by decide +kernel
theorem dX9_bestRequest_93 : decode cX9_bestRequest 93 = .ok (.ifCond .ne 6, 3) := by decide +kernel
theorem dX9_bestRequest_96 : decode cX9_bestRequest 96 = .ok (.iload 4, 2) := by decide +kernel
theorem dX9_bestRequest_98 : decode cX9_bestRequest 98 = .ok (.istore_n 3, 1) := by decide +kernel
theorem dX9_bestRequest_99 : decode cX9_bestRequest 99 = .ok (.iinc 4 1, 3) := by decide +kernel
theorem dX9_bestRequest_102 : decode cX9_bestRequest 102 = .ok (.goto (-81), 3) := by decide +kernel
theorem dX9_bestRequest_105 : decode cX9_bestRequest 105 = .ok (.iload_n 3, 1) := by decide +kernel
theorem dX9_bestRequest_106 : decode cX9_bestRequest 106 = .ok (.ireturn, 1) := by decide +kernel
theorem dX9_commonDivisor_0 : decode cX9_commonDivisor 0 = .ok (.iload_n 0, 1) := by decide +kernel
theorem dX9_commonDivisor_1 : decode cX9_commonDivisor 1 = .ok (.istore_n 2, 1) := by decide +kernel
theorem dX9_commonDivisor_2 : decode cX9_commonDivisor 2 = .ok (.iload_n 1, 1) := by decide +kernel
theorem dX9_commonDivisor_3 : decode cX9_commonDivisor 3 = .ok (.istore_n 3, 1) := by decide +kernel
theorem dX9_commonDivisor_4 : decode cX9_commonDivisor 4 = .ok (.iconst 0, 1) := by decide +kernel
theorem dX9_commonDivisor_5 : decode cX9_commonDivisor 5 = .ok (.istore 4, 2) := by decide +kernel
theorem dX9_commonDivisor_7 : decode cX9_commonDivisor 7 = .ok (.iload 4, 2) := by decide +kernel
theorem dX9_commonDivisor_9 : decode cX9_commonDivisor 9 = .ok (.bipush 64, 2) := by decide +kernel
theorem dX9_commonDivisor_11 : decode cX9_commonDivisor 11 = .ok (.if_icmp .ge 23, 3) := by decide +kernel
theorem dX9_commonDivisor_14 : decode cX9_commonDivisor 14 = .ok (.iload_n 3, 1) := by decide +kernel
theorem dX9_commonDivisor_15 : decode cX9_commonDivisor 15 = .ok (.ifCond .eq 19, 3) := by decide +kernel
theorem dX9_commonDivisor_18 : decode cX9_commonDivisor 18 = .ok (.iload_n 2, 1) := by decide +kernel
theorem dX9_commonDivisor_19 : decode cX9_commonDivisor 19 = .ok (.iload_n 3, 1) := by decide +kernel
theorem dX9_commonDivisor_20 : decode cX9_commonDivisor 20 = .ok (.irem, 1) := by decide +kernel
theorem dX9_commonDivisor_21 : decode cX9_commonDivisor 21 = .ok (.istore 5, 2) := by decide +kernel
theorem dX9_commonDivisor_23 : decode cX9_commonDivisor 23 = .ok (.iload_n 3, 1) := by decide +kernel
theorem dX9_commonDivisor_24 : decode cX9_commonDivisor 24 = .ok (.istore_n 2, 1) := by decide +kernel
theorem dX9_commonDivisor_25 : decode cX9_commonDivisor 25 = .ok (.iload 5, 2) := by decide +kernel
theorem dX9_commonDivisor_27 : decode cX9_commonDivisor 27 = .ok (.istore_n 3, 1) := by decide +kernel
theorem dX9_commonDivisor_28 : decode cX9_commonDivisor 28 = .ok (.iinc 4 1, 3) := by decide +kernel
theorem dX9_commonDivisor_31 : decode cX9_commonDivisor 31 = .ok (.goto (-24), 3) := by decide +kernel
theorem dX9_commonDivisor_34 : decode cX9_commonDivisor 34 = .ok (.iload_n 2, 1) := by decide +kernel
theorem dX9_commonDivisor_35 : decode cX9_commonDivisor 35 = .ok (.ireturn, 1) := by decide +kernel
theorem dX9_copyRow_0 : decode cX9_copyRow 0 = .ok (.aload_n 0, 1) := by decide +kernel
theorem dX9_copyRow_1 : decode cX9_copyRow 1 = .ok (.iconst 0, 1) := by decide +kernel
theorem dX9_copyRow_2 : decode cX9_copyRow 2 = .ok (.aload_n 1, 1) := by decide +kernel
theorem dX9_copyRow_3 : decode cX9_copyRow 3 = .ok (.iconst 0, 1) := by decide +kernel
theorem dX9_copyRow_4 : decode cX9_copyRow 4 = .ok (.aload_n 0, 1) := by decide +kernel
theorem dX9_copyRow_5 : decode cX9_copyRow 5 = .ok (.arraylength, 1) := by decide +kernel
theorem dX9_copyRow_6 : decode cX9_copyRow 6 = .ok (.aload_n 1, 1) := by decide +kernel
theorem dX9_copyRow_7 : decode cX9_copyRow 7 = .ok (.arraylength, 1) := by decide +kernel
theorem dX9_copyRow_8 : decode cX9_copyRow 8 = .ok (.invokestatic 326, 3) := by decide +kernel
theorem dX9_copyRow_11 : decode cX9_copyRow 11 = .ok (.invokestatic 329, 3) := by decide +kernel
theorem dX9_copyRow_14 : decode cX9_copyRow 14 = .ok (.return_, 1) := by decide +kernel
theorem dX10_init_0 : decode cX10_init 0 = .ok (.aload_n 0, 1) := by decide +kernel
theorem dX10_init_1 : decode cX10_init 1 = .ok (.invokespecial 1, 3) := by decide +kernel
theorem dX10_init_4 : decode cX10_init 4 = .ok (.aload_n 0, 1) := by decide +kernel
theorem dX10_init_5 : decode cX10_init 5 = .ok (.sipush 572, 3) := by decide +kernel
theorem dX10_init_8 : decode cX10_init 8 = .ok (.newarray .int, 2) := by decide +kernel
theorem dX10_init_10 : decode cX10_init 10 = .ok (.putfield 7, 3) := by decide +kernel
theorem dX10_init_13 : decode cX10_init 13 = .ok (.aload_n 0, 1) := by decide +kernel
theorem dX10_init_14 : decode cX10_init 14 = .ok (.sipush 572, 3) := by decide +kernel
theorem dX10_init_17 : decode cX10_init 17 = .ok (.newarray .int, 2) := by decide +kernel
theorem dX10_init_19 : decode cX10_init 19 = .ok (.putfield 13, 3) := by decide +kernel
theorem dX10_init_22 : decode cX10_init 22 = .ok (.aload_n 0, 1) := by decide +kernel
theorem dX10_init_23 : decode cX10_init 23 = .ok (.sipush 1144, 3) := by decide +kernel
theorem dX10_init_26 : decode cX10_init 26 = .ok (.newarray .int, 2) := by decide +kernel
theorem dX10_init_28 : decode cX10_init 28 = .ok (.putfield 16, 3) := by decide +kernel
theorem dX10_init_31 : decode cX10_init 31 = .ok (.aload_n 0, 1) := by decide +kernel
theorem dX10_init_32 : decode cX10_init 32 = .ok (.iconst 2, 1) := by decide +kernel
theorem dX10_init_33 : decode cX10_init 33 = .ok (.newarray .boolean, 2) := by decide +kernel
theorem dX10_init_35 : decode cX10_init 35 = .ok (.putfield 19, 3) := by decide +kernel
theorem dX10_init_38 : decode cX10_init 38 = .ok (.aload_n 0, 1) := by decide +kernel
theorem dX10_init_39 : decode cX10_init 39 = .ok (.bipush 60, 2) := by decide +kernel
theorem dX10_init_41 : decode cX10_init 41 = .ok (.newarray .int, 2) := by decide +kernel
theorem dX10_init_43 : decode cX10_init 43 = .ok (.putfield 23, 3) := by decide +kernel
theorem dX10_init_46 : decode cX10_init 46 = .ok (.aload_n 0, 1) := by decide +kernel
theorem dX10_init_47 : decode cX10_init 47 = .ok (.bipush 16, 2) := by decide +kernel
theorem dX10_init_49 : decode cX10_init 49 = .ok (.newarray .int, 2) := by decide +kernel
theorem dX10_init_51 : decode cX10_init 51 = .ok (.putfield 26, 3) := by decide +kernel
theorem dX10_init_54 : decode cX10_init 54 = .ok (.aload_n 0, 1) := by decide +kernel
theorem dX10_init_55 : decode cX10_init 55 = .ok (.sipush 500, 3) := by decide +kernel
theorem dX10_init_58 : decode cX10_init 58 = .ok (.newarray .int, 2) := by decide +kernel
theorem dX10_init_60 : decode cX10_init 60 = .ok (.putfield 29, 3) := by decide +kernel
theorem dX10_init_63 : decode cX10_init 63 = .ok (.aload_n 0, 1) := by decide +kernel
theorem dX10_init_64 : decode cX10_init 64 = .ok (.iconst (-1), 1) := by decide +kernel
theorem dX10_init_65 : decode cX10_init 65 = .ok (.putfield 32, 3) := by decide +kernel
theorem dX10_init_68 : decode cX10_init 68 = .ok (.return_, 1) := by decide +kernel
theorem dX10_thrown_0 : decode cX10_thrown 0 = .ok (.aload_n 0, 1) := by decide +kernel
theorem dX10_thrown_1 : decode cX10_thrown 1 = .ok (.getfield 36, 3) := by decide +kernel
theorem dX10_thrown_4 : decode cX10_thrown 4 = .ok (.ireturn, 1) := by decide +kernel
theorem dX10_fail_0 : decode cX10_fail 0 = .ok (.aload_n 0, 1) := by decide +kernel
theorem dX10_fail_1 : decode cX10_fail 1 = .ok (.iload_n 1, 1) := by decide +kernel
theorem dX10_fail_2 : decode cX10_fail 2 = .ok (.putfield 36, 3) := by decide +kernel
theorem dX10_fail_5 : decode cX10_fail 5 = .ok (.iconst 0, 1) := by decide +kernel
theorem dX10_fail_6 : decode cX10_fail 6 = .ok (.ireturn, 1) := by decide +kernel
theorem dX10_isBetween_0 : decode cX10_isBetween 0 = .ok (.iload_n 0, 1) := by decide +kernel
theorem dX10_isBetween_1 : decode cX10_isBetween 1 = .ok (.iload_n 1, 1) := by decide +kernel
theorem dX10_isBetween_2 : decode cX10_isBetween 2 = .ok (.if_icmp .lt 12, 3) := by decide +kernel
theorem dX10_isBetween_5 : decode cX10_isBetween 5 = .ok (.iload_n 0, 1) := by decide +kernel
theorem dX10_isBetween_6 : decode cX10_isBetween 6 = .ok (.iload_n 2, 1) := by decide +kernel
theorem dX10_isBetween_7 : decode cX10_isBetween 7 = .ok (.if_icmp .gt 7, 3) := by decide +kernel
theorem dX10_isBetween_10 : decode cX10_isBetween 10 = .ok (.iconst 1, 1) := by decide +kernel
theorem dX10_isBetween_11 : decode cX10_isBetween 11 = .ok (.goto 4, 3) := by decide +kernel
theorem dX10_isBetween_14 : decode cX10_isBetween 14 = .ok (.iconst 0, 1) := by decide +kernel
theorem dX10_isBetween_15 : decode cX10_isBetween 15 = .ok (.ireturn, 1) := by decide +kernel
theorem dX10_isClass_0 : decode cX10_isClass 0 = .ok (.iload_n 1, 1) := by decide +kernel
theorem dX10_isClass_1 : decode cX10_isClass 1 = .ok (.iconst 0, 1) := by decide +kernel
theorem dX10_isClass_2 : decode cX10_isClass 2 = .ok (.aload_n 0, 1) := by decide +kernel
theorem dX10_isClass_3 : decode cX10_isClass 3 = .ok (.getfield 7, 3) := by decide +kernel
theorem dX10_isClass_6 : decode cX10_isClass 6 = .ok (.iconst 1, 1) := by decide +kernel
theorem dX10_isClass_7 : decode cX10_isClass 7 = .ok (.iaload, 1) := by decide +kernel
theorem dX10_isClass_8 : decode cX10_isClass 8 = .ok (.iconst 1, 1) := by decide +kernel
theorem dX10_isClass_9 : decode cX10_isClass 9 = .ok (.isub, 1) := by decide +kernel
theorem dX10_isClass_10 : decode cX10_isClass 10 = .ok (.invokestatic 39, 3) := by decide +kernel
theorem dX10_isClass_13 : decode cX10_isClass 13 = .ok (.ireturn, 1) := by decide +kernel
theorem dX10_isSite_0 : decode cX10_isSite 0 = .ok (.iload_n 1, 1) := by decide +kernel
theorem dX10_isSite_1 : decode cX10_isSite 1 = .ok (.iconst 0, 1) := by decide +kernel
theorem dX10_isSite_2 : decode cX10_isSite 2 = .ok (.aload_n 0, 1) := by decide +kernel
theorem dX10_isSite_3 : decode cX10_isSite 3 = .ok (.getfield 7, 3) := by decide +kernel
theorem dX10_isSite_6 : decode cX10_isSite 6 = .ok (.iconst 2, 1) := by decide +kernel
theorem dX10_isSite_7 : decode cX10_isSite 7 = .ok (.iaload, 1) := by decide +kernel
theorem dX10_isSite_8 : decode cX10_isSite 8 = .ok (.iconst 1, 1) := by decide +kernel
theorem dX10_isSite_9 : decode cX10_isSite 9 = .ok (.isub, 1) := by decide +kernel
theorem dX10_isSite_10 : decode cX10_isSite 10 = .ok (.invokestatic 39, 3) := by decide +kernel
theorem dX10_isSite_13 : decode cX10_isSite 13 = .ok (.ireturn, 1) := by decide +kernel
theorem dX10_isBooking_0 : decode cX10_isBooking 0 = .ok (.iload_n 1, 1) := by decide +kernel
theorem dX10_isBooking_1 : decode cX10_isBooking 1 = .ok (.iconst 0, 1) := by decide +kernel
theorem dX10_isBooking_2 : decode cX10_isBooking 2 = .ok (.aload_n 0, 1) := by decide +kernel
theorem dX10_isBooking_3 : decode cX10_isBooking 3 = .ok (.getfield 7, 3) := by decide +kernel
theorem dX10_isBooking_6 : decode cX10_isBooking 6 = .ok (.iconst 4, 1) := by decide +kernel
theorem dX10_isBooking_7 : decode cX10_isBooking 7 = .ok (.iaload, 1) := by decide +kernel
theorem dX10_isBooking_8 : decode cX10_isBooking 8 = .ok (.iconst 1, 1) := by decide +kernel
theorem dX10_isBooking_9 : decode cX10_isBooking 9 = .ok (.isub, 1) := by decide +kernel
theorem dX10_isBooking_10 : decode cX10_isBooking 10 = .ok (.invokestatic 39, 3) := by decide +kernel
theorem dX10_isBooking_13 : decode cX10_isBooking 13 = .ok (.ireturn, 1) := by decide +kernel
theorem dX10_isRequest_0 : decode cX10_isRequest 0 = .ok (.iload_n 1, 1) := by decide +kernel
theorem dX10_isRequest_1 : decode cX10_isRequest 1 = .ok (.iconst 0, 1) := by decide +kernel
theorem dX10_isRequest_2 : decode cX10_isRequest 2 = .ok (.aload_n 0, 1) := by decide +kernel
theorem dX10_isRequest_3 : decode cX10_isRequest 3 = .ok (.getfield 7, 3) := by decide +kernel
theorem dX10_isRequest_6 : decode cX10_isRequest 6 = .ok (.iconst 5, 1) := by decide +kernel
theorem dX10_isRequest_7 : decode cX10_isRequest 7 = .ok (.iaload, 1) := by decide +kernel
theorem dX10_isRequest_8 : decode cX10_isRequest 8 = .ok (.iconst 1, 1) := by decide +kernel
theorem dX10_isRequest_9 : decode cX10_isRequest 9 = .ok (.isub, 1) := by decide +kernel
theorem dX10_isRequest_10 : decode cX10_isRequest 10 = .ok (.invokestatic 39, 3) := by decide +kernel
theorem dX10_isRequest_13 : decode cX10_isRequest 13 = .ok (.ireturn, 1) := by decide +kernel
theorem dX10_isDay_0 : decode cX10_isDay 0 = .ok (.iload_n 0, 1) := by decide +kernel
theorem dX10_isDay_1 : decode cX10_isDay 1 = .ok (.iconst 0, 1) := by decide +kernel
theorem dX10_isDay_2 : decode cX10_isDay 2 = .ok (.sipush 999, 3) := by decide +kernel
theorem dX10_isDay_5 : decode cX10_isDay 5 = .ok (.invokestatic 39, 3) := by decide +kernel
theorem dX10_isDay_8 : decode cX10_isDay 8 = .ok (.ireturn, 1) := by decide +kernel
theorem dX10_isStay_0 : decode cX10_isStay 0 = .ok (.iload_n 0, 1) := by decide +kernel
theorem dX10_isStay_1 : decode cX10_isStay 1 = .ok (.iconst 1, 1) := by decide +kernel
theorem dX10_isStay_2 : decode cX10_isStay 2 = .ok (.bipush 28, 2) := by decide +kernel
theorem dX10_isStay_4 : decode cX10_isStay 4 = .ok (.invokestatic 39, 3) := by decide +kernel
theorem dX10_isStay_7 : decode cX10_isStay 7 = .ok (.ireturn, 1) := by decide +kernel
theorem dX10_siteClass_0 : decode cX10_siteClass 0 = .ok (.aload_n 0, 1) := by decide +kernel
theorem dX10_siteClass_1 : decode cX10_siteClass 1 = .ok (.getfield 7, 3) := by decide +kernel
theorem dX10_siteClass_4 : decode cX10_siteClass 4 = .ok (.bipush 8, 2) := by decide +kernel
theorem dX10_siteClass_6 : decode cX10_siteClass 6 = .ok (.iconst 3, 1) := by decide +kernel
theorem dX10_siteClass_7 : decode cX10_siteClass 7 = .ok (.iload_n 1, 1) := by decide +kernel
theorem dX10_siteClass_8 : decode cX10_siteClass 8 = .ok (.imul, 1) := by decide +kernel
theorem dX10_siteClass_9 : decode cX10_siteClass 9 = .ok (.iadd, 1) := by decide +kernel
theorem dX10_siteClass_10 : decode cX10_siteClass 10 = .ok (.iload_n 2, 1) := by decide +kernel
theorem dX10_siteClass_11 : decode cX10_siteClass 11 = .ok (.iadd, 1) := by decide +kernel
theorem dX10_siteClass_12 : decode cX10_siteClass 12 = .ok (.iaload, 1) := by decide +kernel
theorem dX10_siteClass_13 : decode cX10_siteClass 13 = .ok (.ireturn, 1) := by decide +kernel
theorem dX10_site_0 : decode cX10_site 0 = .ok (.aload_n 0, 1) := by decide +kernel
theorem dX10_site_1 : decode cX10_site 1 = .ok (.getfield 7, 3) := by decide +kernel
theorem dX10_site_4 : decode cX10_site 4 = .ok (.bipush 20, 2) := by decide +kernel
theorem dX10_site_6 : decode cX10_site 6 = .ok (.iconst 2, 1) := by decide +kernel
theorem dX10_site_7 : decode cX10_site 7 = .ok (.iload_n 1, 1) := by decide +kernel
theorem dX10_site_8 : decode cX10_site 8 = .ok (.imul, 1) := by decide +kernel
theorem dX10_site_9 : decode cX10_site 9 = .ok (.iadd, 1) := by decide +kernel
theorem dX10_site_10 : decode cX10_site 10 = .ok (.iload_n 2, 1) := by decide +kernel
theorem dX10_site_11 : decode cX10_site 11 = .ok (.iadd, 1) := by decide +kernel
theorem dX10_site_12 : decode cX10_site 12 = .ok (.iaload, 1) := by decide +kernel
theorem dX10_site_13 : decode cX10_site 13 = .ok (.ireturn, 1) := by decide +kernel
theorem dX10_season_0 : decode cX10_season 0 = .ok (.aload_n 0, 1) := by decide +kernel
theorem dX10_season_1 : decode cX10_season 1 = .ok (.getfield 7, 3) := by decide +kernel
theorem dX10_season_4 : decode cX10_season 4 = .ok (.bipush 52, 2) := by decide +kernel
theorem dX10_season_6 : decode cX10_season 6 = .ok (.iconst 5, 1) := by decide +kernel
theorem dX10_season_7 : decode cX10_season 7 = .ok (.iload_n 1, 1) := by decide +kernel
theorem dX10_season_8 : decode cX10_season 8 = .ok (.imul, 1) := by decide +kernel
theorem dX10_season_9 : decode cX10_season 9 = .ok (.iadd, 1) := by decide +kernel
theorem dX10_season_10 : decode cX10_season 10 = .ok (.iload_n 2, 1) := by decide +kernel
theorem dX10_season_11 : decode cX10_season 11 = .ok (.iadd, 1) := by decide +kernel
theorem dX10_season_12 : decode cX10_season 12 = .ok (.iaload, 1) := by decide +kernel
theorem dX10_season_13 : decode cX10_season 13 = .ok (.ireturn, 1) := by decide +kernel
theorem dX10_booking_0 : decode cX10_booking 0 = .ok (.aload_n 0, 1) := by decide +kernel
theorem dX10_booking_1 : decode cX10_booking 1 = .ok (.getfield 7, 3) := by decide +kernel
theorem dX10_booking_4 : decode cX10_booking 4 = .ok (.bipush 112, 2) := by decide +kernel
theorem dX10_booking_6 : decode cX10_booking 6 = .ok (.bipush 6, 2) := by decide +kernel
theorem dX10_booking_8 : decode cX10_booking 8 = .ok (.iload_n 1, 1) := by decide +kernel
theorem dX10_booking_9 : decode cX10_booking 9 = .ok (.imul, 1) := by decide +kernel
theorem dX10_booking_10 : decode cX10_booking 10 = .ok (.iadd, 1) := by decide +kernel
theorem dX10_booking_11 : decode cX10_booking 11 = .ok (.iload_n 2, 1) := by decide +kernel
theorem dX10_booking_12 : decode cX10_booking 12 = .ok (.iadd, 1) := by decide +kernel
theorem dX10_booking_13 : decode cX10_booking 13 = .ok (.iaload, 1) := by decide +kernel
theorem dX10_booking_14 : decode cX10_booking 14 = .ok (.ireturn, 1) := by decide +kernel
theorem dX10_setBooking_0 : decode cX10_setBooking 0 = .ok (.aload_n 0, 1) := by decide +kernel
theorem dX10_setBooking_1 : decode cX10_setBooking 1 = .ok (.getfield 7, 3) := by decide +kernel
theorem dX10_setBooking_4 : decode cX10_setBooking 4 = .ok (.bipush 112, 2) := by decide +kernel
theorem dX10_setBooking_6 : decode cX10_setBooking 6 = .ok (.bipush 6, 2) := by decide +kernel
theorem dX10_setBooking_8 : decode cX10_setBooking 8 = .ok (.iload_n 1, 1) := by decide +kernel
theorem dX10_setBooking_9 : decode cX10_setBooking 9 = .ok (.imul, 1) := by decide +kernel
theorem dX10_setBooking_10 : decode cX10_setBooking 10 = .ok (.iadd, 1) := by decide +kernel
theorem dX10_setBooking_11 : decode cX10_setBooking 11 = .ok (.iload_n 2, 1) := by decide +kernel
theorem dX10_setBooking_12 : decode cX10_setBooking 12 = .ok (.iadd, 1) := by decide +kernel
theorem dX10_setBooking_13 : decode cX10_setBooking 13 = .ok (.iload_n 3, 1) := by decide +kernel
theorem dX10_setBooking_14 : decode cX10_setBooking 14 = .ok (.iastore, 1) := by decide +kernel
theorem dX10_setBooking_15 : decode cX10_setBooking 15 = .ok (.return_, 1) := by decide +kernel
theorem dX10_requestField_0 : decode cX10_requestField 0 = .ok (.aload_n 0, 1) := by decide +kernel
theorem dX10_requestField_1 : decode cX10_requestField 1 = .ok (.getfield 7, 3) := by decide +kernel
theorem dX10_requestField_4 : decode cX10_requestField 4 = .ok (.sipush 472, 3) := by decide +kernel
theorem dX10_requestField_7 : decode cX10_requestField 7 = .ok (.iconst 5, 1) := by decide +kernel
theorem dX10_requestField_8 : decode cX10_requestField 8 = .ok (.iload_n 1, 1) := by decide +kernel
theorem dX10_requestField_9 : decode cX10_requestField 9 = .ok (.imul, 1) := by decide +kernel
theorem dX10_requestField_10 : decode cX10_requestField 10 = .ok (.iadd, 1) := by decide +kernel
theorem dX10_requestField_11 : decode cX10_requestField 11 = .ok (.iload_n 2, 1) := by decide +kernel
theorem dX10_requestField_12 : decode cX10_requestField 12 = .ok (.iadd, 1) := by decide +kernel
theorem dX10_requestField_13 : decode cX10_requestField 13 = .ok (.iaload, 1) := by decide +kernel
theorem dX10_requestField_14 : decode cX10_requestField 14 = .ok (.ireturn, 1) := by decide +kernel
theorem dX10_setRequest_0 : decode cX10_setRequest 0 = .ok (.aload_n 0, 1) := by decide +kernel
theorem dX10_setRequest_1 : decode cX10_setRequest 1 = .ok (.getfield 7, 3) := by decide +kernel
theorem dX10_setRequest_4 : decode cX10_setRequest 4 = .ok (.sipush 472, 3) := by decide +kernel
theorem dX10_setRequest_7 : decode cX10_setRequest 7 = .ok (.iconst 5, 1) := by decide +kernel
theorem dX10_setRequest_8 : decode cX10_setRequest 8 = .ok (.iload_n 1, 1) := by decide +kernel
theorem dX10_setRequest_9 : decode cX10_setRequest 9 = .ok (.imul, 1) := by decide +kernel
theorem dX10_setRequest_10 : decode cX10_setRequest 10 = .ok (.iadd, 1) := by decide +kernel
theorem dX10_setRequest_11 : decode cX10_setRequest 11 = .ok (.iload_n 2, 1) := by decide +kernel
theorem dX10_setRequest_12 : decode cX10_setRequest 12 = .ok (.iadd, 1) := by decide +kernel
theorem dX10_setRequest_13 : decode cX10_setRequest 13 = .ok (.iload_n 3, 1) := by decide +kernel
theorem dX10_setRequest_14 : decode cX10_setRequest 14 = .ok (.iastore, 1) := by decide +kernel
theorem dX10_setRequest_15 : decode cX10_setRequest 15 = .ok (.return_, 1) := by decide +kernel
theorem dX10_copy_0 : decode cX10_copy 0 = .ok (.iconst 0, 1) := by decide +kernel
theorem dX10_copy_1 : decode cX10_copy 1 = .ok (.istore 4, 2) := by decide +kernel
theorem dX10_copy_3 : decode cX10_copy 3 = .ok (.iload 4, 2) := by decide +kernel
theorem dX10_copy_5 : decode cX10_copy 5 = .ok (.sipush 572, 3) := by decide +kernel
theorem dX10_copy_8 : decode cX10_copy 8 = .ok (.if_icmp .ge 21, 3) := by decide +kernel
theorem dX10_copy_11 : decode cX10_copy 11 = .ok (.aload_n 2, 1) := by decide +kernel
theorem dX10_copy_12 : decode cX10_copy 12 = .ok (.iload_n 3, 1) := by decide +kernel
theorem dX10_copy_13 : decode cX10_copy 13 = .ok (.iload 4, 2) := by decide +kernel
theorem dX10_copy_15 : decode cX10_copy 15 = .ok (.iadd, 1) := by decide +kernel
theorem dX10_copy_16 : decode cX10_copy 16 = .ok (.aload_n 0, 1) := by decide +kernel
theorem dX10_copy_17 : decode cX10_copy 17 = .ok (.iload_n 1, 1) := by decide +kernel
theorem dX10_copy_18 : decode cX10_copy 18 = .ok (.iload 4, 2) := by decide +kernel
theorem dX10_copy_20 : decode cX10_copy 20 = .ok (.iadd, 1) := by decide +kernel
theorem dX10_copy_21 : decode cX10_copy 21 = .ok (.iaload, 1) := by decide +kernel
theorem dX10_copy_22 : decode cX10_copy 22 = .ok (.iastore, 1) := by decide +kernel
theorem dX10_copy_23 : decode cX10_copy 23 = .ok (.iinc 4 1, 3) := by decide +kernel
theorem dX10_copy_26 : decode cX10_copy 26 = .ok (.goto (-23), 3) := by decide +kernel
theorem dX10_copy_29 : decode cX10_copy 29 = .ok (.return_, 1) := by decide +kernel
theorem dX10_appendClass_0 : decode cX10_appendClass 0 = .ok (.bipush 8, 2) := by decide +kernel
theorem dX10_appendClass_2 : decode cX10_appendClass 2 = .ok (.iconst 3, 1) := by decide +kernel
theorem dX10_appendClass_3 : decode cX10_appendClass 3 = .ok (.aload_n 0, 1) := by decide +kernel
theorem dX10_appendClass_4 : decode cX10_appendClass 4 = .ok (.getfield 7, 3) := by decide +kernel
theorem dX10_appendClass_7 : decode cX10_appendClass 7 = .ok (.iconst 1, 1) := by decide +kernel
theorem dX10_appendClass_8 : decode cX10_appendClass 8 = .ok (.iaload, 1) := by decide +kernel
theorem dX10_appendClass_9 : decode cX10_appendClass 9 = .ok (.imul, 1) := by decide +kernel
theorem dX10_appendClass_10 : decode cX10_appendClass 10 = .ok (.iadd, 1) := by decide +kernel
theorem dX10_appendClass_11 : decode cX10_appendClass 11 = .ok (.istore 4, 2) := by decide +kernel
theorem dX10_appendClass_13 : decode cX10_appendClass 13 = .ok (.aload_n 0, 1) := by decide +kernel
theorem dX10_appendClass_14 : decode cX10_appendClass 14 = .ok (.getfield 7, 3) := by decide +kernel
theorem dX10_appendClass_17 : decode cX10_appendClass 17 = .ok (.iload 4, 2) := by decide +kernel
theorem dX10_appendClass_19 : decode cX10_appendClass 19 = .ok (.iconst 0, 1) := by decide +kernel
theorem dX10_appendClass_20 : decode cX10_appendClass 20 = .ok (.iadd, 1) := by decide +kernel
theorem dX10_appendClass_21 : decode cX10_appendClass 21 = .ok (.iload_n 1, 1) := by decide +kernel
theorem dX10_appendClass_22 : decode cX10_appendClass 22 = .ok (.iastore, 1) := by decide +kernel
theorem dX10_appendClass_23 : decode cX10_appendClass 23 = .ok (.aload_n 0, 1) := by decide +kernel
theorem dX10_appendClass_24 : decode cX10_appendClass 24 = .ok (.getfield 7, 3) := by decide +kernel
theorem dX10_appendClass_27 : decode cX10_appendClass 27 = .ok (.iload 4, 2) := by decide +kernel
theorem dX10_appendClass_29 : decode cX10_appendClass 29 = .ok (.iconst 1, 1) := by decide +kernel
theorem dX10_appendClass_30 : decode cX10_appendClass 30 = .ok (.iadd, 1) := by decide +kernel
theorem dX10_appendClass_31 : decode cX10_appendClass 31 = .ok (.iload_n 2, 1) := by decide +kernel
theorem dX10_appendClass_32 : decode cX10_appendClass 32 = .ok (.iastore, 1) := by decide +kernel
theorem dX10_appendClass_33 : decode cX10_appendClass 33 = .ok (.aload_n 0, 1) := by decide +kernel
theorem dX10_appendClass_34 : decode cX10_appendClass 34 = .ok (.getfield 7, 3) := by decide +kernel
theorem dX10_appendClass_37 : decode cX10_appendClass 37 = .ok (.iload 4, 2) := by decide +kernel
theorem dX10_appendClass_39 : decode cX10_appendClass 39 = .ok (.iconst 2, 1) := by decide +kernel
theorem dX10_appendClass_40 : decode cX10_appendClass 40 = .ok (.iadd, 1) := by decide +kernel
theorem dX10_appendClass_41 : decode cX10_appendClass 41 = .ok (.iload_n 3, 1) := by decide +kernel
theorem dX10_appendClass_42 : decode cX10_appendClass 42 = .ok (.iastore, 1) := by decide +kernel
theorem dX10_appendClass_43 : decode cX10_appendClass 43 = .ok (.aload_n 0, 1) := by decide +kernel
theorem dX10_appendClass_44 : decode cX10_appendClass 44 = .ok (.getfield 7, 3) := by decide +kernel
theorem dX10_appendClass_47 : decode cX10_appendClass 47 = .ok (.iconst 1, 1) := by decide +kernel
theorem dX10_appendClass_48 : decode cX10_appendClass 48 = .ok (.dup2, 1) := by decide +kernel
theorem dX10_appendClass_49 : decode cX10_appendClass 49 = .ok (.iaload, 1) := by decide +kernel
theorem dX10_appendClass_50 : decode cX10_appendClass 50 = .ok (.iconst 1, 1) := by decide +kernel
theorem dX10_appendClass_51 : decode cX10_appendClass 51 = .ok (.iadd, 1) := by decide +kernel
theorem dX10_appendClass_52 : decode cX10_appendClass 52 = .ok (.iastore, 1) := by decide +kernel
theorem dX10_appendClass_53 : decode cX10_appendClass 53 = .ok (.aload_n 0, 1) := by decide +kernel
theorem dX10_appendClass_54 : decode cX10_appendClass 54 = .ok (.getfield 7, 3) := by decide +kernel
theorem dX10_appendClass_57 : decode cX10_appendClass 57 = .ok (.iconst 1, 1) := by decide +kernel
theorem dX10_appendClass_58 : decode cX10_appendClass 58 = .ok (.iaload, 1) := by decide +kernel
theorem dX10_appendClass_59 : decode cX10_appendClass 59 = .ok (.iconst 1, 1) := by decide +kernel
theorem dX10_appendClass_60 : decode cX10_appendClass 60 = .ok (.isub, 1) := by decide +kernel
theorem dX10_appendClass_61 : decode cX10_appendClass 61 = .ok (.ireturn, 1) := by decide +kernel
theorem dX10_addClass_0 : decode cX10_addClass 0 = .ok (.aload_n 0, 1) := by decide +kernel
theorem dX10_addClass_1 : decode cX10_addClass 1 = .ok (.iconst 0, 1) := by decide +kernel
theorem dX10_addClass_2 : decode cX10_addClass 2 = .ok (.putfield 36, 3) := by decide +kernel
theorem dX10_addClass_5 : decode cX10_addClass 5 = .ok (.iload_n 1, 1) := by decide +kernel
theorem dX10_addClass_6 : decode cX10_addClass 6 = .ok (.iconst 1, 1) := by decide +kernel
theorem dX10_addClass_7 : decode cX10_addClass 7 = .ok (.sipush 200, 3) := by decide +kernel
theorem dX10_addClass_10 : decode cX10_addClass 10 = .ok (.invokestatic 39, 3) := by decide +kernel
theorem dX10_addClass_13 : decode cX10_addClass 13 = .ok (.ifCond .eq 22, 3) := by decide +kernel
theorem dX10_addClass_16 : decode cX10_addClass 16 = .ok (.iload_n 2, 1) := by decide +kernel
theorem dX10_addClass_17 : decode cX10_addClass 17 = .ok (.iconst 0, 1) := by decide +kernel
theorem dX10_addClass_18 : decode cX10_addClass 18 = .ok (.iload_n 1, 1) := by decide +kernel
theorem dX10_addClass_19 : decode cX10_addClass 19 = .ok (.invokestatic 39, 3) := by decide +kernel
theorem dX10_addClass_22 : decode cX10_addClass 22 = .ok (.ifCond .eq 13, 3) := by decide +kernel
theorem dX10_addClass_25 : decode cX10_addClass 25 = .ok (.iload_n 3, 1) := by decide +kernel
theorem dX10_addClass_26 : decode cX10_addClass 26 = .ok (.iconst 0, 1) := by decide +kernel
theorem dX10_addClass_27 : decode cX10_addClass 27 = .ok (.bipush 16, 2) := by decide +kernel
theorem dX10_addClass_29 : decode cX10_addClass 29 = .ok (.invokestatic 39, 3) := by decide +kernel
theorem dX10_addClass_32 : decode cX10_addClass 32 = .ok (.ifCond .ne 9, 3) := by decide +kernel
theorem dX10_addClass_35 : decode cX10_addClass 35 = .ok (.aload_n 0, 1) := by decide +kernel
theorem dX10_addClass_36 : decode cX10_addClass 36 = .ok (.iconst 1, 1) := by decide +kernel
theorem dX10_addClass_37 : decode cX10_addClass 37 = .ok (.invokevirtual 43, 3) := by decide +kernel
theorem dX10_addClass_40 : decode cX10_addClass 40 = .ok (.ireturn, 1) := by decide +kernel
theorem dX10_addClass_41 : decode cX10_addClass 41 = .ok (.aload_n 0, 1) := by decide +kernel
theorem dX10_addClass_42 : decode cX10_addClass 42 = .ok (.getfield 7, 3) := by decide +kernel
theorem dX10_addClass_45 : decode cX10_addClass 45 = .ok (.iconst 1, 1) := by decide +kernel
theorem dX10_addClass_46 : decode cX10_addClass 46 = .ok (.iaload, 1) := by decide +kernel
theorem dX10_addClass_47 : decode cX10_addClass 47 = .ok (.iconst 4, 1) := by decide +kernel
theorem dX10_addClass_48 : decode cX10_addClass 48 = .ok (.if_icmp .ne 11, 3) := by decide +kernel
theorem dX10_addClass_51 : decode cX10_addClass 51 = .ok (.aload_n 0, 1) := by decide +kernel
theorem dX10_addClass_52 : decode cX10_addClass 52 = .ok (.iconst 2, 1) := by decide +kernel
theorem dX10_addClass_53 : decode cX10_addClass 53 = .ok (.invokevirtual 43, 3) := by decide +kernel
theorem dX10_addClass_56 : decode cX10_addClass 56 = .ok (.goto 10, 3) := by decide +kernel
theorem dX10_addClass_59 : decode cX10_addClass 59 = .ok (.aload_n 0, 1) := by decide +kernel
theorem dX10_addClass_60 : decode cX10_addClass 60 = .ok (.iload_n 1, 1) := by decide +kernel
theorem dX10_addClass_61 : decode cX10_addClass 61 = .ok (.iload_n 2, 1) := by decide +kernel
theorem dX10_addClass_62 : decode cX10_addClass 62 = .ok (.iload_n 3, 1) := by decide +kernel
theorem dX10_addClass_63 : decode cX10_addClass 63 = .ok (.invokevirtual 47, 3) := by decide +kernel
theorem dX10_addClass_66 : decode cX10_addClass 66 = .ok (.ireturn, 1) := by decide +kernel
theorem dX10_appendSite_0 : decode cX10_appendSite 0 = .ok (.bipush 20, 2) := by decide +kernel
theorem dX10_appendSite_2 : decode cX10_appendSite 2 = .ok (.iconst 2, 1) := by decide +kernel
theorem dX10_appendSite_3 : decode cX10_appendSite 3 = .ok (.aload_n 0, 1) := by decide +kernel
theorem dX10_appendSite_4 : decode cX10_appendSite 4 = .ok (.getfield 7, 3) := by decide +kernel
theorem dX10_appendSite_7 : decode cX10_appendSite 7 = .ok (.iconst 2, 1) := by decide +kernel
theorem dX10_appendSite_8 : decode cX10_appendSite 8 = .ok (.iaload, 1) := by decide +kernel
theorem dX10_appendSite_9 : decode cX10_appendSite 9 = .ok (.imul, 1) := by decide +kernel
theorem dX10_appendSite_10 : decode cX10_appendSite 10 = .ok (.iadd, 1) := by decide +kernel
theorem dX10_appendSite_11 : decode cX10_appendSite 11 = .ok (.istore_n 2, 1) := by decide +kernel
theorem dX10_appendSite_12 : decode cX10_appendSite 12 = .ok (.aload_n 0, 1) := by decide +kernel
theorem dX10_appendSite_13 : decode cX10_appendSite 13 = .ok (.getfield 7, 3) := by decide +kernel
theorem dX10_appendSite_16 : decode cX10_appendSite 16 = .ok (.iload_n 2, 1) := by decide +kernel
theorem dX10_appendSite_17 : decode cX10_appendSite 17 = .ok (.iconst 0, 1) := by decide +kernel
theorem dX10_appendSite_18 : decode cX10_appendSite 18 = .ok (.iadd, 1) := by decide +kernel
theorem dX10_appendSite_19 : decode cX10_appendSite 19 = .ok (.iload_n 1, 1) := by decide +kernel
theorem dX10_appendSite_20 : decode cX10_appendSite 20 = .ok (.iastore, 1) := by decide +kernel
theorem dX10_appendSite_21 : decode cX10_appendSite 21 = .ok (.aload_n 0, 1) := by decide +kernel
theorem dX10_appendSite_22 : decode cX10_appendSite 22 = .ok (.getfield 7, 3) := by decide +kernel
theorem dX10_appendSite_25 : decode cX10_appendSite 25 = .ok (.iload_n 2, 1) := by decide +kernel
theorem dX10_appendSite_26 : decode cX10_appendSite 26 = .ok (.iconst 1, 1) := by decide +kernel
theorem dX10_appendSite_27 : decode cX10_appendSite 27 = .ok (.iadd, 1) := by decide +kernel
theorem dX10_appendSite_28 : decode cX10_appendSite 28 = .ok (.iconst 0, 1) := by decide +kernel
theorem dX10_appendSite_29 : decode cX10_appendSite 29 = .ok (.iastore, 1) := by decide +kernel
theorem dX10_appendSite_30 : decode cX10_appendSite 30 = .ok (.aload_n 0, 1) := by decide +kernel
theorem dX10_appendSite_31 : decode cX10_appendSite 31 = .ok (.getfield 7, 3) := by decide +kernel
theorem dX10_appendSite_34 : decode cX10_appendSite 34 = .ok (.iconst 2, 1) := by decide +kernel
theorem dX10_appendSite_35 : decode cX10_appendSite 35 = .ok (.dup2, 1) := by decide +kernel
theorem dX10_appendSite_36 : decode cX10_appendSite 36 = .ok (.iaload, 1) := by decide +kernel
theorem dX10_appendSite_37 : decode cX10_appendSite 37 = .ok (.iconst 1, 1) := by decide +kernel
theorem dX10_appendSite_38 : decode cX10_appendSite 38 = .ok (.iadd, 1) := by decide +kernel
theorem dX10_appendSite_39 : decode cX10_appendSite 39 = .ok (.iastore, 1) := by decide +kernel
theorem dX10_appendSite_40 : decode cX10_appendSite 40 = .ok (.aload_n 0, 1) := by decide +kernel
theorem dX10_appendSite_41 : decode cX10_appendSite 41 = .ok (.getfield 7, 3) := by decide +kernel
theorem dX10_appendSite_44 : decode cX10_appendSite 44 = .ok (.iconst 2, 1) := by decide +kernel
theorem dX10_appendSite_45 : decode cX10_appendSite 45 = .ok (.iaload, 1) := by decide +kernel
theorem dX10_appendSite_46 : decode cX10_appendSite 46 = .ok (.iconst 1, 1) := by decide +kernel
theorem dX10_appendSite_47 : decode cX10_appendSite 47 = .ok (.isub, 1) := by decide +kernel
theorem dX10_appendSite_48 : decode cX10_appendSite 48 = .ok (.ireturn, 1) := by decide +kernel
theorem dX10_addSite_0 : decode cX10_addSite 0 = .ok (.aload_n 0, 1) := by decide +kernel
theorem dX10_addSite_1 : decode cX10_addSite 1 = .ok (.iconst 0, 1) := by decide +kernel
theorem dX10_addSite_2 : decode cX10_addSite 2 = .ok (.putfield 36, 3) := by decide +kernel
theorem dX10_addSite_5 : decode cX10_addSite 5 = .ok (.aload_n 0, 1) := by decide +kernel
theorem dX10_addSite_6 : decode cX10_addSite 6 = .ok (.iload_n 1, 1) := by decide +kernel
theorem dX10_addSite_7 : decode cX10_addSite 7 = .ok (.invokevirtual 51, 3) := by decide +kernel
theorem dX10_addSite_10 : decode cX10_addSite 10 = .ok (.ifCond .ne 9, 3) := by decide +kernel
theorem dX10_addSite_13 : decode cX10_addSite 13 = .ok (.aload_n 0, 1) := by decide +kernel
theorem dX10_addSite_14 : decode cX10_addSite 14 = .ok (.iconst 1, 1) := by decide +kernel
theorem dX10_addSite_15 : decode cX10_addSite 15 = .ok (.invokevirtual 43, 3) := by decide +kernel
theorem dX10_addSite_18 : decode cX10_addSite 18 = .ok (.ireturn, 1) := by decide +kernel
theorem dX10_addSite_19 : decode cX10_addSite 19 = .ok (.aload_n 0, 1) := by decide +kernel
theorem dX10_addSite_20 : decode cX10_addSite 20 = .ok (.getfield 7, 3) := by decide +kernel
theorem dX10_addSite_23 : decode cX10_addSite 23 = .ok (.iconst 2, 1) := by decide +kernel
theorem dX10_addSite_24 : decode cX10_addSite 24 = .ok (.iaload, 1) := by decide +kernel
theorem dX10_addSite_25 : decode cX10_addSite 25 = .ok (.bipush 16, 2) := by decide +kernel
theorem dX10_addSite_27 : decode cX10_addSite 27 = .ok (.if_icmp .ne 11, 3) := by decide +kernel
theorem dX10_addSite_30 : decode cX10_addSite 30 = .ok (.aload_n 0, 1) := by decide +kernel
theorem dX10_addSite_31 : decode cX10_addSite 31 = .ok (.iconst 2, 1) := by decide +kernel
theorem dX10_addSite_32 : decode cX10_addSite 32 = .ok (.invokevirtual 43, 3) := by decide +kernel
theorem dX10_addSite_35 : decode cX10_addSite 35 = .ok (.goto 8, 3) := by decide +kernel
theorem dX10_addSite_38 : decode cX10_addSite 38 = .ok (.aload_n 0, 1) := by decide +kernel
theorem dX10_addSite_39 : decode cX10_addSite 39 = .ok (.iload_n 1, 1) := by decide +kernel
theorem dX10_addSite_40 : decode cX10_addSite 40 = .ok (.invokevirtual 55, 3) := by decide +kernel
theorem dX10_addSite_43 : decode cX10_addSite 43 = .ok (.ireturn, 1) := by decide +kernel
theorem dX10_appendSeason_0 : decode cX10_appendSeason 0 = .ok (.bipush 52, 2) := by decide +kernel
theorem dX10_appendSeason_2 : decode cX10_appendSeason 2 = .ok (.iconst 5, 1) := by decide +kernel
theorem dX10_appendSeason_3 : decode cX10_appendSeason 3 = .ok (.aload_n 0, 1) := by decide +kernel
theorem dX10_appendSeason_4 : decode cX10_appendSeason 4 = .ok (.getfield 7, 3) := by decide +kernel
theorem dX10_appendSeason_7 : decode cX10_appendSeason 7 = .ok (.iconst 3, 1) := by decide +kernel
theorem dX10_appendSeason_8 : decode cX10_appendSeason 8 = .ok (.iaload, 1) := by decide +kernel
theorem dX10_appendSeason_9 : decode cX10_appendSeason 9 = .ok (.imul, 1) := by decide +kernel
theorem dX10_appendSeason_10 : decode cX10_appendSeason 10 = .ok (.iadd, 1) := by decide +kernel
theorem dX10_appendSeason_11 : decode cX10_appendSeason 11 = .ok (.istore 6, 2) := by decide +kernel
theorem dX10_appendSeason_13 : decode cX10_appendSeason 13 = .ok (.aload_n 0, 1) := by decide +kernel
theorem dX10_appendSeason_14 : decode cX10_appendSeason 14 = .ok (.getfield 7, 3) := by decide +kernel
theorem dX10_appendSeason_17 : decode cX10_appendSeason 17 = .ok (.iload 6, 2) := by decide +kernel
theorem dX10_appendSeason_19 : decode cX10_appendSeason 19 = .ok (.iconst 0, 1) := by decide +kernel
theorem dX10_appendSeason_20 : decode cX10_appendSeason 20 = .ok (.iadd, 1) := by decide +kernel
theorem dX10_appendSeason_21 : decode cX10_appendSeason 21 = .ok (.iload_n 1, 1) := by decide +kernel
theorem dX10_appendSeason_22 : decode cX10_appendSeason 22 = .ok (.iastore, 1) := by decide +kernel
theorem dX10_appendSeason_23 : decode cX10_appendSeason 23 = .ok (.aload_n 0, 1) := by decide +kernel
theorem dX10_appendSeason_24 : decode cX10_appendSeason 24 = .ok (.getfield 7, 3) := by decide +kernel
theorem dX10_appendSeason_27 : decode cX10_appendSeason 27 = .ok (.iload 6, 2) := by decide +kernel
theorem dX10_appendSeason_29 : decode cX10_appendSeason 29 = .ok (.iconst 1, 1) := by decide +kernel
theorem dX10_appendSeason_30 : decode cX10_appendSeason 30 = .ok (.iadd, 1) := by decide +kernel
theorem dX10_appendSeason_31 : decode cX10_appendSeason 31 = .ok (.iload_n 2, 1) := by decide +kernel
theorem dX10_appendSeason_32 : decode cX10_appendSeason 32 = .ok (.iastore, 1) := by decide +kernel
theorem dX10_appendSeason_33 : decode cX10_appendSeason 33 = .ok (.aload_n 0, 1) := by decide +kernel
theorem dX10_appendSeason_34 : decode cX10_appendSeason 34 = .ok (.getfield 7, 3) := by decide +kernel
theorem dX10_appendSeason_37 : decode cX10_appendSeason 37 = .ok (.iload 6, 2) := by decide +kernel
theorem dX10_appendSeason_39 : decode cX10_appendSeason 39 = .ok (.iconst 2, 1) := by decide +kernel
theorem dX10_appendSeason_40 : decode cX10_appendSeason 40 = .ok (.iadd, 1) := by decide +kernel
theorem dX10_appendSeason_41 : decode cX10_appendSeason 41 = .ok (.iload_n 3, 1) := by decide +kernel
theorem dX10_appendSeason_42 : decode cX10_appendSeason 42 = .ok (.iastore, 1) := by decide +kernel
theorem dX10_appendSeason_43 : decode cX10_appendSeason 43 = .ok (.aload_n 0, 1) := by decide +kernel
theorem dX10_appendSeason_44 : decode cX10_appendSeason 44 = .ok (.getfield 7, 3) := by decide +kernel
theorem dX10_appendSeason_47 : decode cX10_appendSeason 47 = .ok (.iload 6, 2) := by decide +kernel
theorem dX10_appendSeason_49 : decode cX10_appendSeason 49 = .ok (.iconst 3, 1) := by decide +kernel
theorem dX10_appendSeason_50 : decode cX10_appendSeason 50 = .ok (.iadd, 1) := by decide +kernel
theorem dX10_appendSeason_51 : decode cX10_appendSeason 51 = .ok (.iload 4, 2) := by decide +kernel
theorem dX10_appendSeason_53 : decode cX10_appendSeason 53 = .ok (.iastore, 1) := by decide +kernel
theorem dX10_appendSeason_54 : decode cX10_appendSeason 54 = .ok (.aload_n 0, 1) := by decide +kernel
theorem dX10_appendSeason_55 : decode cX10_appendSeason 55 = .ok (.getfield 7, 3) := by decide +kernel
theorem dX10_appendSeason_58 : decode cX10_appendSeason 58 = .ok (.iload 6, 2) := by decide +kernel
theorem dX10_appendSeason_60 : decode cX10_appendSeason 60 = .ok (.iconst 4, 1) := by decide +kernel
theorem dX10_appendSeason_61 : decode cX10_appendSeason 61 = .ok (.iadd, 1) := by decide +kernel
theorem dX10_appendSeason_62 : decode cX10_appendSeason 62 = .ok (.iload 5, 2) := by decide +kernel
theorem dX10_appendSeason_64 : decode cX10_appendSeason 64 = .ok (.iastore, 1) := by decide +kernel
theorem dX10_appendSeason_65 : decode cX10_appendSeason 65 = .ok (.aload_n 0, 1) := by decide +kernel
theorem dX10_appendSeason_66 : decode cX10_appendSeason 66 = .ok (.getfield 7, 3) := by decide +kernel
theorem dX10_appendSeason_69 : decode cX10_appendSeason 69 = .ok (.iconst 3, 1) := by decide +kernel
theorem dX10_appendSeason_70 : decode cX10_appendSeason 70 = .ok (.dup2, 1) := by decide +kernel
theorem dX10_appendSeason_71 : decode cX10_appendSeason 71 = .ok (.iaload, 1) := by decide +kernel
theorem dX10_appendSeason_72 : decode cX10_appendSeason 72 = .ok (.iconst 1, 1) := by decide +kernel
theorem dX10_appendSeason_73 : decode cX10_appendSeason 73 = .ok (.iadd, 1) := by decide +kernel
theorem dX10_appendSeason_74 : decode cX10_appendSeason 74 = .ok (.iastore, 1) := by decide +kernel
theorem dX10_appendSeason_75 : decode cX10_appendSeason 75 = .ok (.aload_n 0, 1) := by decide +kernel
theorem dX10_appendSeason_76 : decode cX10_appendSeason 76 = .ok (.getfield 7, 3) := by decide +kernel
theorem dX10_appendSeason_79 : decode cX10_appendSeason 79 = .ok (.iconst 3, 1) := by decide +kernel
theorem dX10_appendSeason_80 : decode cX10_appendSeason 80 = .ok (.iaload, 1) := by decide +kernel
theorem dX10_appendSeason_81 : decode cX10_appendSeason 81 = .ok (.iconst 1, 1) := by decide +kernel
theorem dX10_appendSeason_82 : decode cX10_appendSeason 82 = .ok (.isub, 1) := by decide +kernel
theorem dX10_appendSeason_83 : decode cX10_appendSeason 83 = .ok (.ireturn, 1) := by decide +kernel
theorem dX10_addSeason_0 : decode cX10_addSeason 0 = .ok (.aload_n 0, 1) := by decide +kernel
theorem dX10_addSeason_1 : decode cX10_addSeason 1 = .ok (.iconst 0, 1) := by decide +kernel
theorem dX10_addSeason_2 : decode cX10_addSeason 2 = .ok (.putfield 36, 3) := by decide +kernel
theorem dX10_addSeason_5 : decode cX10_addSeason 5 = .ok (.aload_n 0, 1) := by decide +kernel
theorem dX10_addSeason_6 : decode cX10_addSeason 6 = .ok (.iload_n 1, 1) := by decide +kernel
theorem dX10_addSeason_7 : decode cX10_addSeason 7 = .ok (.invokevirtual 51, 3) := by decide +kernel
theorem dX10_addSeason_10 : decode cX10_addSeason 10 = .ok (.ifCond .ne 9, 3) := by decide +kernel
theorem dX10_addSeason_13 : decode cX10_addSeason 13 = .ok (.aload_n 0, 1) := by decide +kernel
theorem dX10_addSeason_14 : decode cX10_addSeason 14 = .ok (.iconst 1, 1) := by decide +kernel
theorem dX10_addSeason_15 : decode cX10_addSeason 15 = .ok (.invokevirtual 43, 3) := by decide +kernel
theorem dX10_addSeason_18 : decode cX10_addSeason 18 = .ok (.ireturn, 1) := by decide +kernel
theorem dX10_addSeason_19 : decode cX10_addSeason 19 = .ok (.iload_n 2, 1) := by decide +kernel
theorem dX10_addSeason_20 : decode cX10_addSeason 20 = .ok (.invokestatic 58, 3) := by decide +kernel
theorem dX10_addSeason_23 : decode cX10_addSeason 23 = .ok (.ifCond .eq 37, 3) := by decide +kernel
theorem dX10_addSeason_26 : decode cX10_addSeason 26 = .ok (.iload_n 3, 1) := by decide +kernel
theorem dX10_addSeason_27 : decode cX10_addSeason 27 = .ok (.iload_n 2, 1) := by decide +kernel
theorem dX10_addSeason_28 : decode cX10_addSeason 28 = .ok (.sipush 999, 3) := by decide +kernel
theorem dX10_addSeason_31 : decode cX10_addSeason 31 = .ok (.invokestatic 39, 3) := by decide +kernel
theorem dX10_addSeason_34 : decode cX10_addSeason 34 = .ok (.ifCond .eq 26, 3) := by decide +kernel
theorem dX10_addSeason_37 : decode cX10_addSeason 37 = .ok (.iload 4, 2) := by decide +kernel
theorem dX10_addSeason_39 : decode cX10_addSeason 39 = .ok (.iconst 1, 1) := by decide +kernel
theorem dX10_addSeason_40 : decode cX10_addSeason 40 = .ok (.bipush 14, 2) := by decide +kernel
theorem dX10_addSeason_42 : decode cX10_addSeason 42 = .ok (.invokestatic 39, 3) := by decide +kernel
theorem dX10_addSeason_45 : decode cX10_addSeason 45 = .ok (.ifCond .eq 15, 3) := by decide +kernel
theorem dX10_addSeason_48 : decode cX10_addSeason 48 = .ok (.iload 5, 2) := by decide +kernel
theorem dX10_addSeason_50 : decode cX10_addSeason 50 = .ok (.iconst 0, 1) := by decide +kernel
theorem dX10_addSeason_51 : decode cX10_addSeason 51 = .ok (.sipush 9999, 3) := by decide +kernel
theorem dX10_addSeason_54 : decode cX10_addSeason 54 = .ok (.invokestatic 39, 3) := by decide +kernel
theorem dX10_addSeason_57 : decode cX10_addSeason 57 = .ok (.ifCond .ne 9, 3) := by decide +kernel
theorem dX10_addSeason_60 : decode cX10_addSeason 60 = .ok (.aload_n 0, 1) := by decide +kernel
theorem dX10_addSeason_61 : decode cX10_addSeason 61 = .ok (.iconst 2, 1) := by decide +kernel
theorem dX10_addSeason_62 : decode cX10_addSeason 62 = .ok (.invokevirtual 43, 3) := by decide +kernel
theorem dX10_addSeason_65 : decode cX10_addSeason 65 = .ok (.ireturn, 1) := by decide +kernel
theorem dX10_addSeason_66 : decode cX10_addSeason 66 = .ok (.aload_n 0, 1) := by decide +kernel
theorem dX10_addSeason_67 : decode cX10_addSeason 67 = .ok (.getfield 7, 3) := by decide +kernel
theorem dX10_addSeason_70 : decode cX10_addSeason 70 = .ok (.iconst 3, 1) := by decide +kernel
theorem dX10_addSeason_71 : decode cX10_addSeason 71 = .ok (.iaload, 1) := by decide +kernel
theorem dX10_addSeason_72 : decode cX10_addSeason 72 = .ok (.bipush 12, 2) := by decide +kernel
theorem dX10_addSeason_74 : decode cX10_addSeason 74 = .ok (.if_icmp .ne 11, 3) := by decide +kernel
theorem dX10_addSeason_77 : decode cX10_addSeason 77 = .ok (.aload_n 0, 1) := by decide +kernel
theorem dX10_addSeason_78 : decode cX10_addSeason 78 = .ok (.iconst 3, 1) := by decide +kernel
theorem dX10_addSeason_79 : decode cX10_addSeason 79 = .ok (.invokevirtual 43, 3) := by decide +kernel
theorem dX10_addSeason_82 : decode cX10_addSeason 82 = .ok (.goto 14, 3) := by decide +kernel
theorem dX10_addSeason_85 : decode cX10_addSeason 85 = .ok (.aload_n 0, 1) := by decide +kernel
theorem dX10_addSeason_86 : decode cX10_addSeason 86 = .ok (.iload_n 1, 1) := by decide +kernel
theorem dX10_addSeason_87 : decode cX10_addSeason 87 = .ok (.iload_n 2, 1) := by decide +kernel
theorem dX10_addSeason_88 : decode cX10_addSeason 88 = .ok (.iload_n 3, 1) := by decide +kernel
theorem dX10_addSeason_89 : decode cX10_addSeason 89 = .ok (.iload 4, 2) := by decide +kernel
theorem dX10_addSeason_91 : decode cX10_addSeason 91 = .ok (.iload 5, 2) := by decide +kernel
theorem dX10_addSeason_93 : decode cX10_addSeason 93 = .ok (.invokevirtual 61, 3) := by decide +kernel
theorem dX10_addSeason_96 : decode cX10_addSeason 96 = .ok (.ireturn, 1) := by decide +kernel
theorem dX10_classCount_0 : decode cX10_classCount 0 = .ok (.aload_n 0, 1) := by decide +kernel
theorem dX10_classCount_1 : decode cX10_classCount 1 = .ok (.iconst 0, 1) := by decide +kernel
theorem dX10_classCount_2 : decode cX10_classCount 2 = .ok (.putfield 36, 3) := by decide +kernel
theorem dX10_classCount_5 : decode cX10_classCount 5 = .ok (.aload_n 0, 1) := by decide +kernel
theorem dX10_classCount_6 : decode cX10_classCount 6 = .ok (.getfield 7, 3) := by decide +kernel
theorem dX10_classCount_9 : decode cX10_classCount 9 = .ok (.iconst 1, 1) := by decide +kernel
theorem dX10_classCount_10 : decode cX10_classCount 10 = .ok (.iaload, 1) := by decide +kernel
theorem dX10_classCount_11 : decode cX10_classCount 11 = .ok (.ireturn, 1) := by decide +kernel
theorem dX10_siteCount_0 : decode cX10_siteCount 0 = .ok (.aload_n 0, 1) := by decide +kernel
theorem dX10_siteCount_1 : decode cX10_siteCount 1 = .ok (.iconst 0, 1) := by decide +kernel
theorem dX10_siteCount_2 : decode cX10_siteCount 2 = .ok (.putfield 36, 3) := by decide +kernel
theorem dX10_siteCount_5 : decode cX10_siteCount 5 = .ok (.aload_n 0, 1) := by decide +kernel
theorem dX10_siteCount_6 : decode cX10_siteCount 6 = .ok (.getfield 7, 3) := by decide +kernel
theorem dX10_siteCount_9 : decode cX10_siteCount 9 = .ok (.iconst 2, 1) := by decide +kernel
theorem dX10_siteCount_10 : decode cX10_siteCount 10 = .ok (.iaload, 1) := by decide +kernel
theorem dX10_siteCount_11 : decode cX10_siteCount 11 = .ok (.ireturn, 1) := by decide +kernel
theorem dX10_classOf_0 : decode cX10_classOf 0 = .ok (.aload_n 0, 1) := by decide +kernel
theorem dX10_classOf_1 : decode cX10_classOf 1 = .ok (.iconst 0, 1) := by decide +kernel
theorem dX10_classOf_2 : decode cX10_classOf 2 = .ok (.putfield 36, 3) := by decide +kernel
theorem dX10_classOf_5 : decode cX10_classOf 5 = .ok (.aload_n 0, 1) := by decide +kernel
theorem dX10_classOf_6 : decode cX10_classOf 6 = .ok (.iload_n 1, 1) := by decide +kernel
theorem dX10_classOf_7 : decode cX10_classOf 7 = .ok (.invokevirtual 65, 3) := by decide +kernel
theorem dX10_classOf_10 : decode cX10_classOf 10 = .ok (.ifCond .eq 12, 3) := by decide +kernel
theorem dX10_classOf_13 : decode cX10_classOf 13 = .ok (.aload_n 0, 1) := by decide +kernel
theorem dX10_classOf_14 : decode cX10_classOf 14 = .ok (.iload_n 1, 1) := by decide +kernel
theorem dX10_classOf_15 : decode cX10_classOf 15 = .ok (.iconst 0, 1) := by decide +kernel
theorem dX10_classOf_16 : decode cX10_classOf 16 = .ok (.invokevirtual 68, 3) := by decide +kernel
theorem dX10_classOf_19 : decode cX10_classOf 19 = .ok (.goto 8, 3) := by decide +kernel
theorem dX10_classOf_22 : decode cX10_classOf 22 = .ok (.aload_n 0, 1) := by decide +kernel
theorem dX10_classOf_23 : decode cX10_classOf 23 = .ok (.iconst 1, 1) := by decide +kernel
theorem dX10_classOf_24 : decode cX10_classOf 24 = .ok (.invokevirtual 43, 3) := by decide +kernel
theorem dX10_classOf_27 : decode cX10_classOf 27 = .ok (.ireturn, 1) := by decide +kernel
theorem dX10_seasonOf_0 : decode cX10_seasonOf 0 = .ok (.iconst (-1), 1) := by decide +kernel
theorem dX10_seasonOf_1 : decode cX10_seasonOf 1 = .ok (.istore_n 3, 1) := by decide +kernel
theorem dX10_seasonOf_2 : decode cX10_seasonOf 2 = .ok (.iconst 0, 1) := by decide +kernel
theorem dX10_seasonOf_3 : decode cX10_seasonOf 3 = .ok (.istore 4, 2) := by decide +kernel
theorem dX10_seasonOf_5 : decode cX10_seasonOf 5 = .ok (.iload 4, 2) := by decide +kernel
theorem dX10_seasonOf_7 : decode cX10_seasonOf 7 = .ok (.aload_n 0, 1) := by decide +kernel
theorem dX10_seasonOf_8 : decode cX10_seasonOf 8 = .ok (.getfield 7, 3) := by decide +kernel
theorem dX10_seasonOf_11 : decode cX10_seasonOf 11 = .ok (.iconst 3, 1) := by decide +kernel
theorem dX10_seasonOf_12 : decode cX10_seasonOf 12 = .ok (.iaload, 1) := by decide +kernel
theorem dX10_seasonOf_13 : decode cX10_seasonOf 13 = .ok (.if_icmp .ge 60, 3) := by decide +kernel
theorem dX10_seasonOf_16 : decode cX10_seasonOf 16 = .ok (.aload_n 0, 1) := by decide +kernel
theorem dX10_seasonOf_17 : decode cX10_seasonOf 17 = .ok (.iload 4, 2) := by decide +kernel
theorem dX10_seasonOf_19 : decode cX10_seasonOf 19 = .ok (.iconst 0, 1) := by decide +kernel
theorem dX10_seasonOf_20 : decode cX10_seasonOf 20 = .ok (.invokevirtual 72, 3) := by decide +kernel
theorem dX10_seasonOf_23 : decode cX10_seasonOf 23 = .ok (.iload_n 1, 1) := by decide +kernel
theorem dX10_seasonOf_24 : decode cX10_seasonOf 24 = .ok (.if_icmp .ne 28, 3) := by decide +kernel
theorem dX10_seasonOf_27 : decode cX10_seasonOf 27 = .ok (.iload_n 2, 1) := by decide +kernel
theorem dX10_seasonOf_28 : decode cX10_seasonOf 28 = .ok (.aload_n 0, 1) := by decide +kernel
theorem dX10_seasonOf_29 : decode cX10_seasonOf 29 = .ok (.iload 4, 2) := by decide +kernel
theorem dX10_seasonOf_31 : decode cX10_seasonOf 31 = .ok (.iconst 1, 1) := by decide +kernel
theorem dX10_seasonOf_32 : decode cX10_seasonOf 32 = .ok (.invokevirtual 72, 3) := by decide +kernel
theorem dX10_seasonOf_35 : decode cX10_seasonOf 35 = .ok (.aload_n 0, 1) := by decide +kernel
theorem dX10_seasonOf_36 : decode cX10_seasonOf 36 = .ok (.iload 4, 2) := by decide +kernel
theorem dX10_seasonOf_38 : decode cX10_seasonOf 38 = .ok (.iconst 2, 1) := by decide +kernel
theorem dX10_seasonOf_39 : decode cX10_seasonOf 39 = .ok (.invokevirtual 72, 3) := by decide +kernel
theorem dX10_seasonOf_42 : decode cX10_seasonOf 42 = .ok (.invokestatic 39, 3) := by decide +kernel
theorem dX10_seasonOf_45 : decode cX10_seasonOf 45 = .ok (.ifCond .eq 7, 3) := by decide +kernel
theorem dX10_seasonOf_48 : decode cX10_seasonOf 48 = .ok (.iconst 1, 1) := by decide +kernel
theorem dX10_seasonOf_49 : decode cX10_seasonOf 49 = .ok (.goto 4, 3) := by decide +kernel
theorem dX10_seasonOf_52 : decode cX10_seasonOf 52 = .ok (.iconst 0, 1) := by decide +kernel
theorem dX10_seasonOf_53 : decode cX10_seasonOf 53 = .ok (.istore 5, 2) := by decide +kernel
theorem dX10_seasonOf_55 : decode cX10_seasonOf 55 = .ok (.iload 5, 2) := by decide +kernel
theorem dX10_seasonOf_57 : decode cX10_seasonOf 57 = .ok (.ifCond .eq 8, 3) := by decide +kernel
theorem dX10_seasonOf_60 : decode cX10_seasonOf 60 = .ok (.iload 4, 2) := by decide +kernel
theorem dX10_seasonOf_62 : decode cX10_seasonOf 62 = .ok (.goto 4, 3) := by decide +kernel
theorem dX10_seasonOf_65 : decode cX10_seasonOf 65 = .ok (.iload_n 3, 1) := by decide +kernel
theorem dX10_seasonOf_66 : decode cX10_seasonOf 66 = .ok (.istore_n 3, 1) := by decide +kernel
theorem dX10_seasonOf_67 : decode cX10_seasonOf 67 = .ok (.iinc 4 1, 3) := by decide +kernel
theorem dX10_seasonOf_70 : decode cX10_seasonOf 70 = .ok (.goto (-65), 3) := by decide +kernel
theorem dX10_seasonOf_73 : decode cX10_seasonOf 73 = .ok (.iload_n 3, 1) := by decide +kernel
theorem dX10_seasonOf_74 : decode cX10_seasonOf 74 = .ok (.ireturn, 1) := by decide +kernel
theorem dX10_minimumOf_0 : decode cX10_minimumOf 0 = .ok (.aload_n 0, 1) := by decide +kernel
theorem dX10_minimumOf_1 : decode cX10_minimumOf 1 = .ok (.iload_n 1, 1) := by decide +kernel
theorem dX10_minimumOf_2 : decode cX10_minimumOf 2 = .ok (.iload_n 2, 1) := by decide +kernel
theorem dX10_minimumOf_3 : decode cX10_minimumOf 3 = .ok (.invokevirtual 75, 3) := by decide +kernel
theorem dX10_minimumOf_6 : decode cX10_minimumOf 6 = .ok (.istore_n 3, 1) := by decide +kernel
theorem dX10_minimumOf_7 : decode cX10_minimumOf 7 = .ok (.iload_n 3, 1) := by decide +kernel
theorem dX10_minimumOf_8 : decode cX10_minimumOf 8 = .ok (.iconst (-1), 1) := by decide +kernel
theorem dX10_minimumOf_9 : decode cX10_minimumOf 9 = .ok (.if_icmp .ne 7, 3) := by decide +kernel
theorem dX10_minimumOf_12 : decode cX10_minimumOf 12 = .ok (.iconst 1, 1) := by decide +kernel
theorem dX10_minimumOf_13 : decode cX10_minimumOf 13 = .ok (.goto 9, 3) := by decide +kernel
theorem dX10_minimumOf_16 : decode cX10_minimumOf 16 = .ok (.aload_n 0, 1) := by decide +kernel
theorem dX10_minimumOf_17 : decode cX10_minimumOf 17 = .ok (.iload_n 3, 1) := by decide +kernel
theorem dX10_minimumOf_18 : decode cX10_minimumOf 18 = .ok (.iconst 3, 1) := by decide +kernel
theorem dX10_minimumOf_19 : decode cX10_minimumOf 19 = .ok (.invokevirtual 72, 3) := by decide +kernel
theorem dX10_minimumOf_22 : decode cX10_minimumOf 22 = .ok (.ireturn, 1) := by decide +kernel
theorem dX10_priceOf_0 : decode cX10_priceOf 0 = .ok (.aload_n 0, 1) := by decide +kernel
theorem dX10_priceOf_1 : decode cX10_priceOf 1 = .ok (.iload_n 1, 1) := by decide +kernel
theorem dX10_priceOf_2 : decode cX10_priceOf 2 = .ok (.iload_n 2, 1) := by decide +kernel
theorem dX10_priceOf_3 : decode cX10_priceOf 3 = .ok (.invokevirtual 75, 3) := by decide +kernel
theorem dX10_priceOf_6 : decode cX10_priceOf 6 = .ok (.istore_n 3, 1) := by decide +kernel
theorem dX10_priceOf_7 : decode cX10_priceOf 7 = .ok (.iload_n 3, 1) := by decide +kernel
theorem dX10_priceOf_8 : decode cX10_priceOf 8 = .ok (.iconst (-1), 1) := by decide +kernel
theorem dX10_priceOf_9 : decode cX10_priceOf 9 = .ok (.if_icmp .ne 8, 3) := by decide +kernel
theorem dX10_priceOf_12 : decode cX10_priceOf 12 = .ok (.bipush 20, 2) := by decide +kernel
theorem dX10_priceOf_14 : decode cX10_priceOf 14 = .ok (.goto 9, 3) := by decide +kernel
theorem dX10_priceOf_17 : decode cX10_priceOf 17 = .ok (.aload_n 0, 1) := by decide +kernel
theorem dX10_priceOf_18 : decode cX10_priceOf 18 = .ok (.iload_n 3, 1) := by decide +kernel
theorem dX10_priceOf_19 : decode cX10_priceOf 19 = .ok (.iconst 4, 1) := by decide +kernel
theorem dX10_priceOf_20 : decode cX10_priceOf 20 = .ok (.invokevirtual 72, 3) := by decide +kernel
theorem dX10_priceOf_23 : decode cX10_priceOf 23 = .ok (.ireturn, 1) := by decide +kernel
theorem dX10_pricesOf_0 : decode cX10_pricesOf 0 = .ok (.iconst 0, 1) := by decide +kernel
theorem dX10_pricesOf_1 : decode cX10_pricesOf 1 = .ok (.istore 4, 2) := by decide +kernel
theorem dX10_pricesOf_3 : decode cX10_pricesOf 3 = .ok (.iload_n 2, 1) := by decide +kernel
theorem dX10_pricesOf_4 : decode cX10_pricesOf 4 = .ok (.istore 5, 2) := by decide +kernel
theorem dX10_pricesOf_6 : decode cX10_pricesOf 6 = .ok (.iload 5, 2) := by decide +kernel
theorem dX10_pricesOf_8 : decode cX10_pricesOf 8 = .ok (.iload_n 3, 1) := by decide +kernel
theorem dX10_pricesOf_9 : decode cX10_pricesOf 9 = .ok (.if_icmp .ge 21, 3) := by decide +kernel
theorem dX10_pricesOf_12 : decode cX10_pricesOf 12 = .ok (.iload 4, 2) := by decide +kernel
theorem dX10_pricesOf_14 : decode cX10_pricesOf 14 = .ok (.aload_n 0, 1) := by decide +kernel
theorem dX10_pricesOf_15 : decode cX10_pricesOf 15 = .ok (.iload_n 1, 1) := by decide +kernel
theorem dX10_pricesOf_16 : decode cX10_pricesOf 16 = .ok (.iload 5, 2) := by decide +kernel
theorem dX10_pricesOf_18 : decode cX10_pricesOf 18 = .ok (.invokevirtual 78, 3) := by decide +kernel
theorem dX10_pricesOf_21 : decode cX10_pricesOf 21 = .ok (.iadd, 1) := by decide +kernel
theorem dX10_pricesOf_22 : decode cX10_pricesOf 22 = .ok (.istore 4, 2) := by decide +kernel
theorem dX10_pricesOf_24 : decode cX10_pricesOf 24 = .ok (.iinc 5 1, 3) := by decide +kernel
theorem dX10_pricesOf_27 : decode cX10_pricesOf 27 = .ok (.goto (-21), 3) := by decide +kernel
theorem dX10_pricesOf_30 : decode cX10_pricesOf 30 = .ok (.iload 4, 2) := by decide +kernel
theorem dX10_pricesOf_32 : decode cX10_pricesOf 32 = .ok (.ireturn, 1) := by decide +kernel
theorem dX10_minimum_0 : decode cX10_minimum 0 = .ok (.aload_n 0, 1) := by decide +kernel
theorem dX10_minimum_1 : decode cX10_minimum 1 = .ok (.iconst 0, 1) := by decide +kernel
theorem dX10_minimum_2 : decode cX10_minimum 2 = .ok (.putfield 36, 3) := by decide +kernel
theorem dX10_minimum_5 : decode cX10_minimum 5 = .ok (.aload_n 0, 1) := by decide +kernel
theorem dX10_minimum_6 : decode cX10_minimum 6 = .ok (.iload_n 1, 1) := by decide +kernel
theorem dX10_minimum_7 : decode cX10_minimum 7 = .ok (.invokevirtual 51, 3) := by decide +kernel
theorem dX10_minimum_10 : decode cX10_minimum 10 = .ok (.ifCond .ne 9, 3) := by decide +kernel
theorem dX10_minimum_13 : decode cX10_minimum 13 = .ok (.aload_n 0, 1) := by decide +kernel
theorem dX10_minimum_14 : decode cX10_minimum 14 = .ok (.iconst 1, 1) := by decide +kernel
theorem dX10_minimum_15 : decode cX10_minimum 15 = .ok (.invokevirtual 43, 3) := by decide +kernel
theorem dX10_minimum_18 : decode cX10_minimum 18 = .ok (.ireturn, 1) := by decide +kernel
theorem dX10_minimum_19 : decode cX10_minimum 19 = .ok (.iload_n 2, 1) := by decide +kernel
theorem dX10_minimum_20 : decode cX10_minimum 20 = .ok (.invokestatic 58, 3) := by decide +kernel
theorem dX10_minimum_23 : decode cX10_minimum 23 = .ok (.ifCond .eq 12, 3) := by decide +kernel
theorem dX10_minimum_26 : decode cX10_minimum 26 = .ok (.aload_n 0, 1) := by decide +kernel
theorem dX10_minimum_27 : decode cX10_minimum 27 = .ok (.iload_n 1, 1) := by decide +kernel
theorem dX10_minimum_28 : decode cX10_minimum 28 = .ok (.iload_n 2, 1) := by decide +kernel
theorem dX10_minimum_29 : decode cX10_minimum 29 = .ok (.invokevirtual 81, 3) := by decide +kernel
theorem dX10_minimum_32 : decode cX10_minimum 32 = .ok (.goto 8, 3) := by decide +kernel
theorem dX10_minimum_35 : decode cX10_minimum 35 = .ok (.aload_n 0, 1) := by decide +kernel
theorem dX10_minimum_36 : decode cX10_minimum 36 = .ok (.iconst 2, 1) := by decide +kernel
theorem dX10_minimum_37 : decode cX10_minimum 37 = .ok (.invokevirtual 43, 3) := by decide +kernel
theorem dX10_minimum_40 : decode cX10_minimum 40 = .ok (.ireturn, 1) := by decide +kernel
theorem dX10_price_0 : decode cX10_price 0 = .ok (.aload_n 0, 1) := by decide +kernel
theorem dX10_price_1 : decode cX10_price 1 = .ok (.iconst 0, 1) := by decide +kernel
theorem dX10_price_2 : decode cX10_price 2 = .ok (.putfield 36, 3) := by decide +kernel
theorem dX10_price_5 : decode cX10_price 5 = .ok (.aload_n 0, 1) := by decide +kernel
theorem dX10_price_6 : decode cX10_price 6 = .ok (.iload_n 1, 1) := by decide +kernel
theorem dX10_price_7 : decode cX10_price 7 = .ok (.invokevirtual 51, 3) := by decide +kernel
theorem dX10_price_10 : decode cX10_price 10 = .ok (.ifCond .ne 9, 3) := by decide +kernel
theorem dX10_price_13 : decode cX10_price 13 = .ok (.aload_n 0, 1) := by decide +kernel
theorem dX10_price_14 : decode cX10_price 14 = .ok (.iconst 1, 1) := by decide +kernel
theorem dX10_price_15 : decode cX10_price 15 = .ok (.invokevirtual 43, 3) := by decide +kernel
theorem dX10_price_18 : decode cX10_price 18 = .ok (.ireturn, 1) := by decide +kernel
theorem dX10_price_19 : decode cX10_price 19 = .ok (.iload_n 2, 1) := by decide +kernel
theorem dX10_price_20 : decode cX10_price 20 = .ok (.invokestatic 58, 3) := by decide +kernel
theorem dX10_price_23 : decode cX10_price 23 = .ok (.ifCond .eq 12, 3) := by decide +kernel
theorem dX10_price_26 : decode cX10_price 26 = .ok (.aload_n 0, 1) := by decide +kernel
theorem dX10_price_27 : decode cX10_price 27 = .ok (.iload_n 1, 1) := by decide +kernel
theorem dX10_price_28 : decode cX10_price 28 = .ok (.iload_n 2, 1) := by decide +kernel
theorem dX10_price_29 : decode cX10_price 29 = .ok (.invokevirtual 78, 3) := by decide +kernel
theorem dX10_price_32 : decode cX10_price 32 = .ok (.goto 8, 3) := by decide +kernel
theorem dX10_price_35 : decode cX10_price 35 = .ok (.aload_n 0, 1) := by decide +kernel
theorem dX10_price_36 : decode cX10_price 36 = .ok (.iconst 2, 1) := by decide +kernel
theorem dX10_price_37 : decode cX10_price 37 = .ok (.invokevirtual 43, 3) := by decide +kernel
theorem dX10_price_40 : decode cX10_price 40 = .ok (.ireturn, 1) := by decide +kernel
theorem dX10_isNight_0 : decode cX10_isNight 0 = .ok (.iload_n 1, 1) := by decide +kernel
theorem dX10_isNight_1 : decode cX10_isNight 1 = .ok (.aload_n 0, 1) := by decide +kernel
theorem dX10_isNight_2 : decode cX10_isNight 2 = .ok (.getfield 7, 3) := by decide +kernel
theorem dX10_isNight_5 : decode cX10_isNight 5 = .ok (.iconst 0, 1) := by decide +kernel
theorem dX10_isNight_6 : decode cX10_isNight 6 = .ok (.iaload, 1) := by decide +kernel
theorem dX10_isNight_7 : decode cX10_isNight 7 = .ok (.sipush 998, 3) := by decide +kernel
theorem dX10_isNight_10 : decode cX10_isNight 10 = .ok (.invokestatic 39, 3) := by decide +kernel
theorem dX10_isNight_13 : decode cX10_isNight 13 = .ok (.ireturn, 1) := by decide +kernel
theorem dX10_isOpenOn_0 : decode cX10_isOpenOn 0 = .ok (.aload_n 0, 1) := by decide +kernel
theorem dX10_isOpenOn_1 : decode cX10_isOpenOn 1 = .ok (.iload_n 1, 1) := by decide +kernel
theorem dX10_isOpenOn_2 : decode cX10_isOpenOn 2 = .ok (.iconst 1, 1) := by decide +kernel
theorem dX10_isOpenOn_3 : decode cX10_isOpenOn 3 = .ok (.invokevirtual 68, 3) := by decide +kernel
theorem dX10_isOpenOn_6 : decode cX10_isOpenOn 6 = .ok (.iload_n 2, 1) := by decide +kernel
theorem dX10_isOpenOn_7 : decode cX10_isOpenOn 7 = .ok (.if_icmp .gt 7, 3) := by decide +kernel
theorem dX10_isOpenOn_10 : decode cX10_isOpenOn 10 = .ok (.iconst 1, 1) := by decide +kernel
theorem dX10_isOpenOn_11 : decode cX10_isOpenOn 11 = .ok (.goto 4, 3) := by decide +kernel
theorem dX10_isOpenOn_14 : decode cX10_isOpenOn 14 = .ok (.iconst 0, 1) := by decide +kernel
theorem dX10_isOpenOn_15 : decode cX10_isOpenOn 15 = .ok (.ireturn, 1) := by decide +kernel
theorem dX10_capacityOf_0 : decode cX10_capacityOf 0 = .ok (.iconst 0, 1) := by decide +kernel
theorem dX10_capacityOf_1 : decode cX10_capacityOf 1 = .ok (.istore_n 3, 1) := by decide +kernel
theorem dX10_capacityOf_2 : decode cX10_capacityOf 2 = .ok (.iconst 0, 1) := by decide +kernel
theorem dX10_capacityOf_3 : decode cX10_capacityOf 3 = .ok (.istore 4, 2) := by decide +kernel
theorem dX10_capacityOf_5 : decode cX10_capacityOf 5 = .ok (.iload 4, 2) := by decide +kernel
theorem dX10_capacityOf_7 : decode cX10_capacityOf 7 = .ok (.aload_n 0, 1) := by decide +kernel
theorem dX10_capacityOf_8 : decode cX10_capacityOf 8 = .ok (.getfield 7, 3) := by decide +kernel
theorem dX10_capacityOf_11 : decode cX10_capacityOf 11 = .ok (.iconst 2, 1) := by decide +kernel
theorem dX10_capacityOf_12 : decode cX10_capacityOf 12 = .ok (.iaload, 1) := by decide +kernel
theorem dX10_capacityOf_13 : decode cX10_capacityOf 13 = .ok (.if_icmp .ge 38, 3) := by decide +kernel
theorem dX10_capacityOf_16 : decode cX10_capacityOf 16 = .ok (.iload_n 3, 1) := by decide +kernel
theorem dX10_capacityOf_17 : decode cX10_capacityOf 17 = .ok (.aload_n 0, 1) := by decide +kernel
theorem dX10_capacityOf_18 : decode cX10_capacityOf 18 = .ok (.iload 4, 2) := by decide +kernel
theorem dX10_capacityOf_20 : decode cX10_capacityOf 20 = .ok (.iconst 0, 1) := by decide +kernel
theorem dX10_capacityOf_21 : decode cX10_capacityOf 21 = .ok (.invokevirtual 68, 3) := by decide +kernel
theorem dX10_capacityOf_24 : decode cX10_capacityOf 24 = .ok (.iload_n 1, 1) := by decide +kernel
theorem dX10_capacityOf_25 : decode cX10_capacityOf 25 = .ok (.if_icmp .ne 17, 3) := by decide +kernel
theorem dX10_capacityOf_28 : decode cX10_capacityOf 28 = .ok (.aload_n 0, 1) := by decide +kernel
theorem dX10_capacityOf_29 : decode cX10_capacityOf 29 = .ok (.iload 4, 2) := by decide +kernel
theorem dX10_capacityOf_31 : decode cX10_capacityOf 31 = .ok (.iload_n 2, 1) := by decide +kernel
theorem dX10_capacityOf_32 : decode cX10_capacityOf 32 = .ok (.invokevirtual 84, 3) := by decide +kernel
theorem dX10_capacityOf_35 : decode cX10_capacityOf 35 = .ok (.ifCond .eq 7, 3) := by decide +kernel
theorem dX10_capacityOf_38 : decode cX10_capacityOf 38 = .ok (.iconst 1, 1) := by decide +kernel
theorem dX10_capacityOf_39 : decode cX10_capacityOf 39 = .ok (.goto 4, 3) := by decide +kernel
theorem dX10_capacityOf_42 : decode cX10_capacityOf 42 = .ok (.iconst 0, 1) := by decide +kernel
theorem dX10_capacityOf_43 : decode cX10_capacityOf 43 = .ok (.iadd, 1) := by decide +kernel
theorem dX10_capacityOf_44 : decode cX10_capacityOf 44 = .ok (.istore_n 3, 1) := by decide +kernel
theorem dX10_capacityOf_45 : decode cX10_capacityOf 45 = .ok (.iinc 4 1, 3) := by decide +kernel
theorem dX10_capacityOf_48 : decode cX10_capacityOf 48 = .ok (.goto (-43), 3) := by decide +kernel
theorem dX10_capacityOf_51 : decode cX10_capacityOf 51 = .ok (.aload_n 0, 1) := by decide +kernel
theorem dX10_capacityOf_52 : decode cX10_capacityOf 52 = .ok (.iload_n 2, 1) := by decide +kernel
theorem dX10_capacityOf_53 : decode cX10_capacityOf 53 = .ok (.invokevirtual 88, 3) := by decide +kernel
theorem dX10_capacityOf_56 : decode cX10_capacityOf 56 = .ok (.ifCond .eq 7, 3) := by decide +kernel
theorem dX10_capacityOf_59 : decode cX10_capacityOf 59 = .ok (.iload_n 3, 1) := by decide +kernel
theorem dX10_capacityOf_60 : decode cX10_capacityOf 60 = .ok (.goto 4, 3) := by decide +kernel
theorem dX10_capacityOf_63 : decode cX10_capacityOf 63 = .ok (.iconst 0, 1) := by decide +kernel
theorem dX10_capacityOf_64 : decode cX10_capacityOf 64 = .ok (.ireturn, 1) := by decide +kernel
theorem dX10_releasedOf_0 : decode cX10_releasedOf 0 = .ok (.aload_n 0, 1) := by decide +kernel
theorem dX10_releasedOf_1 : decode cX10_releasedOf 1 = .ok (.iload_n 2, 1) := by decide +kernel
theorem dX10_releasedOf_2 : decode cX10_releasedOf 2 = .ok (.invokevirtual 88, 3) := by decide +kernel
theorem dX10_releasedOf_5 : decode cX10_releasedOf 5 = .ok (.ifCond .eq 20, 3) := by decide +kernel
theorem dX10_releasedOf_8 : decode cX10_releasedOf 8 = .ok (.iload_n 2, 1) := by decide +kernel
theorem dX10_releasedOf_9 : decode cX10_releasedOf 9 = .ok (.aload_n 0, 1) := by decide +kernel
theorem dX10_releasedOf_10 : decode cX10_releasedOf 10 = .ok (.getfield 7, 3) := by decide +kernel
theorem dX10_releasedOf_13 : decode cX10_releasedOf 13 = .ok (.iconst 0, 1) := by decide +kernel
theorem dX10_releasedOf_14 : decode cX10_releasedOf 14 = .ok (.iaload, 1) := by decide +kernel
theorem dX10_releasedOf_15 : decode cX10_releasedOf 15 = .ok (.isub, 1) := by decide +kernel
theorem dX10_releasedOf_16 : decode cX10_releasedOf 16 = .ok (.aload_n 0, 1) := by decide +kernel
theorem dX10_releasedOf_17 : decode cX10_releasedOf 17 = .ok (.iload_n 1, 1) := by decide +kernel
theorem dX10_releasedOf_18 : decode cX10_releasedOf 18 = .ok (.iconst 0, 1) := by decide +kernel
theorem dX10_releasedOf_19 : decode cX10_releasedOf 19 = .ok (.invokevirtual 91, 3) := by decide +kernel
theorem dX10_releasedOf_22 : decode cX10_releasedOf 22 = .ok (.if_icmp .le 5, 3) := by decide +kernel
theorem dX10_releasedOf_25 : decode cX10_releasedOf 25 = .ok (.iconst 0, 1) := by decide +kernel
theorem dX10_releasedOf_26 : decode cX10_releasedOf 26 = .ok (.ireturn, 1) := by decide +kernel
theorem dX10_releasedOf_27 : decode cX10_releasedOf 27 = .ok (.aload_n 0, 1) := by decide +kernel
theorem dX10_releasedOf_28 : decode cX10_releasedOf 28 = .ok (.iload_n 1, 1) := by decide +kernel
theorem dX10_releasedOf_29 : decode cX10_releasedOf 29 = .ok (.iload_n 2, 1) := by decide +kernel
theorem dX10_releasedOf_30 : decode cX10_releasedOf 30 = .ok (.invokevirtual 94, 3) := by decide +kernel
theorem dX10_releasedOf_33 : decode cX10_releasedOf 33 = .ok (.istore_n 3, 1) := by decide +kernel
theorem dX10_releasedOf_34 : decode cX10_releasedOf 34 = .ok (.iload_n 2, 1) := by decide +kernel
theorem dX10_releasedOf_35 : decode cX10_releasedOf 35 = .ok (.aload_n 0, 1) := by decide +kernel
theorem dX10_releasedOf_36 : decode cX10_releasedOf 36 = .ok (.getfield 7, 3) := by decide +kernel
theorem dX10_releasedOf_39 : decode cX10_releasedOf 39 = .ok (.iconst 0, 1) := by decide +kernel
theorem dX10_releasedOf_40 : decode cX10_releasedOf 40 = .ok (.iaload, 1) := by decide +kernel
theorem dX10_releasedOf_41 : decode cX10_releasedOf 41 = .ok (.isub, 1) := by decide +kernel
theorem dX10_releasedOf_42 : decode cX10_releasedOf 42 = .ok (.aload_n 0, 1) := by decide +kernel
theorem dX10_releasedOf_43 : decode cX10_releasedOf 43 = .ok (.iload_n 1, 1) := by decide +kernel
theorem dX10_releasedOf_44 : decode cX10_releasedOf 44 = .ok (.iconst 1, 1) := by decide +kernel
theorem dX10_releasedOf_45 : decode cX10_releasedOf 45 = .ok (.invokevirtual 91, 3) := by decide +kernel
theorem dX10_releasedOf_48 : decode cX10_releasedOf 48 = .ok (.if_icmp .gt 7, 3) := by decide +kernel
theorem dX10_releasedOf_51 : decode cX10_releasedOf 51 = .ok (.iload_n 3, 1) := by decide +kernel
theorem dX10_releasedOf_52 : decode cX10_releasedOf 52 = .ok (.goto 13, 3) := by decide +kernel
theorem dX10_releasedOf_55 : decode cX10_releasedOf 55 = .ok (.iload_n 3, 1) := by decide +kernel
theorem dX10_releasedOf_56 : decode cX10_releasedOf 56 = .ok (.aload_n 0, 1) := by decide +kernel
theorem dX10_releasedOf_57 : decode cX10_releasedOf 57 = .ok (.iload_n 1, 1) := by decide +kernel
theorem dX10_releasedOf_58 : decode cX10_releasedOf 58 = .ok (.iconst 2, 1) := by decide +kernel
theorem dX10_releasedOf_59 : decode cX10_releasedOf 59 = .ok (.invokevirtual 91, 3) := by decide +kernel
theorem dX10_releasedOf_62 : decode cX10_releasedOf 62 = .ok (.invokestatic 97, 3) := by decide +kernel
theorem dX10_releasedOf_65 : decode cX10_releasedOf 65 = .ok (.ireturn, 1) := by decide +kernel
theorem dX10_isActive_0 : decode cX10_isActive 0 = .ok (.aload_n 0, 1) := by decide +kernel
theorem dX10_isActive_1 : decode cX10_isActive 1 = .ok (.iload_n 1, 1) := by decide +kernel
theorem dX10_isActive_2 : decode cX10_isActive 2 = .ok (.iconst 4, 1) := by decide +kernel
theorem dX10_isActive_3 : decode cX10_isActive 3 = .ok (.invokevirtual 102, 3) := by decide +kernel
theorem dX10_isActive_6 : decode cX10_isActive 6 = .ok (.ifCond .eq 13, 3) := by decide +kernel
theorem dX10_isActive_9 : decode cX10_isActive 9 = .ok (.aload_n 0, 1) := by decide +kernel
theorem dX10_isActive_10 : decode cX10_isActive 10 = .ok (.iload_n 1, 1) := by decide +kernel
theorem dX10_isActive_11 : decode cX10_isActive 11 = .ok (.iconst 4, 1) := by decide +kernel
theorem dX10_isActive_12 : decode cX10_isActive 12 = .ok (.invokevirtual 102, 3) := by decide +kernel
theorem dX10_isActive_15 : decode cX10_isActive 15 = .ok (.iconst 1, 1) := by decide +kernel
theorem dX10_isActive_16 : decode cX10_isActive 16 = .ok (.if_icmp .ne 7, 3) := by decide +kernel
theorem dX10_isActive_19 : decode cX10_isActive 19 = .ok (.iconst 1, 1) := by decide +kernel
theorem dX10_isActive_20 : decode cX10_isActive 20 = .ok (.goto 4, 3) := by decide +kernel
theorem dX10_isActive_23 : decode cX10_isActive 23 = .ok (.iconst 0, 1) := by decide +kernel
theorem dX10_isActive_24 : decode cX10_isActive 24 = .ok (.ireturn, 1) := by decide +kernel
theorem dX10_takenOf_0 : decode cX10_takenOf 0 = .ok (.iconst 0, 1) := by decide +kernel
theorem dX10_takenOf_1 : decode cX10_takenOf 1 = .ok (.istore_n 3, 1) := by decide +kernel
theorem dX10_takenOf_2 : decode cX10_takenOf 2 = .ok (.iconst 0, 1) := by decide +kernel
theorem dX10_takenOf_3 : decode cX10_takenOf 3 = .ok (.istore 4, 2) := by decide +kernel
theorem dX10_takenOf_5 : decode cX10_takenOf 5 = .ok (.iload 4, 2) := by decide +kernel
theorem dX10_takenOf_7 : decode cX10_takenOf 7 = .ok (.aload_n 0, 1) := by decide +kernel
theorem dX10_takenOf_8 : decode cX10_takenOf 8 = .ok (.getfield 7, 3) := by decide +kernel
theorem dX10_takenOf_11 : decode cX10_takenOf 11 = .ok (.iconst 4, 1) := by decide +kernel
theorem dX10_takenOf_12 : decode cX10_takenOf 12 = .ok (.iaload, 1) := by decide +kernel
theorem dX10_takenOf_13 : decode cX10_takenOf 13 = .ok (.if_icmp .ge 71, 3) := by decide +kernel
theorem dX10_takenOf_16 : decode cX10_takenOf 16 = .ok (.aload_n 0, 1) := by decide +kernel
theorem dX10_takenOf_17 : decode cX10_takenOf 17 = .ok (.iload 4, 2) := by decide +kernel
theorem dX10_takenOf_19 : decode cX10_takenOf 19 = .ok (.iconst 1, 1) := by decide +kernel
theorem dX10_takenOf_20 : decode cX10_takenOf 20 = .ok (.invokevirtual 102, 3) := by decide +kernel
theorem dX10_takenOf_23 : decode cX10_takenOf 23 = .ok (.iload_n 2, 1) := by decide +kernel
theorem dX10_takenOf_24 : decode cX10_takenOf 24 = .ok (.if_icmp .gt 18, 3) := by decide +kernel
theorem dX10_takenOf_27 : decode cX10_takenOf 27 = .ok (.iload_n 2, 1) := by decide +kernel
theorem dX10_takenOf_28 : decode cX10_takenOf 28 = .ok (.aload_n 0, 1) := by decide +kernel
theorem dX10_takenOf_29 : decode cX10_takenOf 29 = .ok (.iload 4, 2) := by decide +kernel
theorem dX10_takenOf_31 : decode cX10_takenOf 31 = .ok (.iconst 2, 1) := by decide +kernel
theorem dX10_takenOf_32 : decode cX10_takenOf 32 = .ok (.invokevirtual 102, 3) := by decide +kernel
theorem dX10_takenOf_35 : decode cX10_takenOf 35 = .ok (.if_icmp .ge 7, 3) := by decide +kernel
theorem dX10_takenOf_38 : decode cX10_takenOf 38 = .ok (.iconst 1, 1) := by decide +kernel
theorem dX10_takenOf_39 : decode cX10_takenOf 39 = .ok (.goto 4, 3) := by decide +kernel
theorem dX10_takenOf_42 : decode cX10_takenOf 42 = .ok (.iconst 0, 1) := by decide +kernel
theorem dX10_takenOf_43 : decode cX10_takenOf 43 = .ok (.istore 5, 2) := by decide +kernel
theorem dX10_takenOf_45 : decode cX10_takenOf 45 = .ok (.iload_n 3, 1) := by decide +kernel
theorem dX10_takenOf_46 : decode cX10_takenOf 46 = .ok (.iload 5, 2) := by decide +kernel
theorem dX10_takenOf_48 : decode cX10_takenOf 48 = .ok (.ifCond .eq 27, 3) := by decide +kernel
theorem dX10_takenOf_51 : decode cX10_takenOf 51 = .ok (.aload_n 0, 1) := by decide +kernel
theorem dX10_takenOf_52 : decode cX10_takenOf 52 = .ok (.iload 4, 2) := by decide +kernel
theorem dX10_takenOf_54 : decode cX10_takenOf 54 = .ok (.invokevirtual 105, 3) := by decide +kernel
theorem dX10_takenOf_57 : decode cX10_takenOf 57 = .ok (.ifCond .eq 18, 3) := by decide +kernel
theorem dX10_takenOf_60 : decode cX10_takenOf 60 = .ok (.aload_n 0, 1) := by decide +kernel
theorem dX10_takenOf_61 : decode cX10_takenOf 61 = .ok (.iload 4, 2) := by decide +kernel
theorem dX10_takenOf_63 : decode cX10_takenOf 63 = .ok (.iconst 0, 1) := by decide +kernel
theorem dX10_takenOf_64 : decode cX10_takenOf 64 = .ok (.invokevirtual 102, 3) := by decide +kernel
theorem dX10_takenOf_67 : decode cX10_takenOf 67 = .ok (.iload_n 1, 1) := by decide +kernel
theorem dX10_takenOf_68 : decode cX10_takenOf 68 = .ok (.if_icmp .ne 7, 3) := by decide +kernel
theorem dX10_takenOf_71 : decode cX10_takenOf 71 = .ok (.iconst 1, 1) := by decide +kernel
theorem dX10_takenOf_72 : decode cX10_takenOf 72 = .ok (.goto 4, 3) := by decide +kernel
theorem dX10_takenOf_75 : decode cX10_takenOf 75 = .ok (.iconst 0, 1) := by decide +kernel
theorem dX10_takenOf_76 : decode cX10_takenOf 76 = .ok (.iadd, 1) := by decide +kernel
theorem dX10_takenOf_77 : decode cX10_takenOf 77 = .ok (.istore_n 3, 1) := by decide +kernel
theorem dX10_takenOf_78 : decode cX10_takenOf 78 = .ok (.iinc 4 1, 3) := by decide +kernel
theorem dX10_takenOf_81 : decode cX10_takenOf 81 = .ok (.goto (-76), 3) := by decide +kernel
theorem dX10_takenOf_84 : decode cX10_takenOf 84 = .ok (.iload_n 3, 1) := by decide +kernel
theorem dX10_takenOf_85 : decode cX10_takenOf 85 = .ok (.ireturn, 1) := by decide +kernel
theorem dX10_availableOf_0 : decode cX10_availableOf 0 = .ok (.iconst 0, 1) := by decide +kernel
theorem dX10_availableOf_1 : decode cX10_availableOf 1 = .ok (.aload_n 0, 1) := by decide +kernel
theorem dX10_availableOf_2 : decode cX10_availableOf 2 = .ok (.iload_n 1, 1) := by decide +kernel
theorem dX10_availableOf_3 : decode cX10_availableOf 3 = .ok (.iload_n 2, 1) := by decide +kernel
theorem dX10_availableOf_4 : decode cX10_availableOf 4 = .ok (.invokevirtual 108, 3) := by decide +kernel
theorem dX10_availableOf_7 : decode cX10_availableOf 7 = .ok (.aload_n 0, 1) := by decide +kernel
theorem dX10_availableOf_8 : decode cX10_availableOf 8 = .ok (.iload_n 1, 1) := by decide +kernel
theorem dX10_availableOf_9 : decode cX10_availableOf 9 = .ok (.iload_n 2, 1) := by decide +kernel
theorem dX10_availableOf_10 : decode cX10_availableOf 10 = .ok (.invokevirtual 111, 3) := by decide +kernel
theorem dX10_availableOf_13 : decode cX10_availableOf 13 = .ok (.isub, 1) := by decide +kernel
theorem dX10_availableOf_14 : decode cX10_availableOf 14 = .ok (.invokestatic 114, 3) := by decide +kernel
theorem dX10_availableOf_17 : decode cX10_availableOf 17 = .ok (.ireturn, 1) := by decide +kernel
theorem dX10_capacity_0 : decode cX10_capacity 0 = .ok (.aload_n 0, 1) := by decide +kernel
theorem dX10_capacity_1 : decode cX10_capacity 1 = .ok (.iconst 0, 1) := by decide +kernel
theorem dX10_capacity_2 : decode cX10_capacity 2 = .ok (.putfield 36, 3) := by decide +kernel
theorem dX10_capacity_5 : decode cX10_capacity 5 = .ok (.aload_n 0, 1) := by decide +kernel
theorem dX10_capacity_6 : decode cX10_capacity 6 = .ok (.iload_n 1, 1) := by decide +kernel
theorem dX10_capacity_7 : decode cX10_capacity 7 = .ok (.invokevirtual 51, 3) := by decide +kernel
theorem dX10_capacity_10 : decode cX10_capacity 10 = .ok (.ifCond .eq 12, 3) := by decide +kernel
theorem dX10_capacity_13 : decode cX10_capacity 13 = .ok (.aload_n 0, 1) := by decide +kernel
theorem dX10_capacity_14 : decode cX10_capacity 14 = .ok (.iload_n 1, 1) := by decide +kernel
theorem dX10_capacity_15 : decode cX10_capacity 15 = .ok (.iload_n 2, 1) := by decide +kernel
theorem dX10_capacity_16 : decode cX10_capacity 16 = .ok (.invokevirtual 94, 3) := by decide +kernel
theorem dX10_capacity_19 : decode cX10_capacity 19 = .ok (.goto 8, 3) := by decide +kernel
theorem dX10_capacity_22 : decode cX10_capacity 22 = .ok (.aload_n 0, 1) := by decide +kernel
theorem dX10_capacity_23 : decode cX10_capacity 23 = .ok (.iconst 1, 1) := by decide +kernel
theorem dX10_capacity_24 : decode cX10_capacity 24 = .ok (.invokevirtual 43, 3) := by decide +kernel
theorem dX10_capacity_27 : decode cX10_capacity 27 = .ok (.ireturn, 1) := by decide +kernel
theorem dX10_released_0 : decode cX10_released 0 = .ok (.aload_n 0, 1) := by decide +kernel
theorem dX10_released_1 : decode cX10_released 1 = .ok (.iconst 0, 1) := by decide +kernel
theorem dX10_released_2 : decode cX10_released 2 = .ok (.putfield 36, 3) := by decide +kernel
theorem dX10_released_5 : decode cX10_released 5 = .ok (.aload_n 0, 1) := by decide +kernel
theorem dX10_released_6 : decode cX10_released 6 = .ok (.iload_n 1, 1) := by decide +kernel
theorem dX10_released_7 : decode cX10_released 7 = .ok (.invokevirtual 51, 3) := by decide +kernel
theorem dX10_released_10 : decode cX10_released 10 = .ok (.ifCond .eq 12, 3) := by decide +kernel
theorem dX10_released_13 : decode cX10_released 13 = .ok (.aload_n 0, 1) := by decide +kernel
theorem dX10_released_14 : decode cX10_released 14 = .ok (.iload_n 1, 1) := by decide +kernel
theorem dX10_released_15 : decode cX10_released 15 = .ok (.iload_n 2, 1) := by decide +kernel
theorem dX10_released_16 : decode cX10_released 16 = .ok (.invokevirtual 108, 3) := by decide +kernel
theorem dX10_released_19 : decode cX10_released 19 = .ok (.goto 8, 3) := by decide +kernel
theorem dX10_released_22 : decode cX10_released 22 = .ok (.aload_n 0, 1) := by decide +kernel
theorem dX10_released_23 : decode cX10_released 23 = .ok (.iconst 1, 1) := by decide +kernel
theorem dX10_released_24 : decode cX10_released 24 = .ok (.invokevirtual 43, 3) := by decide +kernel
theorem dX10_released_27 : decode cX10_released 27 = .ok (.ireturn, 1) := by decide +kernel
theorem dX10_taken_0 : decode cX10_taken 0 = .ok (.aload_n 0, 1) := by decide +kernel
theorem dX10_taken_1 : decode cX10_taken 1 = .ok (.iconst 0, 1) := by decide +kernel
theorem dX10_taken_2 : decode cX10_taken 2 = .ok (.putfield 36, 3) := by decide +kernel
theorem dX10_taken_5 : decode cX10_taken 5 = .ok (.aload_n 0, 1) := by decide +kernel
theorem dX10_taken_6 : decode cX10_taken 6 = .ok (.iload_n 1, 1) := by decide +kernel
theorem dX10_taken_7 : decode cX10_taken 7 = .ok (.invokevirtual 51, 3) := by decide +kernel
theorem dX10_taken_10 : decode cX10_taken 10 = .ok (.ifCond .eq 12, 3) := by decide +kernel
theorem dX10_taken_13 : decode cX10_taken 13 = .ok (.aload_n 0, 1) := by decide +kernel
theorem dX10_taken_14 : decode cX10_taken 14 = .ok (.iload_n 1, 1) := by decide +kernel
theorem dX10_taken_15 : decode cX10_taken 15 = .ok (.iload_n 2, 1) := by decide +kernel
theorem dX10_taken_16 : decode cX10_taken 16 = .ok (.invokevirtual 111, 3) := by decide +kernel
theorem dX10_taken_19 : decode cX10_taken 19 = .ok (.goto 8, 3) := by decide +kernel
theorem dX10_taken_22 : decode cX10_taken 22 = .ok (.aload_n 0, 1) := by decide +kernel
theorem dX10_taken_23 : decode cX10_taken 23 = .ok (.iconst 1, 1) := by decide +kernel
theorem dX10_taken_24 : decode cX10_taken 24 = .ok (.invokevirtual 43, 3) := by decide +kernel
theorem dX10_taken_27 : decode cX10_taken 27 = .ok (.ireturn, 1) := by decide +kernel
theorem dX10_available_0 : decode cX10_available 0 = .ok (.aload_n 0, 1) := by decide +kernel
theorem dX10_available_1 : decode cX10_available 1 = .ok (.iconst 0, 1) := by decide +kernel
theorem dX10_available_2 : decode cX10_available 2 = .ok (.putfield 36, 3) := by decide +kernel
theorem dX10_available_5 : decode cX10_available 5 = .ok (.aload_n 0, 1) := by decide +kernel
theorem dX10_available_6 : decode cX10_available 6 = .ok (.iload_n 1, 1) := by decide +kernel
theorem dX10_available_7 : decode cX10_available 7 = .ok (.invokevirtual 51, 3) := by decide +kernel
theorem dX10_available_10 : decode cX10_available 10 = .ok (.ifCond .eq 12, 3) := by decide +kernel
theorem dX10_available_13 : decode cX10_available 13 = .ok (.aload_n 0, 1) := by decide +kernel
theorem dX10_available_14 : decode cX10_available 14 = .ok (.iload_n 1, 1) := by decide +kernel
theorem dX10_available_15 : decode cX10_available 15 = .ok (.iload_n 2, 1) := by decide +kernel
theorem dX10_available_16 : decode cX10_available 16 = .ok (.invokevirtual 117, 3) := by decide +kernel
theorem dX10_available_19 : decode cX10_available 19 = .ok (.goto 8, 3) := by decide +kernel
theorem dX10_available_22 : decode cX10_available 22 = .ok (.aload_n 0, 1) := by decide +kernel
theorem dX10_available_23 : decode cX10_available 23 = .ok (.iconst 1, 1) := by decide +kernel
theorem dX10_available_24 : decode cX10_available 24 = .ok (.invokevirtual 43, 3) := by decide +kernel
theorem dX10_available_27 : decode cX10_available 27 = .ok (.ireturn, 1) := by decide +kernel
theorem dX10_nightsObstacle_0 : decode cX10_nightsObstacle 0 = .ok (.iload_n 2, 1) := by decide +kernel
theorem dX10_nightsObstacle_1 : decode cX10_nightsObstacle 1 = .ok (.i2l, 1) := by decide +kernel
theorem dX10_nightsObstacle_2 : decode cX10_nightsObstacle 2 = .ok (.iload_n 3, 1) := by decide +kernel
theorem dX10_nightsObstacle_3 : decode cX10_nightsObstacle 3 = .ok (.i2l, 1) := by decide +kernel
theorem dX10_nightsObstacle_4 : decode cX10_nightsObstacle 4 = .ok (.ladd, 1) := by decide +kernel
theorem dX10_nightsObstacle_5 : decode cX10_nightsObstacle 5 = .ok (.lconst 1, 1) := by decide +kernel
theorem dX10_nightsObstacle_6 : decode cX10_nightsObstacle 6 = .ok (.lsub, 1) := by decide +kernel
theorem dX10_nightsObstacle_7 : decode cX10_nightsObstacle 7 = .ok (.lstore 4, 2) := by decide +kernel
theorem dX10_nightsObstacle_9 : decode cX10_nightsObstacle 9 = .ok (.iload_n 2, 1) := by decide +kernel
theorem dX10_nightsObstacle_10 : decode cX10_nightsObstacle 10 = .ok (.aload_n 0, 1) := by decide +kernel
theorem dX10_nightsObstacle_11 : decode cX10_nightsObstacle 11 = .ok (.getfield 7, 3) := by decide +kernel
theorem dX10_nightsObstacle_14 : decode cX10_nightsObstacle 14 = .ok (.iconst 0, 1) := by decide +kernel
theorem dX10_nightsObstacle_15 : decode cX10_nightsObstacle 15 = .ok (.iaload, 1) := by decide +kernel
theorem dX10_nightsObstacle_16 : decode cX10_nightsObstacle 16 = .ok (.if_icmp .lt 33, 3) := by decide +kernel
theorem dX10_nightsObstacle_19 : decode cX10_nightsObstacle 19 = .ok (.lload 4, 2) := by decide +kernel
theorem dX10_nightsObstacle_21 : decode cX10_nightsObstacle 21 = .ok (.ldc2_w 120, 3) := by decide +kernel
theorem dX10_nightsObstacle_24 : decode cX10_nightsObstacle 24 = .ok (.lcmp, 1) := by decide +kernel
theorem dX10_nightsObstacle_25 : decode cX10_nightsObstacle 25 = .ok (.ifCond .gt 24, 3) := by decide +kernel
theorem dX10_nightsObstacle_28 : decode cX10_nightsObstacle 28 = .ok (.lload 4, 2) := by decide +kernel
theorem dX10_nightsObstacle_30 : decode cX10_nightsObstacle 30 = .ok (.aload_n 0, 1) := by decide +kernel
theorem dX10_nightsObstacle_31 : decode cX10_nightsObstacle 31 = .ok (.getfield 7, 3) := by decide +kernel
theorem dX10_nightsObstacle_34 : decode cX10_nightsObstacle 34 = .ok (.iconst 0, 1) := by decide +kernel
theorem dX10_nightsObstacle_35 : decode cX10_nightsObstacle 35 = .ok (.iaload, 1) := by decide +kernel
theorem dX10_nightsObstacle_36 : decode cX10_nightsObstacle 36 = .ok (.i2l, 1) := by decide +kernel
theorem dX10_nightsObstacle_37 : decode cX10_nightsObstacle 37 = .ok (.lsub, 1) := by decide +kernel
theorem dX10_nightsObstacle_38 : decode cX10_nightsObstacle 38 = .ok (.aload_n 0, 1) := by decide +kernel
theorem dX10_nightsObstacle_39 : decode cX10_nightsObstacle 39 = .ok (.iload_n 1, 1) := by decide +kernel
theorem dX10_nightsObstacle_40 : decode cX10_nightsObstacle 40 = .ok (.iconst 0, 1) := by decide +kernel
theorem dX10_nightsObstacle_41 : decode cX10_nightsObstacle 41 = .ok (.invokevirtual 91, 3) := by decide +kernel
theorem dX10_nightsObstacle_44 : decode cX10_nightsObstacle 44 = .ok (.i2l, 1) := by decide +kernel
theorem dX10_nightsObstacle_45 : decode cX10_nightsObstacle 45 = .ok (.lcmp, 1) := by decide +kernel
theorem dX10_nightsObstacle_46 : decode cX10_nightsObstacle 46 = .ok (.ifCond .le 5, 3) := by decide +kernel
theorem dX10_nightsObstacle_49 : decode cX10_nightsObstacle 49 = .ok (.iconst 1, 1) := by decide +kernel
theorem dX10_nightsObstacle_50 : decode cX10_nightsObstacle 50 = .ok (.ireturn, 1) := by decide +kernel
theorem dX10_nightsObstacle_51 : decode cX10_nightsObstacle 51 = .ok (.iload_n 2, 1) := by decide +kernel
theorem dX10_nightsObstacle_52 : decode cX10_nightsObstacle 52 = .ok (.istore 6, 2) := by decide +kernel
theorem dX10_nightsObstacle_54 : decode cX10_nightsObstacle 54 = .ok (.iload 6, 2) := by decide +kernel
theorem dX10_nightsObstacle_56 : decode cX10_nightsObstacle 56 = .ok (.iload_n 2, 1) := by decide +kernel
theorem dX10_nightsObstacle_57 : decode cX10_nightsObstacle 57 = .ok (.iload_n 3, 1) := by decide +kernel
theorem dX10_nightsObstacle_58 : decode cX10_nightsObstacle 58 = .ok (.iadd, 1) := by decide +kernel
theorem dX10_nightsObstacle_59 : decode cX10_nightsObstacle 59 = .ok (.if_icmp .ge 21, 3) := by decide +kernel
theorem dX10_nightsObstacle_62 : decode cX10_nightsObstacle 62 = .ok (.aload_n 0, 1) := by decide +kernel
theorem dX10_nightsObstacle_63 : decode cX10_nightsObstacle 63 = .ok (.iload_n 1, 1) := by decide +kernel
theorem dX10_nightsObstacle_64 : decode cX10_nightsObstacle 64 = .ok (.iload 6, 2) := by decide +kernel
theorem dX10_nightsObstacle_66 : decode cX10_nightsObstacle 66 = .ok (.invokevirtual 117, 3) := by decide +kernel
theorem dX10_nightsObstacle_69 : decode cX10_nightsObstacle 69 = .ok (.ifCond .ne 5, 3) := by decide +kernel
theorem dX10_nightsObstacle_72 : decode cX10_nightsObstacle 72 = .ok (.iconst 2, 1) := by decide +kernel
theorem dX10_nightsObstacle_73 : decode cX10_nightsObstacle 73 = .ok (.ireturn, 1) := by decide +kernel
theorem dX10_nightsObstacle_74 : decode cX10_nightsObstacle 74 = .ok (.iinc 6 1, 3) := by decide +kernel
theorem dX10_nightsObstacle_77 : decode cX10_nightsObstacle 77 = .ok (.goto (-23), 3) := by decide +kernel
theorem dX10_nightsObstacle_80 : decode cX10_nightsObstacle 80 = .ok (.iconst 0, 1) := by decide +kernel
theorem dX10_nightsObstacle_81 : decode cX10_nightsObstacle 81 = .ok (.ireturn, 1) := by decide +kernel
theorem dX10_obstacleOf_0 : decode cX10_obstacleOf 0 = .ok (.aload_n 0, 1) := by decide +kernel
theorem dX10_obstacleOf_1 : decode cX10_obstacleOf 1 = .ok (.iload_n 1, 1) := by decide +kernel
theorem dX10_obstacleOf_2 : decode cX10_obstacleOf 2 = .ok (.iload_n 2, 1) := by decide +kernel
theorem dX10_obstacleOf_3 : decode cX10_obstacleOf 3 = .ok (.iload_n 3, 1) := by decide +kernel
theorem dX10_obstacleOf_4 : decode cX10_obstacleOf 4 = .ok (.invokevirtual 122, 3) := by decide +kernel
theorem dX10_obstacleOf_7 : decode cX10_obstacleOf 7 = .ok (.istore 4, 2) := by decide +kernel
theorem dX10_obstacleOf_9 : decode cX10_obstacleOf 9 = .ok (.iload 4, 2) := by decide +kernel
theorem dX10_obstacleOf_11 : decode cX10_obstacleOf 11 = .ok (.ifCond .ne 13, 3) := by decide +kernel
theorem dX10_obstacleOf_14 : decode cX10_obstacleOf 14 = .ok (.iload_n 3, 1) := by decide +kernel
theorem dX10_obstacleOf_15 : decode cX10_obstacleOf 15 = .ok (.aload_n 0, 1) := by decide +kernel
theorem dX10_obstacleOf_16 : decode cX10_obstacleOf 16 = .ok (.iload_n 1, 1) := by decide +kernel
theorem dX10_obstacleOf_17 : decode cX10_obstacleOf 17 = .ok (.iload_n 2, 1) := by decide +kernel
theorem dX10_obstacleOf_18 : decode cX10_obstacleOf 18 = .ok (.invokevirtual 81, 3) := by decide +kernel
theorem dX10_obstacleOf_21 : decode cX10_obstacleOf 21 = .ok (.if_icmp .lt 6, 3) := by decide +kernel
theorem dX10_obstacleOf_24 : decode cX10_obstacleOf 24 = .ok (.iload 4, 2) := by decide +kernel
theorem dX10_obstacleOf_26 : decode cX10_obstacleOf 26 = .ok (.ireturn, 1) := by decide +kernel
theorem dX10_obstacleOf_27 : decode cX10_obstacleOf 27 = .ok (.aload_n 0, 1) := by decide +kernel
theorem dX10_obstacleOf_28 : decode cX10_obstacleOf 28 = .ok (.iload_n 1, 1) := by decide +kernel
theorem dX10_obstacleOf_29 : decode cX10_obstacleOf 29 = .ok (.iload_n 2, 1) := by decide +kernel
theorem dX10_obstacleOf_30 : decode cX10_obstacleOf 30 = .ok (.iconst 1, 1) := by decide +kernel
theorem dX10_obstacleOf_31 : decode cX10_obstacleOf 31 = .ok (.isub, 1) := by decide +kernel
theorem dX10_obstacleOf_32 : decode cX10_obstacleOf 32 = .ok (.invokevirtual 117, 3) := by decide +kernel
theorem dX10_obstacleOf_35 : decode cX10_obstacleOf 35 = .ok (.ifCond .ne 18, 3) := by decide +kernel
theorem dX10_obstacleOf_38 : decode cX10_obstacleOf 38 = .ok (.aload_n 0, 1) := by decide +kernel
theorem dX10_obstacleOf_39 : decode cX10_obstacleOf 39 = .ok (.iload_n 1, 1) := by decide +kernel
theorem dX10_obstacleOf_40 : decode cX10_obstacleOf 40 = .ok (.iload_n 2, 1) := by decide +kernel
theorem dX10_obstacleOf_41 : decode cX10_obstacleOf 41 = .ok (.iload_n 3, 1) := by decide +kernel
theorem dX10_obstacleOf_42 : decode cX10_obstacleOf 42 = .ok (.iadd, 1) := by decide +kernel
theorem dX10_obstacleOf_43 : decode cX10_obstacleOf 43 = .ok (.invokevirtual 117, 3) := by decide +kernel
theorem dX10_obstacleOf_46 : decode cX10_obstacleOf 46 = .ok (.ifCond .ne 7, 3) := by decide +kernel
theorem dX10_obstacleOf_49 : decode cX10_obstacleOf 49 = .ok (.iconst 1, 1) := by decide +kernel
theorem dX10_obstacleOf_50 : decode cX10_obstacleOf 50 = .ok (.goto 4, 3) := by decide +kernel
theorem dX10_obstacleOf_53 : decode cX10_obstacleOf 53 = .ok (.iconst 0, 1) := by decide +kernel
theorem dX10_obstacleOf_54 : decode cX10_obstacleOf 54 = .ok (.istore 5, 2) := by decide +kernel
theorem dX10_obstacleOf_56 : decode cX10_obstacleOf 56 = .ok (.iload 5, 2) := by decide +kernel
theorem dX10_obstacleOf_58 : decode cX10_obstacleOf 58 = .ok (.ifCond .eq 7, 3) := by decide +kernel
theorem dX10_obstacleOf_61 : decode cX10_obstacleOf 61 = .ok (.iconst 0, 1) := by decide +kernel
theorem dX10_obstacleOf_62 : decode cX10_obstacleOf 62 = .ok (.goto 4, 3) := by decide +kernel
theorem dX10_obstacleOf_65 : decode cX10_obstacleOf 65 = .ok (.iconst 3, 1) := by decide +kernel
theorem dX10_obstacleOf_66 : decode cX10_obstacleOf 66 = .ok (.ireturn, 1) := by decide +kernel
theorem dX10_obstacle_0 : decode cX10_obstacle 0 = .ok (.aload_n 0, 1) := by decide +kernel
theorem dX10_obstacle_1 : decode cX10_obstacle 1 = .ok (.iconst 0, 1) := by decide +kernel
theorem dX10_obstacle_2 : decode cX10_obstacle 2 = .ok (.putfield 36, 3) := by decide +kernel
theorem dX10_obstacle_5 : decode cX10_obstacle 5 = .ok (.aload_n 0, 1) := by decide +kernel
theorem dX10_obstacle_6 : decode cX10_obstacle 6 = .ok (.iload_n 1, 1) := by decide +kernel
theorem dX10_obstacle_7 : decode cX10_obstacle 7 = .ok (.invokevirtual 51, 3) := by decide +kernel
theorem dX10_obstacle_10 : decode cX10_obstacle 10 = .ok (.ifCond .ne 9, 3) := by decide +kernel
theorem dX10_obstacle_13 : decode cX10_obstacle 13 = .ok (.aload_n 0, 1) := by decide +kernel
theorem dX10_obstacle_14 : decode cX10_obstacle 14 = .ok (.iconst 1, 1) := by decide +kernel
theorem dX10_obstacle_15 : decode cX10_obstacle 15 = .ok (.invokevirtual 43, 3) := by decide +kernel
theorem dX10_obstacle_18 : decode cX10_obstacle 18 = .ok (.ireturn, 1) := by decide +kernel
theorem dX10_obstacle_19 : decode cX10_obstacle 19 = .ok (.iload_n 3, 1) := by decide +kernel
theorem dX10_obstacle_20 : decode cX10_obstacle 20 = .ok (.invokestatic 125, 3) := by decide +kernel
theorem dX10_obstacle_23 : decode cX10_obstacle 23 = .ok (.ifCond .eq 13, 3) := by decide +kernel
theorem dX10_obstacle_26 : decode cX10_obstacle 26 = .ok (.aload_n 0, 1) := by decide +kernel
theorem dX10_obstacle_27 : decode cX10_obstacle 27 = .ok (.iload_n 1, 1) := by decide +kernel
theorem dX10_obstacle_28 : decode cX10_obstacle 28 = .ok (.iload_n 2, 1) := by decide +kernel
theorem dX10_obstacle_29 : decode cX10_obstacle 29 = .ok (.iload_n 3, 1) := by decide +kernel
theorem dX10_obstacle_30 : decode cX10_obstacle 30 = .ok (.invokevirtual 128, 3) := by decide +kernel
theorem dX10_obstacle_33 : decode cX10_obstacle 33 = .ok (.goto 8, 3) := by decide +kernel
theorem dX10_obstacle_36 : decode cX10_obstacle 36 = .ok (.aload_n 0, 1) := by decide +kernel
theorem dX10_obstacle_37 : decode cX10_obstacle 37 = .ok (.iconst 2, 1) := by decide +kernel
theorem dX10_obstacle_38 : decode cX10_obstacle 38 = .ok (.invokevirtual 43, 3) := by decide +kernel
theorem dX10_obstacle_41 : decode cX10_obstacle 41 = .ok (.ireturn, 1) := by decide +kernel
theorem dX10_longestStay_0 : decode cX10_longestStay 0 = .ok (.aload_n 0, 1) := by decide +kernel
theorem dX10_longestStay_1 : decode cX10_longestStay 1 = .ok (.iconst 0, 1) := by decide +kernel
theorem dX10_longestStay_2 : decode cX10_longestStay 2 = .ok (.putfield 36, 3) := by decide +kernel
theorem dX10_longestStay_5 : decode cX10_longestStay 5 = .ok (.aload_n 0, 1) := by decide +kernel
theorem dX10_longestStay_6 : decode cX10_longestStay 6 = .ok (.iload_n 1, 1) := by decide +kernel
theorem dX10_longestStay_7 : decode cX10_longestStay 7 = .ok (.invokevirtual 51, 3) := by decide +kernel
theorem dX10_longestStay_10 : decode cX10_longestStay 10 = .ok (.ifCond .ne 9, 3) := by decide +kernel
theorem dX10_longestStay_13 : decode cX10_longestStay 13 = .ok (.aload_n 0, 1) := by decide +kernel
theorem dX10_longestStay_14 : decode cX10_longestStay 14 = .ok (.iconst 1, 1) := by decide +kernel
theorem dX10_longestStay_15 : decode cX10_longestStay 15 = .ok (.invokevirtual 43, 3) := by decide +kernel
theorem dX10_longestStay_18 : decode cX10_longestStay 18 = .ok (.ireturn, 1) := by decide +kernel
theorem dX10_longestStay_19 : decode cX10_longestStay 19 = .ok (.iconst 0, 1) := by decide +kernel
theorem dX10_longestStay_20 : decode cX10_longestStay 20 = .ok (.istore_n 3, 1) := by decide +kernel
theorem dX10_longestStay_21 : decode cX10_longestStay 21 = .ok (.iconst 1, 1) := by decide +kernel
theorem dX10_longestStay_22 : decode cX10_longestStay 22 = .ok (.istore 4, 2) := by decide +kernel
theorem dX10_longestStay_24 : decode cX10_longestStay 24 = .ok (.iload 4, 2) := by decide +kernel
theorem dX10_longestStay_26 : decode cX10_longestStay 26 = .ok (.bipush 28, 2) := by decide +kernel
theorem dX10_longestStay_28 : decode cX10_longestStay 28 = .ok (.if_icmp .gt 27, 3) := by decide +kernel
theorem dX10_longestStay_31 : decode cX10_longestStay 31 = .ok (.aload_n 0, 1) := by decide +kernel
theorem dX10_longestStay_32 : decode cX10_longestStay 32 = .ok (.iload_n 1, 1) := by decide +kernel
theorem dX10_longestStay_33 : decode cX10_longestStay 33 = .ok (.iload_n 2, 1) := by decide +kernel
theorem dX10_longestStay_34 : decode cX10_longestStay 34 = .ok (.iload 4, 2) := by decide +kernel
theorem dX10_longestStay_36 : decode cX10_longestStay 36 = .ok (.invokevirtual 128, 3) := by decide +kernel
theorem dX10_longestStay_39 : decode cX10_longestStay 39 = .ok (.ifCond .ne 8, 3) := by decide +kernel
theorem dX10_longestStay_42 : decode cX10_longestStay 42 = .ok (.iload 4, 2) := by decide +kernel
theorem dX10_longestStay_44 : decode cX10_longestStay 44 = .ok (.goto 4, 3) := by decide +kernel
theorem dX10_longestStay_47 : decode cX10_longestStay 47 = .ok (.iload_n 3, 1) := by decide +kernel
theorem dX10_longestStay_48 : decode cX10_longestStay 48 = .ok (.istore_n 3, 1) := by decide +kernel
theorem dX10_longestStay_49 : decode cX10_longestStay 49 = .ok (.iinc 4 1, 3) := by decide +kernel
theorem dX10_longestStay_52 : decode cX10_longestStay 52 = .ok (.goto (-28), 3) := by decide +kernel
theorem dX10_longestStay_55 : decode cX10_longestStay 55 = .ok (.iload_n 3, 1) := by decide +kernel
theorem dX10_longestStay_56 : decode cX10_longestStay 56 = .ok (.ireturn, 1) := by decide +kernel
theorem dX10_cheapestArrival_0 : decode cX10_cheapestArrival 0 = .ok (.aload_n 0, 1) := by decide +kernel
theorem dX10_cheapestArrival_1 : decode cX10_cheapestArrival 1 = .ok (.iconst 0, 1) := by decide +kernel
theorem dX10_cheapestArrival_2 : decode cX10_cheapestArrival 2 = .ok (.putfield 36, 3) := by decide +kernel
theorem dX10_cheapestArrival_5 : decode cX10_cheapestArrival 5 = .ok (.aload_n 0, 1) := by decide +kernel
theorem dX10_cheapestArrival_6 : decode cX10_cheapestArrival 6 = .ok (.iload_n 1, 1) := by decide +kernel
theorem dX10_cheapestArrival_7 : decode cX10_cheapestArrival 7 = .ok (.invokevirtual 51, 3) := by decide +kernel
theorem dX10_cheapestArrival_10 : decode cX10_cheapestArrival 10 = .ok (.ifCond .ne 9, 3) := by decide +kernel
theorem dX10_cheapestArrival_13 : decode cX10_cheapestArrival 13 = .ok (.aload_n 0, 1) := by decide +kernel
theorem dX10_cheapestArrival_14 : decode cX10_cheapestArrival 14 = .ok (.iconst 1, 1) := by decide +kernel
theorem dX10_cheapestArrival_15 : decode cX10_cheapestArrival 15 = .ok (.invokevirtual 43, 3) := by decide +kernel
theorem dX10_cheapestArrival_18 : decode cX10_cheapestArrival 18 = .ok (.ireturn, 1) := by decide +kernel
theorem dX10_cheapestArrival_19 : decode cX10_cheapestArrival 19 = .ok (.iload_n 2, 1) := by decide +kernel
theorem dX10_cheapestArrival_20 : decode cX10_cheapestArrival 20 = .ok (.invokestatic 125, 3) := by decide +kernel
theorem dX10_cheapestArrival_23 : decode cX10_cheapestArrival 23 = .ok (.ifCond .eq 22, 3) := by decide +kernel
theorem dX10_cheapestArrival_26 : decode cX10_cheapestArrival 26 = .ok (.iload_n 3, 1) := by decide +kernel
theorem dX10_cheapestArrival_27 : decode cX10_cheapestArrival 27 = .ok (.invokestatic 58, 3) := by decide +kernel
theorem dX10_cheapestArrival_30 : decode cX10_cheapestArrival 30 = .ok (.ifCond .eq 15, 3) := by decide +kernel
theorem dX10_cheapestArrival_33 : decode cX10_cheapestArrival 33 = .ok (.iload 4, 2) := by decide +kernel
theorem dX10_cheapestArrival_35 : decode cX10_cheapestArrival 35 = .ok (.iload_n 3, 1) := by decide +kernel
theorem dX10_cheapestArrival_36 : decode cX10_cheapestArrival 36 = .ok (.sipush 999, 3) := by decide +kernel
theorem dX10_cheapestArrival_39 : decode cX10_cheapestArrival 39 = .ok (.invokestatic 39, 3) := by decide +kernel
theorem dX10_cheapestArrival_42 : decode cX10_cheapestArrival 42 = .ok (.ifCond .ne 9, 3) := by decide +kernel
theorem dX10_cheapestArrival_45 : decode cX10_cheapestArrival 45 = .ok (.aload_n 0, 1) := by decide +kernel
theorem dX10_cheapestArrival_46 : decode cX10_cheapestArrival 46 = .ok (.iconst 2, 1) := by decide +kernel
theorem dX10_cheapestArrival_47 : decode cX10_cheapestArrival 47 = .ok (.invokevirtual 43, 3) := by decide +kernel
theorem dX10_cheapestArrival_50 : decode cX10_cheapestArrival 50 = .ok (.ireturn, 1) := by decide +kernel
theorem dX10_cheapestArrival_51 : decode cX10_cheapestArrival 51 = .ok (.iconst (-1), 1) := by decide +kernel
theorem dX10_cheapestArrival_52 : decode cX10_cheapestArrival 52 = .ok (.istore 5, 2) := by decide +kernel
theorem dX10_cheapestArrival_54 : decode cX10_cheapestArrival 54 = .ok (.iconst 0, 1) := by decide +kernel
theorem dX10_cheapestArrival_55 : decode cX10_cheapestArrival 55 = .ok (.istore 6, 2) := by decide +kernel
theorem dX10_cheapestArrival_57 : decode cX10_cheapestArrival 57 = .ok (.iload_n 3, 1) := by decide +kernel
theorem dX10_cheapestArrival_58 : decode cX10_cheapestArrival 58 = .ok (.istore 7, 2) := by decide +kernel
theorem dX10_cheapestArrival_60 : decode cX10_cheapestArrival 60 = .ok (.iload 7, 2) := by decide +kernel
theorem dX10_cheapestArrival_62 : decode cX10_cheapestArrival 62 = .ok (.iload 4, 2) := by decide +kernel
theorem dX10_cheapestArrival_64 : decode cX10_cheapestArrival 64 = .ok (.if_icmp .gt 57, 3) := by decide +kernel
theorem dX10_cheapestArrival_67 : decode cX10_cheapestArrival 67 = .ok (.aload_n 0, 1) := by decide +kernel
theorem dX10_cheapestArrival_68 : decode cX10_cheapestArrival 68 = .ok (.iload_n 1, 1) := by decide +kernel
theorem dX10_cheapestArrival_69 : decode cX10_cheapestArrival 69 = .ok (.iload 7, 2) := by decide +kernel
theorem dX10_cheapestArrival_71 : decode cX10_cheapestArrival 71 = .ok (.iload_n 2, 1) := by decide +kernel
theorem dX10_cheapestArrival_72 : decode cX10_cheapestArrival 72 = .ok (.invokevirtual 128, 3) := by decide +kernel
theorem dX10_cheapestArrival_75 : decode cX10_cheapestArrival 75 = .ok (.ifCond .eq 6, 3) := by decide +kernel
theorem dX10_cheapestArrival_78 : decode cX10_cheapestArrival 78 = .ok (.goto 37, 3) := by decide +kernel
theorem dX10_cheapestArrival_81 : decode cX10_cheapestArrival 81 = .ok (.aload_n 0, 1) := by decide +kernel
theorem dX10_cheapestArrival_82 : decode cX10_cheapestArrival 82 = .ok (.iload_n 1, 1) := by decide +kernel
theorem dX10_cheapestArrival_83 : decode cX10_cheapestArrival 83 = .ok (.iload 7, 2) := by decide +kernel
theorem dX10_cheapestArrival_85 : decode cX10_cheapestArrival 85 = .ok (.iload 7, 2) := by decide +kernel
theorem dX10_cheapestArrival_87 : decode cX10_cheapestArrival 87 = .ok (.iload_n 2, 1) := by decide +kernel
theorem dX10_cheapestArrival_88 : decode cX10_cheapestArrival 88 = .ok (.iadd, 1) := by decide +kernel
theorem dX10_cheapestArrival_89 : decode cX10_cheapestArrival 89 = .ok (.invokevirtual 131, 3) := by decide +kernel
theorem dX10_cheapestArrival_92 : decode cX10_cheapestArrival 92 = .ok (.istore 8, 2) := by decide +kernel
theorem dX10_cheapestArrival_94 : decode cX10_cheapestArrival 94 = .ok (.iload 5, 2) := by decide +kernel
theorem dX10_cheapestArrival_96 : decode cX10_cheapestArrival 96 = .ok (.iconst (-1), 1) := by decide +kernel
theorem dX10_cheapestArrival_97 : decode cX10_cheapestArrival 97 = .ok (.if_icmp .eq 10, 3) := by decide +kernel
theorem dX10_cheapestArrival_100 : decode cX10_cheapestArrival 100 = .ok (.iload 8, 2) := by decide +kernel
theorem dX10_cheapestArrival_102 : decode cX10_cheapestArrival 102 = .ok (.iload 6, 2) := by decide +kernel
theorem dX10_cheapestArrival_104 : decode cX10_cheapestArrival 104 = .ok (.if_icmp .ge 11, 3) := by decide +kernel
theorem dX10_cheapestArrival_107 : decode cX10_cheapestArrival 107 = .ok (.iload 7, 2) := by decide +kernel
theorem dX10_cheapestArrival_109 : decode cX10_cheapestArrival 109 = .ok (.istore 5, 2) := by decide +kernel
theorem dX10_cheapestArrival_111 : decode cX10_cheapestArrival 111 = .ok (.iload 8, 2) := by decide +kernel
theorem dX10_cheapestArrival_113 : decode cX10_cheapestArrival 113 = .ok (.istore 6, 2) := by decide +kernel
theorem dX10_cheapestArrival_115 : decode cX10_cheapestArrival 115 = .ok (.iinc 7 1, 3) := by decide +kernel
theorem dX10_cheapestArrival_118 : decode cX10_cheapestArrival 118 = .ok (.goto (-58), 3) := by decide +kernel
theorem dX10_cheapestArrival_121 : decode cX10_cheapestArrival 121 = .ok (.iload 5, 2) := by decide +kernel
theorem dX10_cheapestArrival_123 : decode cX10_cheapestArrival 123 = .ok (.ireturn, 1) := by decide +kernel
theorem dX10_nextGap_0 : decode cX10_nextGap 0 = .ok (.aload_n 0, 1) := by decide +kernel
theorem dX10_nextGap_1 : decode cX10_nextGap 1 = .ok (.iconst 0, 1) := by decide +kernel
theorem dX10_nextGap_2 : decode cX10_nextGap 2 = .ok (.putfield 36, 3) := by decide +kernel
theorem dX10_nextGap_5 : decode cX10_nextGap 5 = .ok (.aload_n 0, 1) := by decide +kernel
theorem dX10_nextGap_6 : decode cX10_nextGap 6 = .ok (.iload_n 1, 1) := by decide +kernel
theorem dX10_nextGap_7 : decode cX10_nextGap 7 = .ok (.invokevirtual 51, 3) := by decide +kernel
theorem dX10_nextGap_10 : decode cX10_nextGap 10 = .ok (.ifCond .ne 9, 3) := by decide +kernel
theorem dX10_nextGap_13 : decode cX10_nextGap 13 = .ok (.aload_n 0, 1) := by decide +kernel
theorem dX10_nextGap_14 : decode cX10_nextGap 14 = .ok (.iconst 1, 1) := by decide +kernel
theorem dX10_nextGap_15 : decode cX10_nextGap 15 = .ok (.invokevirtual 43, 3) := by decide +kernel
theorem dX10_nextGap_18 : decode cX10_nextGap 18 = .ok (.ireturn, 1) := by decide +kernel
theorem dX10_nextGap_19 : decode cX10_nextGap 19 = .ok (.iload_n 2, 1) := by decide +kernel
theorem dX10_nextGap_20 : decode cX10_nextGap 20 = .ok (.invokestatic 58, 3) := by decide +kernel
theorem dX10_nextGap_23 : decode cX10_nextGap 23 = .ok (.ifCond .ne 9, 3) := by decide +kernel
theorem dX10_nextGap_26 : decode cX10_nextGap 26 = .ok (.aload_n 0, 1) := by decide +kernel
theorem dX10_nextGap_27 : decode cX10_nextGap 27 = .ok (.iconst 2, 1) := by decide +kernel
theorem dX10_nextGap_28 : decode cX10_nextGap 28 = .ok (.invokevirtual 43, 3) := by decide +kernel
theorem dX10_nextGap_31 : decode cX10_nextGap 31 = .ok (.ireturn, 1) := by decide +kernel
theorem dX10_nextGap_32 : decode cX10_nextGap 32 = .ok (.iload_n 2, 1) := by decide +kernel
theorem dX10_nextGap_33 : decode cX10_nextGap 33 = .ok (.istore_n 3, 1) := by decide +kernel
theorem dX10_nextGap_34 : decode cX10_nextGap 34 = .ok (.iload_n 3, 1) := by decide +kernel
theorem dX10_nextGap_35 : decode cX10_nextGap 35 = .ok (.sipush 998, 3) := by decide +kernel
theorem dX10_nextGap_38 : decode cX10_nextGap 38 = .ok (.if_icmp .gt 31, 3) := by decide +kernel
theorem dX10_nextGap_41 : decode cX10_nextGap 41 = .ok (.aload_n 0, 1) := by decide +kernel
theorem dX10_nextGap_42 : decode cX10_nextGap 42 = .ok (.iload_n 1, 1) := by decide +kernel
theorem dX10_nextGap_43 : decode cX10_nextGap 43 = .ok (.iload_n 3, 1) := by decide +kernel
theorem dX10_nextGap_44 : decode cX10_nextGap 44 = .ok (.invokevirtual 117, 3) := by decide +kernel
theorem dX10_nextGap_47 : decode cX10_nextGap 47 = .ok (.ifCond .le 16, 3) := by decide +kernel
theorem dX10_nextGap_50 : decode cX10_nextGap 50 = .ok (.aload_n 0, 1) := by decide +kernel
theorem dX10_nextGap_51 : decode cX10_nextGap 51 = .ok (.iload_n 1, 1) := by decide +kernel
theorem dX10_nextGap_52 : decode cX10_nextGap 52 = .ok (.iload_n 3, 1) := by decide +kernel
theorem dX10_nextGap_53 : decode cX10_nextGap 53 = .ok (.iconst 1, 1) := by decide +kernel
theorem dX10_nextGap_54 : decode cX10_nextGap 54 = .ok (.isub, 1) := by decide +kernel
theorem dX10_nextGap_55 : decode cX10_nextGap 55 = .ok (.invokevirtual 117, 3) := by decide +kernel
theorem dX10_nextGap_58 : decode cX10_nextGap 58 = .ok (.ifCond .ne 5, 3) := by decide +kernel
theorem dX10_nextGap_61 : decode cX10_nextGap 61 = .ok (.iload_n 3, 1) := by decide +kernel
theorem dX10_nextGap_62 : decode cX10_nextGap 62 = .ok (.ireturn, 1) := by decide +kernel
theorem dX10_nextGap_63 : decode cX10_nextGap 63 = .ok (.iinc 3 1, 3) := by decide +kernel
theorem dX10_nextGap_66 : decode cX10_nextGap 66 = .ok (.goto (-32), 3) := by decide +kernel
theorem dX10_nextGap_69 : decode cX10_nextGap 69 = .ok (.iconst (-1), 1) := by decide +kernel
theorem dX10_nextGap_70 : decode cX10_nextGap 70 = .ok (.ireturn, 1) := by decide +kernel
theorem dX10_appendBooking_0 : decode cX10_appendBooking 0 = .ok (.aload_n 0, 1) := by decide +kernel
theorem dX10_appendBooking_1 : decode cX10_appendBooking 1 = .ok (.getfield 7, 3) := by decide +kernel
theorem dX10_appendBooking_4 : decode cX10_appendBooking 4 = .ok (.iconst 4, 1) := by decide +kernel
theorem dX10_appendBooking_5 : decode cX10_appendBooking 5 = .ok (.iaload, 1) := by decide +kernel
theorem dX10_appendBooking_6 : decode cX10_appendBooking 6 = .ok (.istore 4, 2) := by decide +kernel
theorem dX10_appendBooking_8 : decode cX10_appendBooking 8 = .ok (.aload_n 0, 1) := by decide +kernel
theorem dX10_appendBooking_9 : decode cX10_appendBooking 9 = .ok (.iload 4, 2) := by decide +kernel
theorem dX10_appendBooking_11 : decode cX10_appendBooking 11 = .ok (.iconst 0, 1) := by decide +kernel
theorem dX10_appendBooking_12 : decode cX10_appendBooking 12 = .ok (.iload_n 1, 1) := by decide +kernel
theorem dX10_appendBooking_13 : decode cX10_appendBooking 13 = .ok (.invokevirtual 134, 3) := by decide +kernel
theorem dX10_appendBooking_16 : decode cX10_appendBooking 16 = .ok (.aload_n 0, 1) := by decide +kernel
theorem dX10_appendBooking_17 : decode cX10_appendBooking 17 = .ok (.iload 4, 2) := by decide +kernel
theorem dX10_appendBooking_19 : decode cX10_appendBooking 19 = .ok (.iconst 1, 1) := by decide +kernel
theorem dX10_appendBooking_20 : decode cX10_appendBooking 20 = .ok (.iload_n 2, 1) := by decide +kernel
theorem dX10_appendBooking_21 : decode cX10_appendBooking 21 = .ok (.invokevirtual 134, 3) := by decide +kernel
theorem dX10_appendBooking_24 : decode cX10_appendBooking 24 = .ok (.aload_n 0, 1) := by decide +kernel
theorem dX10_appendBooking_25 : decode cX10_appendBooking 25 = .ok (.iload 4, 2) := by decide +kernel
theorem dX10_appendBooking_27 : decode cX10_appendBooking 27 = .ok (.iconst 2, 1) := by decide +kernel
theorem dX10_appendBooking_28 : decode cX10_appendBooking 28 = .ok (.iload_n 2, 1) := by decide +kernel
theorem dX10_appendBooking_29 : decode cX10_appendBooking 29 = .ok (.iload_n 3, 1) := by decide +kernel
theorem dX10_appendBooking_30 : decode cX10_appendBooking 30 = .ok (.iadd, 1) := by decide +kernel
theorem dX10_appendBooking_31 : decode cX10_appendBooking 31 = .ok (.invokevirtual 134, 3) := by decide +kernel
theorem dX10_appendBooking_34 : decode cX10_appendBooking 34 = .ok (.aload_n 0, 1) := by decide +kernel
theorem dX10_appendBooking_35 : decode cX10_appendBooking 35 = .ok (.iload 4, 2) := by decide +kernel
theorem dX10_appendBooking_37 : decode cX10_appendBooking 37 = .ok (.iconst 3, 1) := by decide +kernel
theorem dX10_appendBooking_38 : decode cX10_appendBooking 38 = .ok (.aload_n 0, 1) := by decide +kernel
theorem dX10_appendBooking_39 : decode cX10_appendBooking 39 = .ok (.iload_n 1, 1) := by decide +kernel
theorem dX10_appendBooking_40 : decode cX10_appendBooking 40 = .ok (.iload_n 2, 1) := by decide +kernel
theorem dX10_appendBooking_41 : decode cX10_appendBooking 41 = .ok (.iload_n 2, 1) := by decide +kernel
theorem dX10_appendBooking_42 : decode cX10_appendBooking 42 = .ok (.iload_n 3, 1) := by decide +kernel
theorem dX10_appendBooking_43 : decode cX10_appendBooking 43 = .ok (.iadd, 1) := by decide +kernel
theorem dX10_appendBooking_44 : decode cX10_appendBooking 44 = .ok (.invokevirtual 131, 3) := by decide +kernel
theorem dX10_appendBooking_47 : decode cX10_appendBooking 47 = .ok (.invokevirtual 134, 3) := by decide +kernel
theorem dX10_appendBooking_50 : decode cX10_appendBooking 50 = .ok (.aload_n 0, 1) := by decide +kernel
theorem dX10_appendBooking_51 : decode cX10_appendBooking 51 = .ok (.iload 4, 2) := by decide +kernel
theorem dX10_appendBooking_53 : decode cX10_appendBooking 53 = .ok (.iconst 4, 1) := by decide +kernel
theorem dX10_appendBooking_54 : decode cX10_appendBooking 54 = .ok (.iconst 0, 1) := by decide +kernel
theorem dX10_appendBooking_55 : decode cX10_appendBooking 55 = .ok (.invokevirtual 134, 3) := by decide +kernel
theorem dX10_appendBooking_58 : decode cX10_appendBooking 58 = .ok (.aload_n 0, 1) := by decide +kernel
theorem dX10_appendBooking_59 : decode cX10_appendBooking 59 = .ok (.iload 4, 2) := by decide +kernel
theorem dX10_appendBooking_61 : decode cX10_appendBooking 61 = .ok (.iconst 5, 1) := by decide +kernel
theorem dX10_appendBooking_62 : decode cX10_appendBooking 62 = .ok (.iconst (-1), 1) := by decide +kernel
theorem dX10_appendBooking_63 : decode cX10_appendBooking 63 = .ok (.invokevirtual 134, 3) := by decide +kernel
theorem dX10_appendBooking_66 : decode cX10_appendBooking 66 = .ok (.aload_n 0, 1) := by decide +kernel
theorem dX10_appendBooking_67 : decode cX10_appendBooking 67 = .ok (.getfield 7, 3) := by decide +kernel
theorem dX10_appendBooking_70 : decode cX10_appendBooking 70 = .ok (.iconst 4, 1) := by decide +kernel
theorem dX10_appendBooking_71 : decode cX10_appendBooking 71 = .ok (.dup2, 1) := by decide +kernel
theorem dX10_appendBooking_72 : decode cX10_appendBooking 72 = .ok (.iaload, 1) := by decide +kernel
theorem dX10_appendBooking_73 : decode cX10_appendBooking 73 = .ok (.iconst 1, 1) := by decide +kernel
theorem dX10_appendBooking_74 : decode cX10_appendBooking 74 = .ok (.iadd, 1) := by decide +kernel
theorem dX10_appendBooking_75 : decode cX10_appendBooking 75 = .ok (.iastore, 1) := by decide +kernel
theorem dX10_appendBooking_76 : decode cX10_appendBooking 76 = .ok (.iload 4, 2) := by decide +kernel
theorem dX10_appendBooking_78 : decode cX10_appendBooking 78 = .ok (.ireturn, 1) := by decide +kernel
theorem dX10_book_0 : decode cX10_book 0 = .ok (.aload_n 0, 1) := by decide +kernel
theorem dX10_book_1 : decode cX10_book 1 = .ok (.iconst 0, 1) := by decide +kernel
theorem dX10_book_2 : decode cX10_book 2 = .ok (.putfield 36, 3) := by decide +kernel
theorem dX10_book_5 : decode cX10_book 5 = .ok (.aload_n 0, 1) := by decide +kernel
theorem dX10_book_6 : decode cX10_book 6 = .ok (.iload_n 1, 1) := by decide +kernel
theorem dX10_book_7 : decode cX10_book 7 = .ok (.invokevirtual 51, 3) := by decide +kernel
theorem dX10_book_10 : decode cX10_book 10 = .ok (.ifCond .ne 9, 3) := by decide +kernel
theorem dX10_book_13 : decode cX10_book 13 = .ok (.aload_n 0, 1) := by decide +kernel
theorem dX10_book_14 : decode cX10_book 14 = .ok (.iconst 1, 1) := by decide +kernel
theorem dX10_book_15 : decode cX10_book 15 = .ok (.invokevirtual 43, 3) := by decide +kernel
theorem dX10_book_18 : decode cX10_book 18 = .ok (.ireturn, 1) := by decide +kernel
theorem dX10_book_19 : decode cX10_book 19 = .ok (.iload_n 3, 1) := by decide +kernel
theorem dX10_book_20 : decode cX10_book 20 = .ok (.invokestatic 125, 3) := by decide +kernel
theorem dX10_book_23 : decode cX10_book 23 = .ok (.ifCond .ne 9, 3) := by decide +kernel
theorem dX10_book_26 : decode cX10_book 26 = .ok (.aload_n 0, 1) := by decide +kernel
theorem dX10_book_27 : decode cX10_book 27 = .ok (.iconst 2, 1) := by decide +kernel
theorem dX10_book_28 : decode cX10_book 28 = .ok (.invokevirtual 43, 3) := by decide +kernel
theorem dX10_book_31 : decode cX10_book 31 = .ok (.ireturn, 1) := by decide +kernel
theorem dX10_book_32 : decode cX10_book 32 = .ok (.aload_n 0, 1) := by decide +kernel
theorem dX10_book_33 : decode cX10_book 33 = .ok (.getfield 7, 3) := by decide +kernel
theorem dX10_book_36 : decode cX10_book 36 = .ok (.iconst 4, 1) := by decide +kernel
theorem dX10_book_37 : decode cX10_book 37 = .ok (.iaload, 1) := by decide +kernel
theorem dX10_book_38 : decode cX10_book 38 = .ok (.bipush 60, 2) := by decide +kernel
theorem dX10_book_40 : decode cX10_book 40 = .ok (.if_icmp .eq 13, 3) := by decide +kernel
theorem dX10_book_43 : decode cX10_book 43 = .ok (.aload_n 0, 1) := by decide +kernel
theorem dX10_book_44 : decode cX10_book 44 = .ok (.iload_n 1, 1) := by decide +kernel
theorem dX10_book_45 : decode cX10_book 45 = .ok (.iload_n 2, 1) := by decide +kernel
theorem dX10_book_46 : decode cX10_book 46 = .ok (.iload_n 3, 1) := by decide +kernel
theorem dX10_book_47 : decode cX10_book 47 = .ok (.invokevirtual 128, 3) := by decide +kernel
theorem dX10_book_50 : decode cX10_book 50 = .ok (.ifCond .eq 9, 3) := by decide +kernel
theorem dX10_book_53 : decode cX10_book 53 = .ok (.aload_n 0, 1) := by decide +kernel
theorem dX10_book_54 : decode cX10_book 54 = .ok (.iconst 3, 1) := by decide +kernel
theorem dX10_book_55 : decode cX10_book 55 = .ok (.invokevirtual 43, 3) := by decide +kernel
theorem dX10_book_58 : decode cX10_book 58 = .ok (.ireturn, 1) := by decide +kernel
theorem dX10_book_59 : decode cX10_book 59 = .ok (.aload_n 0, 1) := by decide +kernel
theorem dX10_book_60 : decode cX10_book 60 = .ok (.iload_n 1, 1) := by decide +kernel
theorem dX10_book_61 : decode cX10_book 61 = .ok (.iload_n 2, 1) := by decide +kernel
theorem dX10_book_62 : decode cX10_book 62 = .ok (.iload_n 3, 1) := by decide +kernel
theorem dX10_book_63 : decode cX10_book 63 = .ok (.invokevirtual 138, 3) := by decide +kernel
theorem dX10_book_66 : decode cX10_book 66 = .ok (.ireturn, 1) := by decide +kernel
theorem dX10_bookingCount_0 : decode cX10_bookingCount 0 = .ok (.aload_n 0, 1) := by decide +kernel
theorem dX10_bookingCount_1 : decode cX10_bookingCount 1 = .ok (.iconst 0, 1) := by decide +kernel
theorem dX10_bookingCount_2 : decode cX10_bookingCount 2 = .ok (.putfield 36, 3) := by decide +kernel
theorem dX10_bookingCount_5 : decode cX10_bookingCount 5 = .ok (.aload_n 0, 1) := by decide +kernel
theorem dX10_bookingCount_6 : decode cX10_bookingCount 6 = .ok (.getfield 7, 3) := by decide +kernel
theorem dX10_bookingCount_9 : decode cX10_bookingCount 9 = .ok (.iconst 4, 1) := by decide +kernel
theorem dX10_bookingCount_10 : decode cX10_bookingCount 10 = .ok (.iaload, 1) := by decide +kernel
theorem dX10_bookingCount_11 : decode cX10_bookingCount 11 = .ok (.ireturn, 1) := by decide +kernel
theorem dX10_bookingField_0 : decode cX10_bookingField 0 = .ok (.aload_n 0, 1) := by decide +kernel
theorem dX10_bookingField_1 : decode cX10_bookingField 1 = .ok (.iconst 0, 1) := by decide +kernel
theorem dX10_bookingField_2 : decode cX10_bookingField 2 = .ok (.putfield 36, 3) := by decide +kernel
theorem dX10_bookingField_5 : decode cX10_bookingField 5 = .ok (.aload_n 0, 1) := by decide +kernel
theorem dX10_bookingField_6 : decode cX10_bookingField 6 = .ok (.iload_n 1, 1) := by decide +kernel
theorem dX10_bookingField_7 : decode cX10_bookingField 7 = .ok (.invokevirtual 141, 3) := by decide +kernel
theorem dX10_bookingField_10 : decode cX10_bookingField 10 = .ok (.ifCond .eq 12, 3) := by decide +kernel
theorem dX10_bookingField_13 : decode cX10_bookingField 13 = .ok (.aload_n 0, 1) := by decide +kernel
theorem dX10_bookingField_14 : decode cX10_bookingField 14 = .ok (.iload_n 1, 1) := by decide +kernel
theorem dX10_bookingField_15 : decode cX10_bookingField 15 = .ok (.iload_n 2, 1) := by decide +kernel
theorem dX10_bookingField_16 : decode cX10_bookingField 16 = .ok (.invokevirtual 102, 3) := by decide +kernel
theorem dX10_bookingField_19 : decode cX10_bookingField 19 = .ok (.goto 8, 3) := by decide +kernel
theorem dX10_bookingField_22 : decode cX10_bookingField 22 = .ok (.aload_n 0, 1) := by decide +kernel
theorem dX10_bookingField_23 : decode cX10_bookingField 23 = .ok (.iconst 1, 1) := by decide +kernel
theorem dX10_bookingField_24 : decode cX10_bookingField 24 = .ok (.invokevirtual 43, 3) := by decide +kernel
theorem dX10_bookingField_27 : decode cX10_bookingField 27 = .ok (.ireturn, 1) := by decide +kernel
theorem dX10_bookingState_0 : decode cX10_bookingState 0 = .ok (.aload_n 0, 1) := by decide +kernel
theorem dX10_bookingState_1 : decode cX10_bookingState 1 = .ok (.iload_n 1, 1) := by decide +kernel
theorem dX10_bookingState_2 : decode cX10_bookingState 2 = .ok (.iconst 4, 1) := by decide +kernel
theorem dX10_bookingState_3 : decode cX10_bookingState 3 = .ok (.invokevirtual 144, 3) := by decide +kernel
theorem dX10_bookingState_6 : decode cX10_bookingState 6 = .ok (.ireturn, 1) := by decide +kernel
theorem dX10_bookingClass_0 : decode cX10_bookingClass 0 = .ok (.aload_n 0, 1) := by decide +kernel
theorem dX10_bookingClass_1 : decode cX10_bookingClass 1 = .ok (.iload_n 1, 1) := by decide +kernel
theorem dX10_bookingClass_2 : decode cX10_bookingClass 2 = .ok (.iconst 0, 1) := by decide +kernel
theorem dX10_bookingClass_3 : decode cX10_bookingClass 3 = .ok (.invokevirtual 144, 3) := by decide +kernel
theorem dX10_bookingClass_6 : decode cX10_bookingClass 6 = .ok (.ireturn, 1) := by decide +kernel
theorem dX10_arrival_0 : decode cX10_arrival 0 = .ok (.aload_n 0, 1) := by decide +kernel
theorem dX10_arrival_1 : decode cX10_arrival 1 = .ok (.iload_n 1, 1) := by decide +kernel
theorem dX10_arrival_2 : decode cX10_arrival 2 = .ok (.iconst 1, 1) := by decide +kernel
theorem dX10_arrival_3 : decode cX10_arrival 3 = .ok (.invokevirtual 144, 3) := by decide +kernel
theorem dX10_arrival_6 : decode cX10_arrival 6 = .ok (.ireturn, 1) := by decide +kernel
theorem dX10_departure_0 : decode cX10_departure 0 = .ok (.aload_n 0, 1) := by decide +kernel
theorem dX10_departure_1 : decode cX10_departure 1 = .ok (.iload_n 1, 1) := by decide +kernel
theorem dX10_departure_2 : decode cX10_departure 2 = .ok (.iconst 2, 1) := by decide +kernel
theorem dX10_departure_3 : decode cX10_departure 3 = .ok (.invokevirtual 144, 3) := by decide +kernel
theorem dX10_departure_6 : decode cX10_departure 6 = .ok (.ireturn, 1) := by decide +kernel
theorem dX10_cost_0 : decode cX10_cost 0 = .ok (.aload_n 0, 1) := by decide +kernel
theorem dX10_cost_1 : decode cX10_cost 1 = .ok (.iload_n 1, 1) := by decide +kernel
theorem dX10_cost_2 : decode cX10_cost 2 = .ok (.iconst 3, 1) := by decide +kernel
theorem dX10_cost_3 : decode cX10_cost 3 = .ok (.invokevirtual 144, 3) := by decide +kernel
theorem dX10_cost_6 : decode cX10_cost 6 = .ok (.ireturn, 1) := by decide +kernel
theorem dX10_siteOf_0 : decode cX10_siteOf 0 = .ok (.aload_n 0, 1) := by decide +kernel
theorem dX10_siteOf_1 : decode cX10_siteOf 1 = .ok (.iload_n 1, 1) := by decide +kernel
theorem dX10_siteOf_2 : decode cX10_siteOf 2 = .ok (.iconst 5, 1) := by decide +kernel
theorem dX10_siteOf_3 : decode cX10_siteOf 3 = .ok (.invokevirtual 144, 3) := by decide +kernel
theorem dX10_siteOf_6 : decode cX10_siteOf 6 = .ok (.ireturn, 1) := by decide +kernel
theorem dX10_cancel_0 : decode cX10_cancel 0 = .ok (.aload_n 0, 1) := by decide +kernel
theorem dX10_cancel_1 : decode cX10_cancel 1 = .ok (.iconst 0, 1) := by decide +kernel
theorem dX10_cancel_2 : decode cX10_cancel 2 = .ok (.putfield 36, 3) := by decide +kernel
theorem dX10_cancel_5 : decode cX10_cancel 5 = .ok (.aload_n 0, 1) := by decide +kernel
theorem dX10_cancel_6 : decode cX10_cancel 6 = .ok (.iload_n 1, 1) := by decide +kernel
theorem dX10_cancel_7 : decode cX10_cancel 7 = .ok (.invokevirtual 141, 3) := by decide +kernel
theorem dX10_cancel_10 : decode cX10_cancel 10 = .ok (.ifCond .ne 9, 3) := by decide +kernel
theorem dX10_cancel_13 : decode cX10_cancel 13 = .ok (.aload_n 0, 1) := by decide +kernel
theorem dX10_cancel_14 : decode cX10_cancel 14 = .ok (.iconst 1, 1) := by decide +kernel
theorem dX10_cancel_15 : decode cX10_cancel 15 = .ok (.invokevirtual 43, 3) := by decide +kernel
theorem dX10_cancel_18 : decode cX10_cancel 18 = .ok (.ireturn, 1) := by decide +kernel
theorem dX10_cancel_19 : decode cX10_cancel 19 = .ok (.aload_n 0, 1) := by decide +kernel
theorem dX10_cancel_20 : decode cX10_cancel 20 = .ok (.iload_n 1, 1) := by decide +kernel
theorem dX10_cancel_21 : decode cX10_cancel 21 = .ok (.iconst 4, 1) := by decide +kernel
theorem dX10_cancel_22 : decode cX10_cancel 22 = .ok (.invokevirtual 102, 3) := by decide +kernel
theorem dX10_cancel_25 : decode cX10_cancel 25 = .ok (.ifCond .eq 9, 3) := by decide +kernel
theorem dX10_cancel_28 : decode cX10_cancel 28 = .ok (.aload_n 0, 1) := by decide +kernel
theorem dX10_cancel_29 : decode cX10_cancel 29 = .ok (.iconst 2, 1) := by decide +kernel
theorem dX10_cancel_30 : decode cX10_cancel 30 = .ok (.invokevirtual 43, 3) := by decide +kernel
theorem dX10_cancel_33 : decode cX10_cancel 33 = .ok (.ireturn, 1) := by decide +kernel
theorem dX10_cancel_34 : decode cX10_cancel 34 = .ok (.aload_n 0, 1) := by decide +kernel
theorem dX10_cancel_35 : decode cX10_cancel 35 = .ok (.iload_n 1, 1) := by decide +kernel
theorem dX10_cancel_36 : decode cX10_cancel 36 = .ok (.iconst 1, 1) := by decide +kernel
theorem dX10_cancel_37 : decode cX10_cancel 37 = .ok (.invokevirtual 102, 3) := by decide +kernel
theorem dX10_cancel_40 : decode cX10_cancel 40 = .ok (.aload_n 0, 1) := by decide +kernel
theorem dX10_cancel_41 : decode cX10_cancel 41 = .ok (.getfield 7, 3) := by decide +kernel
theorem dX10_cancel_44 : decode cX10_cancel 44 = .ok (.iconst 0, 1) := by decide +kernel
theorem dX10_cancel_45 : decode cX10_cancel 45 = .ok (.iaload, 1) := by decide +kernel
theorem dX10_cancel_46 : decode cX10_cancel 46 = .ok (.isub, 1) := by decide +kernel
theorem dX10_cancel_47 : decode cX10_cancel 47 = .ok (.istore_n 2, 1) := by decide +kernel
theorem dX10_cancel_48 : decode cX10_cancel 48 = .ok (.aload_n 0, 1) := by decide +kernel
theorem dX10_cancel_49 : decode cX10_cancel 49 = .ok (.iload_n 1, 1) := by decide +kernel
theorem dX10_cancel_50 : decode cX10_cancel 50 = .ok (.iconst 3, 1) := by decide +kernel
theorem dX10_cancel_51 : decode cX10_cancel 51 = .ok (.invokevirtual 102, 3) := by decide +kernel
theorem dX10_cancel_54 : decode cX10_cancel 54 = .ok (.istore_n 3, 1) := by decide +kernel
theorem dX10_cancel_55 : decode cX10_cancel 55 = .ok (.iload_n 2, 1) := by decide +kernel
theorem dX10_cancel_56 : decode cX10_cancel 56 = .ok (.bipush 14, 2) := by decide +kernel
theorem dX10_cancel_58 : decode cX10_cancel 58 = .ok (.if_icmp .lt 7, 3) := by decide +kernel
theorem dX10_cancel_61 : decode cX10_cancel 61 = .ok (.iload_n 3, 1) := by decide +kernel
theorem dX10_cancel_62 : decode cX10_cancel 62 = .ok (.goto 15, 3) := by decide +kernel
theorem dX10_cancel_65 : decode cX10_cancel 65 = .ok (.iload_n 2, 1) := by decide +kernel
theorem dX10_cancel_66 : decode cX10_cancel 66 = .ok (.iconst 3, 1) := by decide +kernel
theorem dX10_cancel_67 : decode cX10_cancel 67 = .ok (.if_icmp .lt 9, 3) := by decide +kernel
theorem dX10_cancel_70 : decode cX10_cancel 70 = .ok (.iload_n 3, 1) := by decide +kernel
theorem dX10_cancel_71 : decode cX10_cancel 71 = .ok (.iconst 2, 1) := by decide +kernel
theorem dX10_cancel_72 : decode cX10_cancel 72 = .ok (.idiv, 1) := by decide +kernel
theorem dX10_cancel_73 : decode cX10_cancel 73 = .ok (.goto 4, 3) := by decide +kernel
theorem dX10_cancel_76 : decode cX10_cancel 76 = .ok (.iconst 0, 1) := by decide +kernel
theorem dX10_cancel_77 : decode cX10_cancel 77 = .ok (.istore 4, 2) := by decide +kernel
theorem dX10_cancel_79 : decode cX10_cancel 79 = .ok (.aload_n 0, 1) := by decide +kernel
theorem dX10_cancel_80 : decode cX10_cancel 80 = .ok (.iload_n 1, 1) := by decide +kernel
theorem dX10_cancel_81 : decode cX10_cancel 81 = .ok (.iconst 3, 1) := by decide +kernel
theorem dX10_cancel_82 : decode cX10_cancel 82 = .ok (.iload_n 3, 1) := by decide +kernel
theorem dX10_cancel_83 : decode cX10_cancel 83 = .ok (.iload 4, 2) := by decide +kernel
theorem dX10_cancel_85 : decode cX10_cancel 85 = .ok (.isub, 1) := by decide +kernel
theorem dX10_cancel_86 : decode cX10_cancel 86 = .ok (.invokevirtual 134, 3) := by decide +kernel
theorem dX10_cancel_89 : decode cX10_cancel 89 = .ok (.aload_n 0, 1) := by decide +kernel
theorem dX10_cancel_90 : decode cX10_cancel 90 = .ok (.iload_n 1, 1) := by decide +kernel
theorem dX10_cancel_91 : decode cX10_cancel 91 = .ok (.iconst 4, 1) := by decide +kernel
theorem dX10_cancel_92 : decode cX10_cancel 92 = .ok (.iconst 3, 1) := by decide +kernel
theorem dX10_cancel_93 : decode cX10_cancel 93 = .ok (.invokevirtual 134, 3) := by decide +kernel
theorem dX10_cancel_96 : decode cX10_cancel 96 = .ok (.iload 4, 2) := by decide +kernel
theorem dX10_cancel_98 : decode cX10_cancel 98 = .ok (.ireturn, 1) := by decide +kernel
theorem dX10_isOccupied_0 : decode cX10_isOccupied 0 = .ok (.iconst 0, 1) := by decide +kernel
theorem dX10_isOccupied_1 : decode cX10_isOccupied 1 = .ok (.istore_n 2, 1) := by decide +kernel
theorem dX10_isOccupied_2 : decode cX10_isOccupied 2 = .ok (.iconst 0, 1) := by decide +kernel
theorem dX10_isOccupied_3 : decode cX10_isOccupied 3 = .ok (.istore_n 3, 1) := by decide +kernel
theorem dX10_isOccupied_4 : decode cX10_isOccupied 4 = .ok (.iload_n 3, 1) := by decide +kernel
theorem dX10_isOccupied_5 : decode cX10_isOccupied 5 = .ok (.aload_n 0, 1) := by decide +kernel
theorem dX10_isOccupied_6 : decode cX10_isOccupied 6 = .ok (.getfield 7, 3) := by decide +kernel
theorem dX10_isOccupied_9 : decode cX10_isOccupied 9 = .ok (.iconst 4, 1) := by decide +kernel
theorem dX10_isOccupied_10 : decode cX10_isOccupied 10 = .ok (.iaload, 1) := by decide +kernel
theorem dX10_isOccupied_11 : decode cX10_isOccupied 11 = .ok (.if_icmp .ge 39, 3) := by decide +kernel
theorem dX10_isOccupied_14 : decode cX10_isOccupied 14 = .ok (.iload_n 2, 1) := by decide +kernel
theorem dX10_isOccupied_15 : decode cX10_isOccupied 15 = .ok (.ifCond .ne 23, 3) := by decide +kernel
theorem dX10_isOccupied_18 : decode cX10_isOccupied 18 = .ok (.aload_n 0, 1) := by decide +kernel
theorem dX10_isOccupied_19 : decode cX10_isOccupied 19 = .ok (.iload_n 3, 1) := by decide +kernel
theorem dX10_isOccupied_20 : decode cX10_isOccupied 20 = .ok (.iconst 4, 1) := by decide +kernel
theorem dX10_isOccupied_21 : decode cX10_isOccupied 21 = .ok (.invokevirtual 102, 3) := by decide +kernel
theorem dX10_isOccupied_24 : decode cX10_isOccupied 24 = .ok (.iconst 1, 1) := by decide +kernel
theorem dX10_isOccupied_25 : decode cX10_isOccupied 25 = .ok (.if_icmp .ne 17, 3) := by decide +kernel
theorem dX10_isOccupied_28 : decode cX10_isOccupied 28 = .ok (.aload_n 0, 1) := by decide +kernel
theorem dX10_isOccupied_29 : decode cX10_isOccupied 29 = .ok (.iload_n 3, 1) := by decide +kernel
theorem dX10_isOccupied_30 : decode cX10_isOccupied 30 = .ok (.iconst 5, 1) := by decide +kernel
theorem dX10_isOccupied_31 : decode cX10_isOccupied 31 = .ok (.invokevirtual 102, 3) := by decide +kernel
theorem dX10_isOccupied_34 : decode cX10_isOccupied 34 = .ok (.iload_n 1, 1) := by decide +kernel
theorem dX10_isOccupied_35 : decode cX10_isOccupied 35 = .ok (.if_icmp .ne 7, 3) := by decide +kernel
theorem dX10_isOccupied_38 : decode cX10_isOccupied 38 = .ok (.iconst 1, 1) := by decide +kernel
theorem dX10_isOccupied_39 : decode cX10_isOccupied 39 = .ok (.goto 4, 3) := by decide +kernel
theorem dX10_isOccupied_42 : decode cX10_isOccupied 42 = .ok (.iconst 0, 1) := by decide +kernel
theorem dX10_isOccupied_43 : decode cX10_isOccupied 43 = .ok (.istore_n 2, 1) := by decide +kernel
theorem dX10_isOccupied_44 : decode cX10_isOccupied 44 = .ok (.iinc 3 1, 3) := by decide +kernel
theorem dX10_isOccupied_47 : decode cX10_isOccupied 47 = .ok (.goto (-43), 3) := by decide +kernel
theorem dX10_isOccupied_50 : decode cX10_isOccupied 50 = .ok (.iload_n 2, 1) := by decide +kernel
theorem dX10_isOccupied_51 : decode cX10_isOccupied 51 = .ok (.ireturn, 1) := by decide +kernel
theorem dX10_isVacant_0 : decode cX10_isVacant 0 = .ok (.aload_n 0, 1) := by decide +kernel
theorem dX10_isVacant_1 : decode cX10_isVacant 1 = .ok (.iload_n 1, 1) := by decide +kernel
theorem dX10_isVacant_2 : decode cX10_isVacant 2 = .ok (.aload_n 0, 1) := by decide +kernel
theorem dX10_isVacant_3 : decode cX10_isVacant 3 = .ok (.getfield 7, 3) := by decide +kernel
theorem dX10_isVacant_6 : decode cX10_isVacant 6 = .ok (.iconst 0, 1) := by decide +kernel
theorem dX10_isVacant_7 : decode cX10_isVacant 7 = .ok (.iaload, 1) := by decide +kernel
theorem dX10_isVacant_8 : decode cX10_isVacant 8 = .ok (.invokevirtual 84, 3) := by decide +kernel
theorem dX10_isVacant_11 : decode cX10_isVacant 11 = .ok (.ifCond .eq 15, 3) := by decide +kernel
theorem dX10_isVacant_14 : decode cX10_isVacant 14 = .ok (.aload_n 0, 1) := by decide +kernel
theorem dX10_isVacant_15 : decode cX10_isVacant 15 = .ok (.iload_n 1, 1) := by decide +kernel
theorem dX10_isVacant_16 : decode cX10_isVacant 16 = .ok (.invokevirtual 147, 3) := by decide +kernel
theorem dX10_isVacant_19 : decode cX10_isVacant 19 = .ok (.ifCond .ne 7, 3) := by decide +kernel
theorem dX10_isVacant_22 : decode cX10_isVacant 22 = .ok (.iconst 1, 1) := by decide +kernel
theorem dX10_isVacant_23 : decode cX10_isVacant 23 = .ok (.goto 4, 3) := by decide +kernel
theorem dX10_isVacant_26 : decode cX10_isVacant 26 = .ok (.iconst 0, 1) := by decide +kernel
theorem dX10_isVacant_27 : decode cX10_isVacant 27 = .ok (.ireturn, 1) := by decide +kernel
theorem dX10_vacantSiteOf_0 : decode cX10_vacantSiteOf 0 = .ok (.iconst 0, 1) := by decide +kernel
theorem dX10_vacantSiteOf_1 : decode cX10_vacantSiteOf 1 = .ok (.istore_n 2, 1) := by decide +kernel
theorem dX10_vacantSiteOf_2 : decode cX10_vacantSiteOf 2 = .ok (.iload_n 2, 1) := by decide +kernel
theorem dX10_vacantSiteOf_3 : decode cX10_vacantSiteOf 3 = .ok (.aload_n 0, 1) := by decide +kernel
theorem dX10_vacantSiteOf_4 : decode cX10_vacantSiteOf 4 = .ok (.getfield 7, 3) := by decide +kernel
theorem dX10_vacantSiteOf_7 : decode cX10_vacantSiteOf 7 = .ok (.iconst 2, 1) := by decide +kernel
theorem dX10_vacantSiteOf_8 : decode cX10_vacantSiteOf 8 = .ok (.iaload, 1) := by decide +kernel
theorem dX10_vacantSiteOf_9 : decode cX10_vacantSiteOf 9 = .ok (.if_icmp .ge 29, 3) := by decide +kernel
theorem dX10_vacantSiteOf_12 : decode cX10_vacantSiteOf 12 = .ok (.aload_n 0, 1) := by decide +kernel
theorem dX10_vacantSiteOf_13 : decode cX10_vacantSiteOf 13 = .ok (.iload_n 2, 1) := by decide +kernel
theorem dX10_vacantSiteOf_14 : decode cX10_vacantSiteOf 14 = .ok (.iconst 0, 1) := by decide +kernel
theorem dX10_vacantSiteOf_15 : decode cX10_vacantSiteOf 15 = .ok (.invokevirtual 68, 3) := by decide +kernel
theorem dX10_vacantSiteOf_18 : decode cX10_vacantSiteOf 18 = .ok (.iload_n 1, 1) := by decide +kernel
theorem dX10_vacantSiteOf_19 : decode cX10_vacantSiteOf 19 = .ok (.if_icmp .ne 13, 3) := by decide +kernel
theorem dX10_vacantSiteOf_22 : decode cX10_vacantSiteOf 22 = .ok (.aload_n 0, 1) := by decide +kernel
theorem dX10_vacantSiteOf_23 : decode cX10_vacantSiteOf 23 = .ok (.iload_n 2, 1) := by decide +kernel
theorem dX10_vacantSiteOf_24 : decode cX10_vacantSiteOf 24 = .ok (.invokevirtual 150, 3) := by decide +kernel
theorem dX10_vacantSiteOf_27 : decode cX10_vacantSiteOf 27 = .ok (.ifCond .eq 5, 3) := by decide +kernel
theorem dX10_vacantSiteOf_30 : decode cX10_vacantSiteOf 30 = .ok (.iload_n 2, 1) := by decide +kernel
theorem dX10_vacantSiteOf_31 : decode cX10_vacantSiteOf 31 = .ok (.ireturn, 1) := by decide +kernel
theorem dX10_vacantSiteOf_32 : decode cX10_vacantSiteOf 32 = .ok (.iinc 2 1, 3) := by decide +kernel
theorem dX10_vacantSiteOf_35 : decode cX10_vacantSiteOf 35 = .ok (.goto (-33), 3) := by decide +kernel
theorem dX10_vacantSiteOf_38 : decode cX10_vacantSiteOf 38 = .ok (.iconst (-1), 1) := by decide +kernel
theorem dX10_vacantSiteOf_39 : decode cX10_vacantSiteOf 39 = .ok (.ireturn, 1) := by decide +kernel
theorem dX10_vacantSite_0 : decode cX10_vacantSite 0 = .ok (.aload_n 0, 1) := by decide +kernel
theorem dX10_vacantSite_1 : decode cX10_vacantSite 1 = .ok (.iconst 0, 1) := by decide +kernel
theorem dX10_vacantSite_2 : decode cX10_vacantSite 2 = .ok (.putfield 36, 3) := by decide +kernel
theorem dX10_vacantSite_5 : decode cX10_vacantSite 5 = .ok (.aload_n 0, 1) := by decide +kernel
theorem dX10_vacantSite_6 : decode cX10_vacantSite 6 = .ok (.iload_n 1, 1) := by decide +kernel
theorem dX10_vacantSite_7 : decode cX10_vacantSite 7 = .ok (.invokevirtual 51, 3) := by decide +kernel
theorem dX10_vacantSite_10 : decode cX10_vacantSite 10 = .ok (.ifCond .eq 11, 3) := by decide +kernel
theorem dX10_vacantSite_13 : decode cX10_vacantSite 13 = .ok (.aload_n 0, 1) := by decide +kernel
theorem dX10_vacantSite_14 : decode cX10_vacantSite 14 = .ok (.iload_n 1, 1) := by decide +kernel
theorem dX10_vacantSite_15 : decode cX10_vacantSite 15 = .ok (.invokevirtual 153, 3) := by decide +kernel
theorem dX10_vacantSite_18 : decode cX10_vacantSite 18 = .ok (.goto 8, 3) := by decide +kernel
theorem dX10_vacantSite_21 : decode cX10_vacantSite 21 = .ok (.aload_n 0, 1) := by decide +kernel
theorem dX10_vacantSite_22 : decode cX10_vacantSite 22 = .ok (.iconst 1, 1) := by decide +kernel
theorem dX10_vacantSite_23 : decode cX10_vacantSite 23 = .ok (.invokevirtual 43, 3) := by decide +kernel
theorem dX10_vacantSite_26 : decode cX10_vacantSite 26 = .ok (.ireturn, 1) := by decide +kernel
theorem dX10_checkIn_0 : decode cX10_checkIn 0 = .ok (.aload_n 0, 1) := by decide +kernel
theorem dX10_checkIn_1 : decode cX10_checkIn 1 = .ok (.iconst 0, 1) := by decide +kernel
theorem dX10_checkIn_2 : decode cX10_checkIn 2 = .ok (.putfield 36, 3) := by decide +kernel
theorem dX10_checkIn_5 : decode cX10_checkIn 5 = .ok (.aload_n 0, 1) := by decide +kernel
theorem dX10_checkIn_6 : decode cX10_checkIn 6 = .ok (.iload_n 1, 1) := by decide +kernel
theorem dX10_checkIn_7 : decode cX10_checkIn 7 = .ok (.invokevirtual 141, 3) := by decide +kernel
theorem dX10_checkIn_10 : decode cX10_checkIn 10 = .ok (.ifCond .eq 16, 3) := by decide +kernel
theorem dX10_checkIn_13 : decode cX10_checkIn 13 = .ok (.iload_n 2, 1) := by decide +kernel
theorem dX10_checkIn_14 : decode cX10_checkIn 14 = .ok (.iconst (-1), 1) := by decide +kernel
theorem dX10_checkIn_15 : decode cX10_checkIn 15 = .ok (.if_icmp .eq 17, 3) := by decide +kernel
theorem dX10_checkIn_18 : decode cX10_checkIn 18 = .ok (.aload_n 0, 1) := by decide +kernel
theorem dX10_checkIn_19 : decode cX10_checkIn 19 = .ok (.iload_n 2, 1) := by decide +kernel
theorem dX10_checkIn_20 : decode cX10_checkIn 20 = .ok (.invokevirtual 65, 3) := by decide +kernel
theorem dX10_checkIn_23 : decode cX10_checkIn 23 = .ok (.ifCond .ne 9, 3) := by decide +kernel
theorem dX10_checkIn_26 : decode cX10_checkIn 26 = .ok (.aload_n 0, 1) := by decide +kernel
theorem dX10_checkIn_27 : decode cX10_checkIn 27 = .ok (.iconst 1, 1) := by decide +kernel
theorem dX10_checkIn_28 : decode cX10_checkIn 28 = .ok (.invokevirtual 43, 3) := by decide +kernel
theorem dX10_checkIn_31 : decode cX10_checkIn 31 = .ok (.ireturn, 1) := by decide +kernel
theorem dX10_checkIn_32 : decode cX10_checkIn 32 = .ok (.iload_n 2, 1) := by decide +kernel
theorem dX10_checkIn_33 : decode cX10_checkIn 33 = .ok (.iconst (-1), 1) := by decide +kernel
theorem dX10_checkIn_34 : decode cX10_checkIn 34 = .ok (.if_icmp .eq 24, 3) := by decide +kernel
theorem dX10_checkIn_37 : decode cX10_checkIn 37 = .ok (.aload_n 0, 1) := by decide +kernel
theorem dX10_checkIn_38 : decode cX10_checkIn 38 = .ok (.iload_n 2, 1) := by decide +kernel
theorem dX10_checkIn_39 : decode cX10_checkIn 39 = .ok (.iconst 0, 1) := by decide +kernel
theorem dX10_checkIn_40 : decode cX10_checkIn 40 = .ok (.invokevirtual 68, 3) := by decide +kernel
theorem dX10_checkIn_43 : decode cX10_checkIn 43 = .ok (.aload_n 0, 1) := by decide +kernel
theorem dX10_checkIn_44 : decode cX10_checkIn 44 = .ok (.iload_n 1, 1) := by decide +kernel
theorem dX10_checkIn_45 : decode cX10_checkIn 45 = .ok (.iconst 0, 1) := by decide +kernel
theorem dX10_checkIn_46 : decode cX10_checkIn 46 = .ok (.invokevirtual 102, 3) := by decide +kernel
theorem dX10_checkIn_49 : decode cX10_checkIn 49 = .ok (.if_icmp .eq 9, 3) := by decide +kernel
theorem dX10_checkIn_52 : decode cX10_checkIn 52 = .ok (.aload_n 0, 1) := by decide +kernel
theorem dX10_checkIn_53 : decode cX10_checkIn 53 = .ok (.iconst 2, 1) := by decide +kernel
theorem dX10_checkIn_54 : decode cX10_checkIn 54 = .ok (.invokevirtual 43, 3) := by decide +kernel
theorem dX10_checkIn_57 : decode cX10_checkIn 57 = .ok (.ireturn, 1) := by decide +kernel
theorem dX10_checkIn_58 : decode cX10_checkIn 58 = .ok (.iload_n 2, 1) := by decide +kernel
theorem dX10_checkIn_59 : decode cX10_checkIn 59 = .ok (.iconst (-1), 1) := by decide +kernel
theorem dX10_checkIn_60 : decode cX10_checkIn 60 = .ok (.if_icmp .ne 16, 3) := by decide +kernel
theorem dX10_checkIn_63 : decode cX10_checkIn 63 = .ok (.aload_n 0, 1) := by decide +kernel
theorem dX10_checkIn_64 : decode cX10_checkIn 64 = .ok (.aload_n 0, 1) := by decide +kernel
theorem dX10_checkIn_65 : decode cX10_checkIn 65 = .ok (.iload_n 1, 1) := by decide +kernel
theorem dX10_checkIn_66 : decode cX10_checkIn 66 = .ok (.iconst 0, 1) := by decide +kernel
theorem dX10_checkIn_67 : decode cX10_checkIn 67 = .ok (.invokevirtual 102, 3) := by decide +kernel
theorem dX10_checkIn_70 : decode cX10_checkIn 70 = .ok (.invokevirtual 153, 3) := by decide +kernel
theorem dX10_checkIn_73 : decode cX10_checkIn 73 = .ok (.goto 4, 3) := by decide +kernel
theorem dX10_checkIn_76 : decode cX10_checkIn 76 = .ok (.iload_n 2, 1) := by decide +kernel
theorem dX10_checkIn_77 : decode cX10_checkIn 77 = .ok (.istore_n 3, 1) := by decide +kernel
theorem dX10_checkIn_78 : decode cX10_checkIn 78 = .ok (.aload_n 0, 1) := by decide +kernel
theorem dX10_checkIn_79 : decode cX10_checkIn 79 = .ok (.iload_n 1, 1) := by decide +kernel
theorem dX10_checkIn_80 : decode cX10_checkIn 80 = .ok (.iconst 4, 1) := by decide +kernel
theorem dX10_checkIn_81 : decode cX10_checkIn 81 = .ok (.invokevirtual 102, 3) := by decide +kernel
theorem dX10_checkIn_84 : decode cX10_checkIn 84 = .ok (.ifCond .ne 22, 3) := by decide +kernel
theorem dX10_checkIn_87 : decode cX10_checkIn 87 = .ok (.aload_n 0, 1) := by decide +kernel
theorem dX10_checkIn_88 : decode cX10_checkIn 88 = .ok (.iload_n 1, 1) := by decide +kernel
theorem dX10_checkIn_89 : decode cX10_checkIn 89 = .ok (.iconst 1, 1) := by decide +kernel
theorem dX10_checkIn_90 : decode cX10_checkIn 90 = .ok (.invokevirtual 102, 3) := by decide +kernel
theorem dX10_checkIn_93 : decode cX10_checkIn 93 = .ok (.aload_n 0, 1) := by decide +kernel
theorem dX10_checkIn_94 : decode cX10_checkIn 94 = .ok (.getfield 7, 3) := by decide +kernel
theorem dX10_checkIn_97 : decode cX10_checkIn 97 = .ok (.iconst 0, 1) := by decide +kernel
theorem dX10_checkIn_98 : decode cX10_checkIn 98 = .ok (.iaload, 1) := by decide +kernel
theorem dX10_checkIn_99 : decode cX10_checkIn 99 = .ok (.if_icmp .ne 7, 3) := by decide +kernel
theorem dX10_checkIn_102 : decode cX10_checkIn 102 = .ok (.iconst 1, 1) := by decide +kernel
theorem dX10_checkIn_103 : decode cX10_checkIn 103 = .ok (.goto 4, 3) := by decide +kernel
theorem dX10_checkIn_106 : decode cX10_checkIn 106 = .ok (.iconst 0, 1) := by decide +kernel
theorem dX10_checkIn_107 : decode cX10_checkIn 107 = .ok (.istore 4, 2) := by decide +kernel
theorem dX10_checkIn_109 : decode cX10_checkIn 109 = .ok (.iload 4, 2) := by decide +kernel
theorem dX10_checkIn_111 : decode cX10_checkIn 111 = .ok (.ifCond .eq 16, 3) := by decide +kernel
theorem dX10_checkIn_114 : decode cX10_checkIn 114 = .ok (.iload_n 3, 1) := by decide +kernel
theorem dX10_checkIn_115 : decode cX10_checkIn 115 = .ok (.iconst (-1), 1) := by decide +kernel
theorem dX10_checkIn_116 : decode cX10_checkIn 116 = .ok (.if_icmp .eq 11, 3) := by decide +kernel
theorem dX10_checkIn_119 : decode cX10_checkIn 119 = .ok (.aload_n 0, 1) := by decide +kernel
theorem dX10_checkIn_120 : decode cX10_checkIn 120 = .ok (.iload_n 3, 1) := by decide +kernel
theorem dX10_checkIn_121 : decode cX10_checkIn 121 = .ok (.invokevirtual 150, 3) := by decide +kernel
theorem dX10_checkIn_124 : decode cX10_checkIn 124 = .ok (.ifCond .ne 9, 3) := by decide +kernel
theorem dX10_checkIn_127 : decode cX10_checkIn 127 = .ok (.aload_n 0, 1) := by decide +kernel
theorem dX10_checkIn_128 : decode cX10_checkIn 128 = .ok (.iconst 3, 1) := by decide +kernel
theorem dX10_checkIn_129 : decode cX10_checkIn 129 = .ok (.invokevirtual 43, 3) := by decide +kernel
theorem dX10_checkIn_132 : decode cX10_checkIn 132 = .ok (.ireturn, 1) := by decide +kernel
theorem dX10_checkIn_133 : decode cX10_checkIn 133 = .ok (.aload_n 0, 1) := by decide +kernel
theorem dX10_checkIn_134 : decode cX10_checkIn 134 = .ok (.iload_n 1, 1) := by decide +kernel
theorem dX10_checkIn_135 : decode cX10_checkIn 135 = .ok (.iconst 4, 1) := by decide +kernel
theorem dX10_checkIn_136 : decode cX10_checkIn 136 = .ok (.iconst 1, 1) := by decide +kernel
theorem dX10_checkIn_137 : decode cX10_checkIn 137 = .ok (.invokevirtual 134, 3) := by decide +kernel
theorem dX10_checkIn_140 : decode cX10_checkIn 140 = .ok (.aload_n 0, 1) := by decide +kernel
theorem dX10_checkIn_141 : decode cX10_checkIn 141 = .ok (.iload_n 1, 1) := by decide +kernel
theorem dX10_checkIn_142 : decode cX10_checkIn 142 = .ok (.iconst 5, 1) := by decide +kernel
theorem dX10_checkIn_143 : decode cX10_checkIn 143 = .ok (.iload_n 3, 1) := by decide +kernel
theorem dX10_checkIn_144 : decode cX10_checkIn 144 = .ok (.invokevirtual 134, 3) := by decide +kernel
theorem dX10_checkIn_147 : decode cX10_checkIn 147 = .ok (.iload_n 3, 1) := by decide +kernel
theorem dX10_checkIn_148 : decode cX10_checkIn 148 = .ok (.ireturn, 1) := by decide +kernel
theorem dX10_move_0 : decode cX10_move 0 = .ok (.aload_n 0, 1) := by decide +kernel
theorem dX10_move_1 : decode cX10_move 1 = .ok (.iconst 0, 1) := by decide +kernel
theorem dX10_move_2 : decode cX10_move 2 = .ok (.putfield 36, 3) := by decide +kernel
theorem dX10_move_5 : decode cX10_move 5 = .ok (.aload_n 0, 1) := by decide +kernel
theorem dX10_move_6 : decode cX10_move 6 = .ok (.iload_n 1, 1) := by decide +kernel
theorem dX10_move_7 : decode cX10_move 7 = .ok (.invokevirtual 141, 3) := by decide +kernel
theorem dX10_move_10 : decode cX10_move 10 = .ok (.ifCond .eq 11, 3) := by decide +kernel
theorem dX10_move_13 : decode cX10_move 13 = .ok (.aload_n 0, 1) := by decide +kernel
theorem dX10_move_14 : decode cX10_move 14 = .ok (.iload_n 2, 1) := by decide +kernel
theorem dX10_move_15 : decode cX10_move 15 = .ok (.invokevirtual 65, 3) := by decide +kernel
theorem dX10_move_18 : decode cX10_move 18 = .ok (.ifCond .ne 9, 3) := by decide +kernel
theorem dX10_move_21 : decode cX10_move 21 = .ok (.aload_n 0, 1) := by decide +kernel
theorem dX10_move_22 : decode cX10_move 22 = .ok (.iconst 1, 1) := by decide +kernel
theorem dX10_move_23 : decode cX10_move 23 = .ok (.invokevirtual 43, 3) := by decide +kernel
theorem dX10_move_26 : decode cX10_move 26 = .ok (.ireturn, 1) := by decide +kernel
theorem dX10_move_27 : decode cX10_move 27 = .ok (.aload_n 0, 1) := by decide +kernel
theorem dX10_move_28 : decode cX10_move 28 = .ok (.iload_n 2, 1) := by decide +kernel
theorem dX10_move_29 : decode cX10_move 29 = .ok (.iconst 0, 1) := by decide +kernel
theorem dX10_move_30 : decode cX10_move 30 = .ok (.invokevirtual 68, 3) := by decide +kernel
theorem dX10_move_33 : decode cX10_move 33 = .ok (.aload_n 0, 1) := by decide +kernel
theorem dX10_move_34 : decode cX10_move 34 = .ok (.iload_n 1, 1) := by decide +kernel
theorem dX10_move_35 : decode cX10_move 35 = .ok (.iconst 0, 1) := by decide +kernel
theorem dX10_move_36 : decode cX10_move 36 = .ok (.invokevirtual 102, 3) := by decide +kernel
theorem dX10_move_39 : decode cX10_move 39 = .ok (.if_icmp .eq 9, 3) := by decide +kernel
theorem dX10_move_42 : decode cX10_move 42 = .ok (.aload_n 0, 1) := by decide +kernel
theorem dX10_move_43 : decode cX10_move 43 = .ok (.iconst 2, 1) := by decide +kernel
theorem dX10_move_44 : decode cX10_move 44 = .ok (.invokevirtual 43, 3) := by decide +kernel
theorem dX10_move_47 : decode cX10_move 47 = .ok (.ireturn, 1) := by decide +kernel
theorem dX10_move_48 : decode cX10_move 48 = .ok (.aload_n 0, 1) := by decide +kernel
theorem dX10_move_49 : decode cX10_move 49 = .ok (.iload_n 1, 1) := by decide +kernel
theorem dX10_move_50 : decode cX10_move 50 = .ok (.iconst 4, 1) := by decide +kernel
theorem dX10_move_51 : decode cX10_move 51 = .ok (.invokevirtual 102, 3) := by decide +kernel
theorem dX10_move_54 : decode cX10_move 54 = .ok (.iconst 1, 1) := by decide +kernel
theorem dX10_move_55 : decode cX10_move 55 = .ok (.if_icmp .ne 11, 3) := by decide +kernel
theorem dX10_move_58 : decode cX10_move 58 = .ok (.aload_n 0, 1) := by decide +kernel
theorem dX10_move_59 : decode cX10_move 59 = .ok (.iload_n 2, 1) := by decide +kernel
theorem dX10_move_60 : decode cX10_move 60 = .ok (.invokevirtual 150, 3) := by decide +kernel
theorem dX10_move_63 : decode cX10_move 63 = .ok (.ifCond .ne 9, 3) := by decide +kernel
theorem dX10_move_66 : decode cX10_move 66 = .ok (.aload_n 0, 1) := by decide +kernel
theorem dX10_move_67 : decode cX10_move 67 = .ok (.iconst 3, 1) := by decide +kernel
theorem dX10_move_68 : decode cX10_move 68 = .ok (.invokevirtual 43, 3) := by decide +kernel
theorem dX10_move_71 : decode cX10_move 71 = .ok (.ireturn, 1) := by decide +kernel
theorem dX10_move_72 : decode cX10_move 72 = .ok (.aload_n 0, 1) := by decide +kernel
theorem dX10_move_73 : decode cX10_move 73 = .ok (.iload_n 1, 1) := by decide +kernel
theorem dX10_move_74 : decode cX10_move 74 = .ok (.iconst 5, 1) := by decide +kernel
theorem dX10_move_75 : decode cX10_move 75 = .ok (.invokevirtual 102, 3) := by decide +kernel
theorem dX10_move_78 : decode cX10_move 78 = .ok (.istore_n 3, 1) := by decide +kernel
theorem dX10_move_79 : decode cX10_move 79 = .ok (.aload_n 0, 1) := by decide +kernel
theorem dX10_move_80 : decode cX10_move 80 = .ok (.iload_n 1, 1) := by decide +kernel
theorem dX10_move_81 : decode cX10_move 81 = .ok (.iconst 5, 1) := by decide +kernel
theorem dX10_move_82 : decode cX10_move 82 = .ok (.iload_n 2, 1) := by decide +kernel
theorem dX10_move_83 : decode cX10_move 83 = .ok (.invokevirtual 134, 3) := by decide +kernel
theorem dX10_move_86 : decode cX10_move 86 = .ok (.iload_n 3, 1) := by decide +kernel
theorem dX10_move_87 : decode cX10_move 87 = .ok (.ireturn, 1) := by decide +kernel
theorem dX10_departEarly_0 : decode cX10_departEarly 0 = .ok (.aload_n 0, 1) := by decide +kernel
theorem dX10_departEarly_1 : decode cX10_departEarly 1 = .ok (.iconst 0, 1) := by decide +kernel
theorem dX10_departEarly_2 : decode cX10_departEarly 2 = .ok (.putfield 36, 3) := by decide +kernel
theorem dX10_departEarly_5 : decode cX10_departEarly 5 = .ok (.aload_n 0, 1) := by decide +kernel
theorem dX10_departEarly_6 : decode cX10_departEarly 6 = .ok (.iload_n 1, 1) := by decide +kernel
theorem dX10_departEarly_7 : decode cX10_departEarly 7 = .ok (.invokevirtual 141, 3) := by decide +kernel
theorem dX10_departEarly_10 : decode cX10_departEarly 10 = .ok (.ifCond .ne 9, 3) := by decide +kernel
theorem dX10_departEarly_13 : decode cX10_departEarly 13 = .ok (.aload_n 0, 1) := by decide +kernel
theorem dX10_departEarly_14 : decode cX10_departEarly 14 = .ok (.iconst 1, 1) := by decide +kernel
theorem dX10_departEarly_15 : decode cX10_departEarly 15 = .ok (.invokevirtual 43, 3) := by decide +kernel
theorem dX10_departEarly_18 : decode cX10_departEarly 18 = .ok (.ireturn, 1) := by decide +kernel
theorem dX10_departEarly_19 : decode cX10_departEarly 19 = .ok (.aload_n 0, 1) := by decide +kernel
theorem dX10_departEarly_20 : decode cX10_departEarly 20 = .ok (.iload_n 1, 1) := by decide +kernel
theorem dX10_departEarly_21 : decode cX10_departEarly 21 = .ok (.iconst 4, 1) := by decide +kernel
theorem dX10_departEarly_22 : decode cX10_departEarly 22 = .ok (.invokevirtual 102, 3) := by decide +kernel
theorem dX10_departEarly_25 : decode cX10_departEarly 25 = .ok (.iconst 1, 1) := by decide +kernel
theorem dX10_departEarly_26 : decode cX10_departEarly 26 = .ok (.if_icmp .eq 9, 3) := by decide +kernel
theorem dX10_departEarly_29 : decode cX10_departEarly 29 = .ok (.aload_n 0, 1) := by decide +kernel
theorem dX10_departEarly_30 : decode cX10_departEarly 30 = .ok (.iconst 2, 1) := by decide +kernel
theorem dX10_departEarly_31 : decode cX10_departEarly 31 = .ok (.invokevirtual 43, 3) := by decide +kernel
theorem dX10_departEarly_34 : decode cX10_departEarly 34 = .ok (.ireturn, 1) := by decide +kernel
theorem dX10_departEarly_35 : decode cX10_departEarly 35 = .ok (.aload_n 0, 1) := by decide +kernel
theorem dX10_departEarly_36 : decode cX10_departEarly 36 = .ok (.getfield 7, 3) := by decide +kernel
theorem dX10_departEarly_39 : decode cX10_departEarly 39 = .ok (.iconst 0, 1) := by decide +kernel
theorem dX10_departEarly_40 : decode cX10_departEarly 40 = .ok (.iaload, 1) := by decide +kernel
theorem dX10_departEarly_41 : decode cX10_departEarly 41 = .ok (.istore_n 2, 1) := by decide +kernel
theorem dX10_departEarly_42 : decode cX10_departEarly 42 = .ok (.aload_n 0, 1) := by decide +kernel
theorem dX10_departEarly_43 : decode cX10_departEarly 43 = .ok (.aload_n 0, 1) := by decide +kernel
theorem dX10_departEarly_44 : decode cX10_departEarly 44 = .ok (.iload_n 1, 1) := by decide +kernel
theorem dX10_departEarly_45 : decode cX10_departEarly 45 = .ok (.iconst 0, 1) := by decide +kernel
theorem dX10_departEarly_46 : decode cX10_departEarly 46 = .ok (.invokevirtual 102, 3) := by decide +kernel
theorem dX10_departEarly_49 : decode cX10_departEarly 49 = .ok (.iload_n 2, 1) := by decide +kernel
theorem dX10_departEarly_50 : decode cX10_departEarly 50 = .ok (.iconst 1, 1) := by decide +kernel
theorem dX10_departEarly_51 : decode cX10_departEarly 51 = .ok (.iadd, 1) := by decide +kernel
theorem dX10_departEarly_52 : decode cX10_departEarly 52 = .ok (.aload_n 0, 1) := by decide +kernel
theorem dX10_departEarly_53 : decode cX10_departEarly 53 = .ok (.iload_n 1, 1) := by decide +kernel
theorem dX10_departEarly_54 : decode cX10_departEarly 54 = .ok (.iconst 2, 1) := by decide +kernel
theorem dX10_departEarly_55 : decode cX10_departEarly 55 = .ok (.invokevirtual 102, 3) := by decide +kernel
theorem dX10_departEarly_58 : decode cX10_departEarly 58 = .ok (.invokevirtual 131, 3) := by decide +kernel
theorem dX10_departEarly_61 : decode cX10_departEarly 61 = .ok (.iconst 2, 1) := by decide +kernel
theorem dX10_departEarly_62 : decode cX10_departEarly 62 = .ok (.idiv, 1) := by decide +kernel
theorem dX10_departEarly_63 : decode cX10_departEarly 63 = .ok (.istore_n 3, 1) := by decide +kernel
theorem dX10_departEarly_64 : decode cX10_departEarly 64 = .ok (.iload_n 3, 1) := by decide +kernel
theorem dX10_departEarly_65 : decode cX10_departEarly 65 = .ok (.aload_n 0, 1) := by decide +kernel
theorem dX10_departEarly_66 : decode cX10_departEarly 66 = .ok (.iload_n 1, 1) := by decide +kernel
theorem dX10_departEarly_67 : decode cX10_departEarly 67 = .ok (.iconst 3, 1) := by decide +kernel
theorem dX10_departEarly_68 : decode cX10_departEarly 68 = .ok (.invokevirtual 102, 3) := by decide +kernel
theorem dX10_departEarly_71 : decode cX10_departEarly 71 = .ok (.invokestatic 97, 3) := by decide +kernel
theorem dX10_departEarly_74 : decode cX10_departEarly 74 = .ok (.istore 4, 2) := by decide +kernel
theorem dX10_departEarly_76 : decode cX10_departEarly 76 = .ok (.aload_n 0, 1) := by decide +kernel
theorem dX10_departEarly_77 : decode cX10_departEarly 77 = .ok (.iload_n 1, 1) := by decide +kernel
theorem dX10_departEarly_78 : decode cX10_departEarly 78 = .ok (.iconst 2, 1) := by decide +kernel
theorem dX10_departEarly_79 : decode cX10_departEarly 79 = .ok (.aload_n 0, 1) := by decide +kernel
theorem dX10_departEarly_80 : decode cX10_departEarly 80 = .ok (.iload_n 1, 1) := by decide +kernel
theorem dX10_departEarly_81 : decode cX10_departEarly 81 = .ok (.iconst 1, 1) := by decide +kernel
theorem dX10_departEarly_82 : decode cX10_departEarly 82 = .ok (.invokevirtual 102, 3) := by decide +kernel
theorem dX10_departEarly_85 : decode cX10_departEarly 85 = .ok (.iload_n 2, 1) := by decide +kernel
theorem dX10_departEarly_86 : decode cX10_departEarly 86 = .ok (.if_icmp .ne 9, 3) := by decide +kernel
theorem dX10_departEarly_89 : decode cX10_departEarly 89 = .ok (.iload_n 2, 1) := by decide +kernel
theorem dX10_departEarly_90 : decode cX10_departEarly 90 = .ok (.iconst 1, 1) := by decide +kernel
theorem dX10_departEarly_91 : decode cX10_departEarly 91 = .ok (.iadd, 1) := by decide +kernel
theorem dX10_departEarly_92 : decode cX10_departEarly 92 = .ok (.goto 4, 3) := by decide +kernel
theorem dX10_departEarly_95 : decode cX10_departEarly 95 = .ok (.iload_n 2, 1) := by decide +kernel
theorem dX10_departEarly_96 : decode cX10_departEarly 96 = .ok (.invokevirtual 134, 3) := by decide +kernel
theorem dX10_departEarly_99 : decode cX10_departEarly 99 = .ok (.aload_n 0, 1) := by decide +kernel
theorem dX10_departEarly_100 : decode cX10_departEarly 100 = .ok (.iload_n 1, 1) := by decide +kernel
theorem dX10_departEarly_101 : decode cX10_departEarly 101 = .ok (.iconst 3, 1) := by decide +kernel
theorem dX10_departEarly_102 : decode cX10_departEarly 102 = .ok (.aload_n 0, 1) := by decide +kernel
theorem dX10_departEarly_103 : decode cX10_departEarly 103 = .ok (.iload_n 1, 1) := by decide +kernel
theorem dX10_departEarly_104 : decode cX10_departEarly 104 = .ok (.iconst 3, 1) := by decide +kernel
theorem dX10_departEarly_105 : decode cX10_departEarly 105 = .ok (.invokevirtual 102, 3) := by decide +kernel
theorem dX10_departEarly_108 : decode cX10_departEarly 108 = .ok (.iload 4, 2) := by decide +kernel
theorem dX10_departEarly_110 : decode cX10_departEarly 110 = .ok (.isub, 1) := by decide +kernel
theorem dX10_departEarly_111 : decode cX10_departEarly 111 = .ok (.invokevirtual 134, 3) := by decide +kernel
theorem dX10_departEarly_114 : decode cX10_departEarly 114 = .ok (.aload_n 0, 1) := by decide +kernel
theorem dX10_departEarly_115 : decode cX10_departEarly 115 = .ok (.iload_n 1, 1) := by decide +kernel
theorem dX10_departEarly_116 : decode cX10_departEarly 116 = .ok (.iconst 4, 1) := by decide +kernel
theorem dX10_departEarly_117 : decode cX10_departEarly 117 = .ok (.iconst 2, 1) := by decide +kernel
theorem dX10_departEarly_118 : decode cX10_departEarly 118 = .ok (.invokevirtual 134, 3) := by decide +kernel
theorem dX10_departEarly_121 : decode cX10_departEarly 121 = .ok (.iload 4, 2) := by decide +kernel
theorem dX10_departEarly_123 : decode cX10_departEarly 123 = .ok (.ireturn, 1) := by decide +kernel
theorem dX10_extend_0 : decode cX10_extend 0 = .ok (.aload_n 0, 1) := by decide +kernel
theorem dX10_extend_1 : decode cX10_extend 1 = .ok (.iconst 0, 1) := by decide +kernel
theorem dX10_extend_2 : decode cX10_extend 2 = .ok (.putfield 36, 3) := by decide +kernel
theorem dX10_extend_5 : decode cX10_extend 5 = .ok (.aload_n 0, 1) := by decide +kernel
theorem dX10_extend_6 : decode cX10_extend 6 = .ok (.iload_n 1, 1) := by decide +kernel
theorem dX10_extend_7 : decode cX10_extend 7 = .ok (.invokevirtual 141, 3) := by decide +kernel
theorem dX10_extend_10 : decode cX10_extend 10 = .ok (.ifCond .ne 9, 3) := by decide +kernel
theorem dX10_extend_13 : decode cX10_extend 13 = .ok (.aload_n 0, 1) := by decide +kernel
theorem dX10_extend_14 : decode cX10_extend 14 = .ok (.iconst 1, 1) := by decide +kernel
theorem dX10_extend_15 : decode cX10_extend 15 = .ok (.invokevirtual 43, 3) := by decide +kernel
theorem dX10_extend_18 : decode cX10_extend 18 = .ok (.ireturn, 1) := by decide +kernel
theorem dX10_extend_19 : decode cX10_extend 19 = .ok (.iload_n 2, 1) := by decide +kernel
theorem dX10_extend_20 : decode cX10_extend 20 = .ok (.invokestatic 125, 3) := by decide +kernel
theorem dX10_extend_23 : decode cX10_extend 23 = .ok (.ifCond .ne 9, 3) := by decide +kernel
theorem dX10_extend_26 : decode cX10_extend 26 = .ok (.aload_n 0, 1) := by decide +kernel
theorem dX10_extend_27 : decode cX10_extend 27 = .ok (.iconst 2, 1) := by decide +kernel
theorem dX10_extend_28 : decode cX10_extend 28 = .ok (.invokevirtual 43, 3) := by decide +kernel
theorem dX10_extend_31 : decode cX10_extend 31 = .ok (.ireturn, 1) := by decide +kernel
theorem dX10_extend_32 : decode cX10_extend 32 = .ok (.aload_n 0, 1) := by decide +kernel
theorem dX10_extend_33 : decode cX10_extend 33 = .ok (.iload_n 1, 1) := by decide +kernel
theorem dX10_extend_34 : decode cX10_extend 34 = .ok (.iconst 0, 1) := by decide +kernel
theorem dX10_extend_35 : decode cX10_extend 35 = .ok (.invokevirtual 102, 3) := by decide +kernel
theorem dX10_extend_38 : decode cX10_extend 38 = .ok (.istore_n 3, 1) := by decide +kernel
theorem dX10_extend_39 : decode cX10_extend 39 = .ok (.aload_n 0, 1) := by decide +kernel
theorem dX10_extend_40 : decode cX10_extend 40 = .ok (.iload_n 1, 1) := by decide +kernel
theorem dX10_extend_41 : decode cX10_extend 41 = .ok (.iconst 2, 1) := by decide +kernel
theorem dX10_extend_42 : decode cX10_extend 42 = .ok (.invokevirtual 102, 3) := by decide +kernel
theorem dX10_extend_45 : decode cX10_extend 45 = .ok (.istore 4, 2) := by decide +kernel
theorem dX10_extend_47 : decode cX10_extend 47 = .ok (.aload_n 0, 1) := by decide +kernel
theorem dX10_extend_48 : decode cX10_extend 48 = .ok (.iload_n 1, 1) := by decide +kernel
theorem dX10_extend_49 : decode cX10_extend 49 = .ok (.invokevirtual 105, 3) := by decide +kernel
theorem dX10_extend_52 : decode cX10_extend 52 = .ok (.ifCond .eq 14, 3) := by decide +kernel
theorem dX10_extend_55 : decode cX10_extend 55 = .ok (.aload_n 0, 1) := by decide +kernel
theorem dX10_extend_56 : decode cX10_extend 56 = .ok (.iload_n 3, 1) := by decide +kernel
theorem dX10_extend_57 : decode cX10_extend 57 = .ok (.iload 4, 2) := by decide +kernel
theorem dX10_extend_59 : decode cX10_extend 59 = .ok (.iload_n 2, 1) := by decide +kernel
theorem dX10_extend_60 : decode cX10_extend 60 = .ok (.invokevirtual 122, 3) := by decide +kernel
theorem dX10_extend_63 : decode cX10_extend 63 = .ok (.ifCond .eq 9, 3) := by decide +kernel
theorem dX10_extend_66 : decode cX10_extend 66 = .ok (.aload_n 0, 1) := by decide +kernel
theorem dX10_extend_67 : decode cX10_extend 67 = .ok (.iconst 3, 1) := by decide +kernel
theorem dX10_extend_68 : decode cX10_extend 68 = .ok (.invokevirtual 43, 3) := by decide +kernel
theorem dX10_extend_71 : decode cX10_extend 71 = .ok (.ireturn, 1) := by decide +kernel
theorem dX10_extend_72 : decode cX10_extend 72 = .ok (.aload_n 0, 1) := by decide +kernel
theorem dX10_extend_73 : decode cX10_extend 73 = .ok (.iload_n 3, 1) := by decide +kernel
theorem dX10_extend_74 : decode cX10_extend 74 = .ok (.iload 4, 2) := by decide +kernel
theorem dX10_extend_76 : decode cX10_extend 76 = .ok (.iload 4, 2) := by decide +kernel
theorem dX10_extend_78 : decode cX10_extend 78 = .ok (.iload_n 2, 1) := by decide +kernel
theorem dX10_extend_79 : decode cX10_extend 79 = .ok (.iadd, 1) := by decide +kernel
theorem dX10_extend_80 : decode cX10_extend 80 = .ok (.invokevirtual 131, 3) := by decide +kernel
theorem dX10_extend_83 : decode cX10_extend 83 = .ok (.istore 5, 2) := by decide +kernel
theorem dX10_extend_85 : decode cX10_extend 85 = .ok (.aload_n 0, 1) := by decide +kernel
theorem dX10_extend_86 : decode cX10_extend 86 = .ok (.iload_n 1, 1) := by decide +kernel
theorem dX10_extend_87 : decode cX10_extend 87 = .ok (.iconst 2, 1) := by decide +kernel
theorem dX10_extend_88 : decode cX10_extend 88 = .ok (.iload 4, 2) := by decide +kernel
theorem dX10_extend_90 : decode cX10_extend 90 = .ok (.iload_n 2, 1) := by decide +kernel
theorem dX10_extend_91 : decode cX10_extend 91 = .ok (.iadd, 1) := by decide +kernel
theorem dX10_extend_92 : decode cX10_extend 92 = .ok (.invokevirtual 134, 3) := by decide +kernel
theorem dX10_extend_95 : decode cX10_extend 95 = .ok (.aload_n 0, 1) := by decide +kernel
theorem dX10_extend_96 : decode cX10_extend 96 = .ok (.iload_n 1, 1) := by decide +kernel
theorem dX10_extend_97 : decode cX10_extend 97 = .ok (.iconst 3, 1) := by decide +kernel
theorem dX10_extend_98 : decode cX10_extend 98 = .ok (.aload_n 0, 1) := by decide +kernel
theorem dX10_extend_99 : decode cX10_extend 99 = .ok (.iload_n 1, 1) := by decide +kernel
theorem dX10_extend_100 : decode cX10_extend 100 = .ok (.iconst 3, 1) := by decide +kernel
theorem dX10_extend_101 : decode cX10_extend 101 = .ok (.invokevirtual 102, 3) := by decide +kernel
theorem dX10_extend_104 : decode cX10_extend 104 = .ok (.iload 5, 2) := by decide +kernel
theorem dX10_extend_106 : decode cX10_extend 106 = .ok (.iadd, 1) := by decide +kernel
theorem dX10_extend_107 : decode cX10_extend 107 = .ok (.invokevirtual 134, 3) := by decide +kernel
theorem dX10_extend_110 : decode cX10_extend 110 = .ok (.iload 5, 2) := by decide +kernel
theorem dX10_extend_112 : decode cX10_extend 112 = .ok (.ireturn, 1) := by decide +kernel
theorem dX10_endDay_0 : decode cX10_endDay 0 = .ok (.aload_n 0, 1) := by decide +kernel
theorem dX10_endDay_1 : decode cX10_endDay 1 = .ok (.getfield 7, 3) := by decide +kernel
theorem dX10_endDay_4 : decode cX10_endDay 4 = .ok (.iconst 0, 1) := by decide +kernel
theorem dX10_endDay_5 : decode cX10_endDay 5 = .ok (.iaload, 1) := by decide +kernel
theorem dX10_endDay_6 : decode cX10_endDay 6 = .ok (.istore_n 1, 1) := by decide +kernel
theorem dX10_endDay_7 : decode cX10_endDay 7 = .ok (.iconst 0, 1) := by decide +kernel
theorem dX10_endDay_8 : decode cX10_endDay 8 = .ok (.istore_n 2, 1) := by decide +kernel
theorem dX10_endDay_9 : decode cX10_endDay 9 = .ok (.iload_n 2, 1) := by decide +kernel
theorem dX10_endDay_10 : decode cX10_endDay 10 = .ok (.aload_n 0, 1) := by decide +kernel
theorem dX10_endDay_11 : decode cX10_endDay 11 = .ok (.getfield 7, 3) := by decide +kernel
theorem dX10_endDay_14 : decode cX10_endDay 14 = .ok (.iconst 4, 1) := by decide +kernel
theorem dX10_endDay_15 : decode cX10_endDay 15 = .ok (.iaload, 1) := by decide +kernel
theorem dX10_endDay_16 : decode cX10_endDay 16 = .ok (.if_icmp .ge 92, 3) := by decide +kernel
theorem dX10_endDay_19 : decode cX10_endDay 19 = .ok (.aload_n 0, 1) := by decide +kernel
theorem dX10_endDay_20 : decode cX10_endDay 20 = .ok (.iload_n 2, 1) := by decide +kernel
theorem dX10_endDay_21 : decode cX10_endDay 21 = .ok (.iconst 4, 1) := by decide +kernel
theorem dX10_endDay_22 : decode cX10_endDay 22 = .ok (.invokevirtual 102, 3) := by decide +kernel
theorem dX10_endDay_25 : decode cX10_endDay 25 = .ok (.ifCond .ne 17, 3) := by decide +kernel
theorem dX10_endDay_28 : decode cX10_endDay 28 = .ok (.aload_n 0, 1) := by decide +kernel
theorem dX10_endDay_29 : decode cX10_endDay 29 = .ok (.iload_n 2, 1) := by decide +kernel
theorem dX10_endDay_30 : decode cX10_endDay 30 = .ok (.iconst 1, 1) := by decide +kernel
theorem dX10_endDay_31 : decode cX10_endDay 31 = .ok (.invokevirtual 102, 3) := by decide +kernel
theorem dX10_endDay_34 : decode cX10_endDay 34 = .ok (.iload_n 1, 1) := by decide +kernel
theorem dX10_endDay_35 : decode cX10_endDay 35 = .ok (.if_icmp .gt 7, 3) := by decide +kernel
theorem dX10_endDay_38 : decode cX10_endDay 38 = .ok (.iconst 1, 1) := by decide +kernel
theorem dX10_endDay_39 : decode cX10_endDay 39 = .ok (.goto 4, 3) := by decide +kernel
theorem dX10_endDay_42 : decode cX10_endDay 42 = .ok (.iconst 0, 1) := by decide +kernel
theorem dX10_endDay_43 : decode cX10_endDay 43 = .ok (.istore_n 3, 1) := by decide +kernel
theorem dX10_endDay_44 : decode cX10_endDay 44 = .ok (.aload_n 0, 1) := by decide +kernel
theorem dX10_endDay_45 : decode cX10_endDay 45 = .ok (.iload_n 2, 1) := by decide +kernel
theorem dX10_endDay_46 : decode cX10_endDay 46 = .ok (.iconst 4, 1) := by decide +kernel
theorem dX10_endDay_47 : decode cX10_endDay 47 = .ok (.invokevirtual 102, 3) := by decide +kernel
theorem dX10_endDay_50 : decode cX10_endDay 50 = .ok (.iconst 1, 1) := by decide +kernel
theorem dX10_endDay_51 : decode cX10_endDay 51 = .ok (.if_icmp .ne 19, 3) := by decide +kernel
theorem dX10_endDay_54 : decode cX10_endDay 54 = .ok (.aload_n 0, 1) := by decide +kernel
theorem dX10_endDay_55 : decode cX10_endDay 55 = .ok (.iload_n 2, 1) := by decide +kernel
theorem dX10_endDay_56 : decode cX10_endDay 56 = .ok (.iconst 2, 1) := by decide +kernel
theorem dX10_endDay_57 : decode cX10_endDay 57 = .ok (.invokevirtual 102, 3) := by decide +kernel
theorem dX10_endDay_60 : decode cX10_endDay 60 = .ok (.iload_n 1, 1) := by decide +kernel
theorem dX10_endDay_61 : decode cX10_endDay 61 = .ok (.iconst 1, 1) := by decide +kernel
theorem dX10_endDay_62 : decode cX10_endDay 62 = .ok (.iadd, 1) := by decide +kernel
theorem dX10_endDay_63 : decode cX10_endDay 63 = .ok (.if_icmp .ne 7, 3) := by decide +kernel
theorem dX10_endDay_66 : decode cX10_endDay 66 = .ok (.iconst 1, 1) := by decide +kernel
theorem dX10_endDay_67 : decode cX10_endDay 67 = .ok (.goto 4, 3) := by decide +kernel
theorem dX10_endDay_70 : decode cX10_endDay 70 = .ok (.iconst 0, 1) := by decide +kernel
theorem dX10_endDay_71 : decode cX10_endDay 71 = .ok (.istore 4, 2) := by decide +kernel
theorem dX10_endDay_73 : decode cX10_endDay 73 = .ok (.aload_n 0, 1) := by decide +kernel
theorem dX10_endDay_74 : decode cX10_endDay 74 = .ok (.iload_n 2, 1) := by decide +kernel
theorem dX10_endDay_75 : decode cX10_endDay 75 = .ok (.iconst 4, 1) := by decide +kernel
theorem dX10_endDay_76 : decode cX10_endDay 76 = .ok (.iload_n 3, 1) := by decide +kernel
theorem dX10_endDay_77 : decode cX10_endDay 77 = .ok (.ifCond .eq 7, 3) := by decide +kernel
theorem dX10_endDay_80 : decode cX10_endDay 80 = .ok (.iconst 4, 1) := by decide +kernel
theorem dX10_endDay_81 : decode cX10_endDay 81 = .ok (.goto 18, 3) := by decide +kernel
theorem dX10_endDay_84 : decode cX10_endDay 84 = .ok (.iload 4, 2) := by decide +kernel
theorem dX10_endDay_86 : decode cX10_endDay 86 = .ok (.ifCond .eq 7, 3) := by decide +kernel
theorem dX10_endDay_89 : decode cX10_endDay 89 = .ok (.iconst 2, 1) := by decide +kernel
theorem dX10_endDay_90 : decode cX10_endDay 90 = .ok (.goto 9, 3) := by decide +kernel
theorem dX10_endDay_93 : decode cX10_endDay 93 = .ok (.aload_n 0, 1) := by decide +kernel
theorem dX10_endDay_94 : decode cX10_endDay 94 = .ok (.iload_n 2, 1) := by decide +kernel
theorem dX10_endDay_95 : decode cX10_endDay 95 = .ok (.iconst 4, 1) := by decide +kernel
theorem dX10_endDay_96 : decode cX10_endDay 96 = .ok (.invokevirtual 102, 3) := by decide +kernel
theorem dX10_endDay_99 : decode cX10_endDay 99 = .ok (.invokevirtual 134, 3) := by decide +kernel
theorem dX10_endDay_102 : decode cX10_endDay 102 = .ok (.iinc 2 1, 3) := by decide +kernel
theorem dX10_endDay_105 : decode cX10_endDay 105 = .ok (.goto (-96), 3) := by decide +kernel
theorem dX10_endDay_108 : decode cX10_endDay 108 = .ok (.iconst 0, 1) := by decide +kernel
theorem dX10_endDay_109 : decode cX10_endDay 109 = .ok (.istore_n 2, 1) := by decide +kernel
theorem dX10_endDay_110 : decode cX10_endDay 110 = .ok (.iload_n 2, 1) := by decide +kernel
theorem dX10_endDay_111 : decode cX10_endDay 111 = .ok (.aload_n 0, 1) := by decide +kernel
theorem dX10_endDay_112 : decode cX10_endDay 112 = .ok (.getfield 7, 3) := by decide +kernel
theorem dX10_endDay_115 : decode cX10_endDay 115 = .ok (.iconst 5, 1) := by decide +kernel
theorem dX10_endDay_116 : decode cX10_endDay 116 = .ok (.iaload, 1) := by decide +kernel
theorem dX10_endDay_117 : decode cX10_endDay 117 = .ok (.if_icmp .ge 54, 3) := by decide +kernel
theorem dX10_endDay_120 : decode cX10_endDay 120 = .ok (.aload_n 0, 1) := by decide +kernel
theorem dX10_endDay_121 : decode cX10_endDay 121 = .ok (.iload_n 2, 1) := by decide +kernel
theorem dX10_endDay_122 : decode cX10_endDay 122 = .ok (.iconst 3, 1) := by decide +kernel
theorem dX10_endDay_123 : decode cX10_endDay 123 = .ok (.invokevirtual 156, 3) := by decide +kernel
theorem dX10_endDay_126 : decode cX10_endDay 126 = .ok (.ifCond .ne 17, 3) := by decide +kernel
theorem dX10_endDay_129 : decode cX10_endDay 129 = .ok (.aload_n 0, 1) := by decide +kernel
theorem dX10_endDay_130 : decode cX10_endDay 130 = .ok (.iload_n 2, 1) := by decide +kernel
theorem dX10_endDay_131 : decode cX10_endDay 131 = .ok (.iconst 1, 1) := by decide +kernel
theorem dX10_endDay_132 : decode cX10_endDay 132 = .ok (.invokevirtual 156, 3) := by decide +kernel
theorem dX10_endDay_135 : decode cX10_endDay 135 = .ok (.iload_n 1, 1) := by decide +kernel
theorem dX10_endDay_136 : decode cX10_endDay 136 = .ok (.if_icmp .gt 7, 3) := by decide +kernel
theorem dX10_endDay_139 : decode cX10_endDay 139 = .ok (.iconst 1, 1) := by decide +kernel
theorem dX10_endDay_140 : decode cX10_endDay 140 = .ok (.goto 4, 3) := by decide +kernel
theorem dX10_endDay_143 : decode cX10_endDay 143 = .ok (.iconst 0, 1) := by decide +kernel
theorem dX10_endDay_144 : decode cX10_endDay 144 = .ok (.istore_n 3, 1) := by decide +kernel
theorem dX10_endDay_145 : decode cX10_endDay 145 = .ok (.aload_n 0, 1) := by decide +kernel
theorem dX10_endDay_146 : decode cX10_endDay 146 = .ok (.iload_n 2, 1) := by decide +kernel
theorem dX10_endDay_147 : decode cX10_endDay 147 = .ok (.iconst 3, 1) := by decide +kernel
theorem dX10_endDay_148 : decode cX10_endDay 148 = .ok (.iload_n 3, 1) := by decide +kernel
theorem dX10_endDay_149 : decode cX10_endDay 149 = .ok (.ifCond .eq 7, 3) := by decide +kernel
theorem dX10_endDay_152 : decode cX10_endDay 152 = .ok (.iconst 3, 1) := by decide +kernel
theorem dX10_endDay_153 : decode cX10_endDay 153 = .ok (.goto 9, 3) := by decide +kernel
theorem dX10_endDay_156 : decode cX10_endDay 156 = .ok (.aload_n 0, 1) := by decide +kernel
theorem dX10_endDay_157 : decode cX10_endDay 157 = .ok (.iload_n 2, 1) := by decide +kernel
theorem dX10_endDay_158 : decode cX10_endDay 158 = .ok (.iconst 3, 1) := by decide +kernel
theorem dX10_endDay_159 : decode cX10_endDay 159 = .ok (.invokevirtual 156, 3) := by decide +kernel
theorem dX10_endDay_162 : decode cX10_endDay 162 = .ok (.invokevirtual 159, 3) := by decide +kernel
theorem dX10_endDay_165 : decode cX10_endDay 165 = .ok (.iinc 2 1, 3) := by decide +kernel
theorem dX10_endDay_168 : decode cX10_endDay 168 = .ok (.goto (-58), 3) := by decide +kernel
theorem dX10_endDay_171 : decode cX10_endDay 171 = .ok (.aload_n 0, 1) := by decide +kernel
theorem dX10_endDay_172 : decode cX10_endDay 172 = .ok (.getfield 7, 3) := by decide +kernel
theorem dX10_endDay_175 : decode cX10_endDay 175 = .ok (.iconst 0, 1) := by decide +kernel
theorem dX10_endDay_176 : decode cX10_endDay 176 = .ok (.dup2, 1) := by decide +kernel
theorem dX10_endDay_177 : decode cX10_endDay 177 = .ok (.iaload, 1) := by decide +kernel
theorem dX10_endDay_178 : decode cX10_endDay 178 = .ok (.iconst 1, 1) := by decide +kernel
theorem dX10_endDay_179 : decode cX10_endDay 179 = .ok (.iadd, 1) := by decide +kernel
theorem dX10_endDay_180 : decode cX10_endDay 180 = .ok (.iastore, 1) := by decide +kernel
theorem dX10_endDay_181 : decode cX10_endDay 181 = .ok (.return_, 1) := by decide +kernel
theorem dX10_endDays_0 : decode cX10_endDays 0 = .ok (.aload_n 0, 1) := by decide +kernel
theorem dX10_endDays_1 : decode cX10_endDays 1 = .ok (.iconst 0, 1) := by decide +kernel
theorem dX10_endDays_2 : decode cX10_endDays 2 = .ok (.putfield 36, 3) := by decide +kernel
theorem dX10_endDays_5 : decode cX10_endDays 5 = .ok (.iload_n 1, 1) := by decide +kernel
theorem dX10_endDays_6 : decode cX10_endDays 6 = .ok (.iconst 1, 1) := by decide +kernel
theorem dX10_endDays_7 : decode cX10_endDays 7 = .ok (.bipush 60, 2) := by decide +kernel
theorem dX10_endDays_9 : decode cX10_endDays 9 = .ok (.invokestatic 39, 3) := by decide +kernel
theorem dX10_endDays_12 : decode cX10_endDays 12 = .ok (.ifCond .ne 9, 3) := by decide +kernel
theorem dX10_endDays_15 : decode cX10_endDays 15 = .ok (.aload_n 0, 1) := by decide +kernel
theorem dX10_endDays_16 : decode cX10_endDays 16 = .ok (.iconst 1, 1) := by decide +kernel
theorem dX10_endDays_17 : decode cX10_endDays 17 = .ok (.invokevirtual 43, 3) := by decide +kernel
theorem dX10_endDays_20 : decode cX10_endDays 20 = .ok (.ireturn, 1) := by decide +kernel
theorem dX10_endDays_21 : decode cX10_endDays 21 = .ok (.aload_n 0, 1) := by decide +kernel
theorem dX10_endDays_22 : decode cX10_endDays 22 = .ok (.getfield 7, 3) := by decide +kernel
theorem dX10_endDays_25 : decode cX10_endDays 25 = .ok (.iconst 0, 1) := by decide +kernel
theorem dX10_endDays_26 : decode cX10_endDays 26 = .ok (.iaload, 1) := by decide +kernel
theorem dX10_endDays_27 : decode cX10_endDays 27 = .ok (.iload_n 1, 1) := by decide +kernel
theorem dX10_endDays_28 : decode cX10_endDays 28 = .ok (.iadd, 1) := by decide +kernel
theorem dX10_endDays_29 : decode cX10_endDays 29 = .ok (.sipush 999, 3) := by decide +kernel
theorem dX10_endDays_32 : decode cX10_endDays 32 = .ok (.if_icmp .le 9, 3) := by decide +kernel
theorem dX10_endDays_35 : decode cX10_endDays 35 = .ok (.aload_n 0, 1) := by decide +kernel
theorem dX10_endDays_36 : decode cX10_endDays 36 = .ok (.iconst 2, 1) := by decide +kernel
theorem dX10_endDays_37 : decode cX10_endDays 37 = .ok (.invokevirtual 43, 3) := by decide +kernel
theorem dX10_endDays_40 : decode cX10_endDays 40 = .ok (.ireturn, 1) := by decide +kernel
theorem dX10_endDays_41 : decode cX10_endDays 41 = .ok (.iconst 0, 1) := by decide +kernel
theorem dX10_endDays_42 : decode cX10_endDays 42 = .ok (.istore_n 2, 1) := by decide +kernel
theorem dX10_endDays_43 : decode cX10_endDays 43 = .ok (.iload_n 2, 1) := by decide +kernel
theorem dX10_endDays_44 : decode cX10_endDays 44 = .ok (.iload_n 1, 1) := by decide +kernel
theorem dX10_endDays_45 : decode cX10_endDays 45 = .ok (.if_icmp .ge 13, 3) := by decide +kernel
theorem dX10_endDays_48 : decode cX10_endDays 48 = .ok (.aload_n 0, 1) := by decide +kernel
theorem dX10_endDays_49 : decode cX10_endDays 49 = .ok (.invokevirtual 162, 3) := by decide +kernel
theorem dX10_endDays_52 : decode cX10_endDays 52 = .ok (.iinc 2 1, 3) := by decide +kernel
theorem dX10_endDays_55 : decode cX10_endDays 55 = .ok (.goto (-12), 3) := by decide +kernel
theorem dX10_endDays_58 : decode cX10_endDays 58 = .ok (.aload_n 0, 1) := by decide +kernel
theorem dX10_endDays_59 : decode cX10_endDays 59 = .ok (.getfield 7, 3) := by decide +kernel
theorem dX10_endDays_62 : decode cX10_endDays 62 = .ok (.iconst 0, 1) := by decide +kernel
theorem dX10_endDays_63 : decode cX10_endDays 63 = .ok (.iaload, 1) := by decide +kernel
theorem dX10_endDays_64 : decode cX10_endDays 64 = .ok (.ireturn, 1) := by decide +kernel
theorem dX10_today_0 : decode cX10_today 0 = .ok (.aload_n 0, 1) := by decide +kernel
theorem dX10_today_1 : decode cX10_today 1 = .ok (.iconst 0, 1) := by decide +kernel
theorem dX10_today_2 : decode cX10_today 2 = .ok (.putfield 36, 3) := by decide +kernel
theorem dX10_today_5 : decode cX10_today 5 = .ok (.aload_n 0, 1) := by decide +kernel
theorem dX10_today_6 : decode cX10_today 6 = .ok (.getfield 7, 3) := by decide +kernel
theorem dX10_today_9 : decode cX10_today 9 = .ok (.iconst 0, 1) := by decide +kernel
theorem dX10_today_10 : decode cX10_today 10 = .ok (.iaload, 1) := by decide +kernel
theorem dX10_today_11 : decode cX10_today 11 = .ok (.ireturn, 1) := by decide +kernel
theorem dX10_hasSpareSite_0 : decode cX10_hasSpareSite 0 = .ok (.iconst 1, 1) := by decide +kernel
theorem dX10_hasSpareSite_1 : decode cX10_hasSpareSite 1 = .ok (.istore_n 3, 1) := by decide +kernel
theorem dX10_hasSpareSite_2 : decode cX10_hasSpareSite 2 = .ok (.aload_n 0, 1) := by decide +kernel
theorem dX10_hasSpareSite_3 : decode cX10_hasSpareSite 3 = .ok (.getfield 7, 3) := by decide +kernel
theorem dX10_hasSpareSite_6 : decode cX10_hasSpareSite 6 = .ok (.iconst 0, 1) := by decide +kernel
theorem dX10_hasSpareSite_7 : decode cX10_hasSpareSite 7 = .ok (.iaload, 1) := by decide +kernel
theorem dX10_hasSpareSite_8 : decode cX10_hasSpareSite 8 = .ok (.istore 4, 2) := by decide +kernel
theorem dX10_hasSpareSite_10 : decode cX10_hasSpareSite 10 = .ok (.iload 4, 2) := by decide +kernel
theorem dX10_hasSpareSite_12 : decode cX10_hasSpareSite 12 = .ok (.iload_n 2, 1) := by decide +kernel
theorem dX10_hasSpareSite_13 : decode cX10_hasSpareSite 13 = .ok (.if_icmp .ge 36, 3) := by decide +kernel
theorem dX10_hasSpareSite_16 : decode cX10_hasSpareSite 16 = .ok (.iload_n 3, 1) := by decide +kernel
theorem dX10_hasSpareSite_17 : decode cX10_hasSpareSite 17 = .ok (.ifCond .eq 24, 3) := by decide +kernel
theorem dX10_hasSpareSite_20 : decode cX10_hasSpareSite 20 = .ok (.aload_n 0, 1) := by decide +kernel
theorem dX10_hasSpareSite_21 : decode cX10_hasSpareSite 21 = .ok (.iload_n 1, 1) := by decide +kernel
theorem dX10_hasSpareSite_22 : decode cX10_hasSpareSite 22 = .ok (.iload 4, 2) := by decide +kernel
theorem dX10_hasSpareSite_24 : decode cX10_hasSpareSite 24 = .ok (.invokevirtual 94, 3) := by decide +kernel
theorem dX10_hasSpareSite_27 : decode cX10_hasSpareSite 27 = .ok (.aload_n 0, 1) := by decide +kernel
theorem dX10_hasSpareSite_28 : decode cX10_hasSpareSite 28 = .ok (.iload_n 1, 1) := by decide +kernel
theorem dX10_hasSpareSite_29 : decode cX10_hasSpareSite 29 = .ok (.iload 4, 2) := by decide +kernel
theorem dX10_hasSpareSite_31 : decode cX10_hasSpareSite 31 = .ok (.invokevirtual 111, 3) := by decide +kernel
theorem dX10_hasSpareSite_34 : decode cX10_hasSpareSite 34 = .ok (.if_icmp .le 7, 3) := by decide +kernel
theorem dX10_hasSpareSite_37 : decode cX10_hasSpareSite 37 = .ok (.iconst 1, 1) := by decide +kernel
theorem dX10_hasSpareSite_38 : decode cX10_hasSpareSite 38 = .ok (.goto 4, 3) := by decide +kernel
theorem dX10_hasSpareSite_41 : decode cX10_hasSpareSite 41 = .ok (.iconst 0, 1) := by decide +kernel
theorem dX10_hasSpareSite_42 : decode cX10_hasSpareSite 42 = .ok (.istore_n 3, 1) := by decide +kernel
theorem dX10_hasSpareSite_43 : decode cX10_hasSpareSite 43 = .ok (.iinc 4 1, 3) := by decide +kernel
theorem dX10_hasSpareSite_46 : decode cX10_hasSpareSite 46 = .ok (.goto (-36), 3) := by decide +kernel
theorem dX10_hasSpareSite_49 : decode cX10_hasSpareSite 49 = .ok (.iload_n 3, 1) := by decide +kernel
theorem dX10_hasSpareSite_50 : decode cX10_hasSpareSite 50 = .ok (.ireturn, 1) := by decide +kernel
theorem dX10_close_0 : decode cX10_close 0 = .ok (.aload_n 0, 1) := by decide +kernel
theorem dX10_close_1 : decode cX10_close 1 = .ok (.iconst 0, 1) := by decide +kernel
theorem dX10_close_2 : decode cX10_close 2 = .ok (.putfield 36, 3) := by decide +kernel
theorem dX10_close_5 : decode cX10_close 5 = .ok (.aload_n 0, 1) := by decide +kernel
theorem dX10_close_6 : decode cX10_close 6 = .ok (.iload_n 1, 1) := by decide +kernel
theorem dX10_close_7 : decode cX10_close 7 = .ok (.invokevirtual 65, 3) := by decide +kernel
theorem dX10_close_10 : decode cX10_close 10 = .ok (.ifCond .ne 11, 3) := by decide +kernel
theorem dX10_close_13 : decode cX10_close 13 = .ok (.aload_n 0, 1) := by decide +kernel
theorem dX10_close_14 : decode cX10_close 14 = .ok (.iconst 1, 1) := by decide +kernel
theorem dX10_close_15 : decode cX10_close 15 = .ok (.putfield 36, 3) := by decide +kernel
theorem dX10_close_18 : decode cX10_close 18 = .ok (.goto 73, 3) := by decide +kernel
theorem dX10_close_21 : decode cX10_close 21 = .ok (.iload_n 2, 1) := by decide +kernel
theorem dX10_close_22 : decode cX10_close 22 = .ok (.aload_n 0, 1) := by decide +kernel
theorem dX10_close_23 : decode cX10_close 23 = .ok (.getfield 7, 3) := by decide +kernel
theorem dX10_close_26 : decode cX10_close 26 = .ok (.iconst 0, 1) := by decide +kernel
theorem dX10_close_27 : decode cX10_close 27 = .ok (.iaload, 1) := by decide +kernel
theorem dX10_close_28 : decode cX10_close 28 = .ok (.iconst 1, 1) := by decide +kernel
theorem dX10_close_29 : decode cX10_close 29 = .ok (.iadd, 1) := by decide +kernel
theorem dX10_close_30 : decode cX10_close 30 = .ok (.sipush 999, 3) := by decide +kernel
theorem dX10_close_33 : decode cX10_close 33 = .ok (.invokestatic 39, 3) := by decide +kernel
theorem dX10_close_36 : decode cX10_close 36 = .ok (.ifCond .ne 11, 3) := by decide +kernel
theorem dX10_close_39 : decode cX10_close 39 = .ok (.aload_n 0, 1) := by decide +kernel
theorem dX10_close_40 : decode cX10_close 40 = .ok (.iconst 2, 1) := by decide +kernel
theorem dX10_close_41 : decode cX10_close 41 = .ok (.putfield 36, 3) := by decide +kernel
theorem dX10_close_44 : decode cX10_close 44 = .ok (.goto 47, 3) := by decide +kernel
theorem dX10_close_47 : decode cX10_close 47 = .ok (.aload_n 0, 1) := by decide +kernel
theorem dX10_close_48 : decode cX10_close 48 = .ok (.iload_n 1, 1) := by decide +kernel
theorem dX10_close_49 : decode cX10_close 49 = .ok (.invokevirtual 150, 3) := by decide +kernel
theorem dX10_close_52 : decode cX10_close 52 = .ok (.ifCond .eq 17, 3) := by decide +kernel
theorem dX10_close_55 : decode cX10_close 55 = .ok (.aload_n 0, 1) := by decide +kernel
theorem dX10_close_56 : decode cX10_close 56 = .ok (.aload_n 0, 1) := by decide +kernel
theorem dX10_close_57 : decode cX10_close 57 = .ok (.iload_n 1, 1) := by decide +kernel
theorem dX10_close_58 : decode cX10_close 58 = .ok (.iconst 0, 1) := by decide +kernel
theorem dX10_close_59 : decode cX10_close 59 = .ok (.invokevirtual 68, 3) := by decide +kernel
theorem dX10_close_62 : decode cX10_close 62 = .ok (.iload_n 2, 1) := by decide +kernel
theorem dX10_close_63 : decode cX10_close 63 = .ok (.invokevirtual 165, 3) := by decide +kernel
theorem dX10_close_66 : decode cX10_close 66 = .ok (.ifCond .ne 11, 3) := by decide +kernel
theorem dX10_close_69 : decode cX10_close 69 = .ok (.aload_n 0, 1) := by decide +kernel
theorem dX10_close_70 : decode cX10_close 70 = .ok (.iconst 3, 1) := by decide +kernel
theorem dX10_close_71 : decode cX10_close 71 = .ok (.putfield 36, 3) := by decide +kernel
theorem dX10_close_74 : decode cX10_close 74 = .ok (.goto 17, 3) := by decide +kernel
theorem dX10_close_77 : decode cX10_close 77 = .ok (.aload_n 0, 1) := by decide +kernel
theorem dX10_close_78 : decode cX10_close 78 = .ok (.getfield 7, 3) := by decide +kernel
theorem dX10_close_81 : decode cX10_close 81 = .ok (.bipush 20, 2) := by decide +kernel
theorem dX10_close_83 : decode cX10_close 83 = .ok (.iconst 2, 1) := by decide +kernel
theorem dX10_close_84 : decode cX10_close 84 = .ok (.iload_n 1, 1) := by decide +kernel
theorem dX10_close_85 : decode cX10_close 85 = .ok (.imul, 1) := by decide +kernel
theorem dX10_close_86 : decode cX10_close 86 = .ok (.iadd, 1) := by decide +kernel
theorem dX10_close_87 : decode cX10_close 87 = .ok (.iconst 1, 1) := by decide +kernel
theorem dX10_close_88 : decode cX10_close 88 = .ok (.iadd, 1) := by decide +kernel
theorem dX10_close_89 : decode cX10_close 89 = .ok (.iload_n 2, 1) := by decide +kernel
theorem dX10_close_90 : decode cX10_close 90 = .ok (.iastore, 1) := by decide +kernel
theorem dX10_close_91 : decode cX10_close 91 = .ok (.return_, 1) := by decide +kernel
theorem dX10_open_0 : decode cX10_open 0 = .ok (.aload_n 0, 1) := by decide +kernel
theorem dX10_open_1 : decode cX10_open 1 = .ok (.iconst 0, 1) := by decide +kernel
theorem dX10_open_2 : decode cX10_open 2 = .ok (.putfield 36, 3) := by decide +kernel
theorem dX10_open_5 : decode cX10_open 5 = .ok (.aload_n 0, 1) := by decide +kernel
theorem dX10_open_6 : decode cX10_open 6 = .ok (.iload_n 1, 1) := by decide +kernel
theorem dX10_open_7 : decode cX10_open 7 = .ok (.invokevirtual 65, 3) := by decide +kernel
theorem dX10_open_10 : decode cX10_open 10 = .ok (.ifCond .ne 9, 3) := by decide +kernel
theorem dX10_open_13 : decode cX10_open 13 = .ok (.aload_n 0, 1) := by decide +kernel
theorem dX10_open_14 : decode cX10_open 14 = .ok (.iconst 1, 1) := by decide +kernel
theorem dX10_open_15 : decode cX10_open 15 = .ok (.invokevirtual 43, 3) := by decide +kernel
theorem dX10_open_18 : decode cX10_open 18 = .ok (.ireturn, 1) := by decide +kernel
theorem dX10_open_19 : decode cX10_open 19 = .ok (.aload_n 0, 1) := by decide +kernel
theorem dX10_open_20 : decode cX10_open 20 = .ok (.iload_n 1, 1) := by decide +kernel
theorem dX10_open_21 : decode cX10_open 21 = .ok (.aload_n 0, 1) := by decide +kernel
theorem dX10_open_22 : decode cX10_open 22 = .ok (.getfield 7, 3) := by decide +kernel
theorem dX10_open_25 : decode cX10_open 25 = .ok (.iconst 0, 1) := by decide +kernel
theorem dX10_open_26 : decode cX10_open 26 = .ok (.iaload, 1) := by decide +kernel
theorem dX10_open_27 : decode cX10_open 27 = .ok (.invokevirtual 84, 3) := by decide +kernel
theorem dX10_open_30 : decode cX10_open 30 = .ok (.ifCond .eq 9, 3) := by decide +kernel
theorem dX10_open_33 : decode cX10_open 33 = .ok (.aload_n 0, 1) := by decide +kernel
theorem dX10_open_34 : decode cX10_open 34 = .ok (.iconst 2, 1) := by decide +kernel
theorem dX10_open_35 : decode cX10_open 35 = .ok (.invokevirtual 43, 3) := by decide +kernel
theorem dX10_open_38 : decode cX10_open 38 = .ok (.ireturn, 1) := by decide +kernel
theorem dX10_open_39 : decode cX10_open 39 = .ok (.aload_n 0, 1) := by decide +kernel
theorem dX10_open_40 : decode cX10_open 40 = .ok (.iload_n 1, 1) := by decide +kernel
theorem dX10_open_41 : decode cX10_open 41 = .ok (.iconst 1, 1) := by decide +kernel
theorem dX10_open_42 : decode cX10_open 42 = .ok (.invokevirtual 68, 3) := by decide +kernel
theorem dX10_open_45 : decode cX10_open 45 = .ok (.istore_n 2, 1) := by decide +kernel
theorem dX10_open_46 : decode cX10_open 46 = .ok (.aload_n 0, 1) := by decide +kernel
theorem dX10_open_47 : decode cX10_open 47 = .ok (.getfield 7, 3) := by decide +kernel
theorem dX10_open_50 : decode cX10_open 50 = .ok (.bipush 20, 2) := by decide +kernel
theorem dX10_open_52 : decode cX10_open 52 = .ok (.iconst 2, 1) := by decide +kernel
theorem dX10_open_53 : decode cX10_open 53 = .ok (.iload_n 1, 1) := by decide +kernel
theorem dX10_open_54 : decode cX10_open 54 = .ok (.imul, 1) := by decide +kernel
theorem dX10_open_55 : decode cX10_open 55 = .ok (.iadd, 1) := by decide +kernel
theorem dX10_open_56 : decode cX10_open 56 = .ok (.iconst 1, 1) := by decide +kernel
theorem dX10_open_57 : decode cX10_open 57 = .ok (.iadd, 1) := by decide +kernel
theorem dX10_open_58 : decode cX10_open 58 = .ok (.iconst 0, 1) := by decide +kernel
theorem dX10_open_59 : decode cX10_open 59 = .ok (.iastore, 1) := by decide +kernel
theorem dX10_open_60 : decode cX10_open 60 = .ok (.iload_n 2, 1) := by decide +kernel
theorem dX10_open_61 : decode cX10_open 61 = .ok (.ireturn, 1) := by decide +kernel
theorem dX10_appendRequest_0 : decode cX10_appendRequest 0 = .ok (.aload_n 0, 1) := by decide +kernel
theorem dX10_appendRequest_1 : decode cX10_appendRequest 1 = .ok (.getfield 7, 3) := by decide +kernel
theorem dX10_appendRequest_4 : decode cX10_appendRequest 4 = .ok (.iconst 5, 1) := by decide +kernel
theorem dX10_appendRequest_5 : decode cX10_appendRequest 5 = .ok (.iaload, 1) := by decide +kernel
theorem dX10_appendRequest_6 : decode cX10_appendRequest 6 = .ok (.istore 4, 2) := by decide +kernel
theorem dX10_appendRequest_8 : decode cX10_appendRequest 8 = .ok (.aload_n 0, 1) := by decide +kernel
theorem dX10_appendRequest_9 : decode cX10_appendRequest 9 = .ok (.iload 4, 2) := by decide +kernel
theorem dX10_appendRequest_11 : decode cX10_appendRequest 11 = .ok (.iconst 0, 1) := by decide +kernel
theorem dX10_appendRequest_12 : decode cX10_appendRequest 12 = .ok (.iload_n 1, 1) := by decide +kernel
theorem dX10_appendRequest_13 : decode cX10_appendRequest 13 = .ok (.invokevirtual 159, 3) := by decide +kernel
theorem dX10_appendRequest_16 : decode cX10_appendRequest 16 = .ok (.aload_n 0, 1) := by decide +kernel
theorem dX10_appendRequest_17 : decode cX10_appendRequest 17 = .ok (.iload 4, 2) := by decide +kernel
theorem dX10_appendRequest_19 : decode cX10_appendRequest 19 = .ok (.iconst 1, 1) := by decide +kernel
theorem dX10_appendRequest_20 : decode cX10_appendRequest 20 = .ok (.iload_n 2, 1) := by decide +kernel
theorem dX10_appendRequest_21 : decode cX10_appendRequest 21 = .ok (.invokevirtual 159, 3) := by decide +kernel
theorem dX10_appendRequest_24 : decode cX10_appendRequest 24 = .ok (.aload_n 0, 1) := by decide +kernel
theorem dX10_appendRequest_25 : decode cX10_appendRequest 25 = .ok (.iload 4, 2) := by decide +kernel
theorem dX10_appendRequest_27 : decode cX10_appendRequest 27 = .ok (.iconst 2, 1) := by decide +kernel
theorem dX10_appendRequest_28 : decode cX10_appendRequest 28 = .ok (.iload_n 3, 1) := by decide +kernel
theorem dX10_appendRequest_29 : decode cX10_appendRequest 29 = .ok (.invokevirtual 159, 3) := by decide +kernel
theorem dX10_appendRequest_32 : decode cX10_appendRequest 32 = .ok (.aload_n 0, 1) := by decide +kernel
theorem dX10_appendRequest_33 : decode cX10_appendRequest 33 = .ok (.iload 4, 2) := by decide +kernel
theorem dX10_appendRequest_35 : decode cX10_appendRequest 35 = .ok (.iconst 3, 1) := by decide +kernel
theorem dX10_appendRequest_36 : decode cX10_appendRequest 36 = .ok (.iconst 0, 1) := by decide +kernel
theorem dX10_appendRequest_37 : decode cX10_appendRequest 37 = .ok (.invokevirtual 159, 3) := by decide +kernel
theorem dX10_appendRequest_40 : decode cX10_appendRequest 40 = .ok (.aload_n 0, 1) := by decide +kernel
theorem dX10_appendRequest_41 : decode cX10_appendRequest 41 = .ok (.iload 4, 2) := by decide +kernel
theorem dX10_appendRequest_43 : decode cX10_appendRequest 43 = .ok (.iconst 4, 1) := by decide +kernel
theorem dX10_appendRequest_44 : decode cX10_appendRequest 44 = .ok (.iconst (-1), 1) := by decide +kernel
theorem dX10_appendRequest_45 : decode cX10_appendRequest 45 = .ok (.invokevirtual 159, 3) := by decide +kernel
theorem dX10_appendRequest_48 : decode cX10_appendRequest 48 = .ok (.aload_n 0, 1) := by decide +kernel
theorem dX10_appendRequest_49 : decode cX10_appendRequest 49 = .ok (.getfield 7, 3) := by decide +kernel
theorem dX10_appendRequest_52 : decode cX10_appendRequest 52 = .ok (.iconst 5, 1) := by decide +kernel
theorem dX10_appendRequest_53 : decode cX10_appendRequest 53 = .ok (.dup2, 1) := by decide +kernel
theorem dX10_appendRequest_54 : decode cX10_appendRequest 54 = .ok (.iaload, 1) := by decide +kernel
theorem dX10_appendRequest_55 : decode cX10_appendRequest 55 = .ok (.iconst 1, 1) := by decide +kernel
theorem dX10_appendRequest_56 : decode cX10_appendRequest 56 = .ok (.iadd, 1) := by decide +kernel
theorem dX10_appendRequest_57 : decode cX10_appendRequest 57 = .ok (.iastore, 1) := by decide +kernel
theorem dX10_appendRequest_58 : decode cX10_appendRequest 58 = .ok (.iload 4, 2) := by decide +kernel
theorem dX10_appendRequest_60 : decode cX10_appendRequest 60 = .ok (.ireturn, 1) := by decide +kernel
theorem dX10_request_0 : decode cX10_request 0 = .ok (.aload_n 0, 1) := by decide +kernel
theorem dX10_request_1 : decode cX10_request 1 = .ok (.iconst 0, 1) := by decide +kernel
theorem dX10_request_2 : decode cX10_request 2 = .ok (.putfield 36, 3) := by decide +kernel
theorem dX10_request_5 : decode cX10_request 5 = .ok (.aload_n 0, 1) := by decide +kernel
theorem dX10_request_6 : decode cX10_request 6 = .ok (.iload_n 1, 1) := by decide +kernel
theorem dX10_request_7 : decode cX10_request 7 = .ok (.invokevirtual 51, 3) := by decide +kernel
theorem dX10_request_10 : decode cX10_request 10 = .ok (.ifCond .ne 9, 3) := by decide +kernel
theorem dX10_request_13 : decode cX10_request 13 = .ok (.aload_n 0, 1) := by decide +kernel
theorem dX10_request_14 : decode cX10_request 14 = .ok (.iconst 1, 1) := by decide +kernel
theorem dX10_request_15 : decode cX10_request 15 = .ok (.invokevirtual 43, 3) := by decide +kernel
theorem dX10_request_18 : decode cX10_request 18 = .ok (.ireturn, 1) := by decide +kernel
theorem dX10_request_19 : decode cX10_request 19 = .ok (.aload_n 0, 1) := by decide +kernel
theorem dX10_request_20 : decode cX10_request 20 = .ok (.iload_n 2, 1) := by decide +kernel
theorem dX10_request_21 : decode cX10_request 21 = .ok (.invokevirtual 88, 3) := by decide +kernel
theorem dX10_request_24 : decode cX10_request 24 = .ok (.ifCond .eq 10, 3) := by decide +kernel
theorem dX10_request_27 : decode cX10_request 27 = .ok (.iload_n 3, 1) := by decide +kernel
theorem dX10_request_28 : decode cX10_request 28 = .ok (.invokestatic 125, 3) := by decide +kernel
theorem dX10_request_31 : decode cX10_request 31 = .ok (.ifCond .ne 9, 3) := by decide +kernel
theorem dX10_request_34 : decode cX10_request 34 = .ok (.aload_n 0, 1) := by decide +kernel
theorem dX10_request_35 : decode cX10_request 35 = .ok (.iconst 2, 1) := by decide +kernel
theorem dX10_request_36 : decode cX10_request 36 = .ok (.invokevirtual 43, 3) := by decide +kernel
theorem dX10_request_39 : decode cX10_request 39 = .ok (.ireturn, 1) := by decide +kernel
theorem dX10_request_40 : decode cX10_request 40 = .ok (.aload_n 0, 1) := by decide +kernel
theorem dX10_request_41 : decode cX10_request 41 = .ok (.getfield 7, 3) := by decide +kernel
theorem dX10_request_44 : decode cX10_request 44 = .ok (.iconst 5, 1) := by decide +kernel
theorem dX10_request_45 : decode cX10_request 45 = .ok (.iaload, 1) := by decide +kernel
theorem dX10_request_46 : decode cX10_request 46 = .ok (.bipush 20, 2) := by decide +kernel
theorem dX10_request_48 : decode cX10_request 48 = .ok (.if_icmp .ne 11, 3) := by decide +kernel
theorem dX10_request_51 : decode cX10_request 51 = .ok (.aload_n 0, 1) := by decide +kernel
theorem dX10_request_52 : decode cX10_request 52 = .ok (.iconst 3, 1) := by decide +kernel
theorem dX10_request_53 : decode cX10_request 53 = .ok (.invokevirtual 43, 3) := by decide +kernel
theorem dX10_request_56 : decode cX10_request 56 = .ok (.goto 10, 3) := by decide +kernel
theorem dX10_request_59 : decode cX10_request 59 = .ok (.aload_n 0, 1) := by decide +kernel
theorem dX10_request_60 : decode cX10_request 60 = .ok (.iload_n 1, 1) := by decide +kernel
theorem dX10_request_61 : decode cX10_request 61 = .ok (.iload_n 2, 1) := by decide +kernel
theorem dX10_request_62 : decode cX10_request 62 = .ok (.iload_n 3, 1) := by decide +kernel
theorem dX10_request_63 : decode cX10_request 63 = .ok (.invokevirtual 168, 3) := by decide +kernel
theorem dX10_request_66 : decode cX10_request 66 = .ok (.ireturn, 1) := by decide +kernel
theorem dX10_requestState_0 : decode cX10_requestState 0 = .ok (.aload_n 0, 1) := by decide +kernel
theorem dX10_requestState_1 : decode cX10_requestState 1 = .ok (.iconst 0, 1) := by decide +kernel
theorem dX10_requestState_2 : decode cX10_requestState 2 = .ok (.putfield 36, 3) := by decide +kernel
theorem dX10_requestState_5 : decode cX10_requestState 5 = .ok (.aload_n 0, 1) := by decide +kernel
theorem dX10_requestState_6 : decode cX10_requestState 6 = .ok (.iload_n 1, 1) := by decide +kernel
theorem dX10_requestState_7 : decode cX10_requestState 7 = .ok (.invokevirtual 171, 3) := by decide +kernel
theorem dX10_requestState_10 : decode cX10_requestState 10 = .ok (.ifCond .eq 12, 3) := by decide +kernel
theorem dX10_requestState_13 : decode cX10_requestState 13 = .ok (.aload_n 0, 1) := by decide +kernel
theorem dX10_requestState_14 : decode cX10_requestState 14 = .ok (.iload_n 1, 1) := by decide +kernel
theorem dX10_requestState_15 : decode cX10_requestState 15 = .ok (.iconst 3, 1) := by decide +kernel
theorem dX10_requestState_16 : decode cX10_requestState 16 = .ok (.invokevirtual 156, 3) := by decide +kernel
theorem dX10_requestState_19 : decode cX10_requestState 19 = .ok (.goto 8, 3) := by decide +kernel
theorem dX10_requestState_22 : decode cX10_requestState 22 = .ok (.aload_n 0, 1) := by decide +kernel
theorem dX10_requestState_23 : decode cX10_requestState 23 = .ok (.iconst 1, 1) := by decide +kernel
theorem dX10_requestState_24 : decode cX10_requestState 24 = .ok (.invokevirtual 43, 3) := by decide +kernel
theorem dX10_requestState_27 : decode cX10_requestState 27 = .ok (.ireturn, 1) := by decide +kernel
theorem dX10_bookingOf_0 : decode cX10_bookingOf 0 = .ok (.aload_n 0, 1) := by decide +kernel
theorem dX10_bookingOf_1 : decode cX10_bookingOf 1 = .ok (.iconst 0, 1) := by decide +kernel
theorem dX10_bookingOf_2 : decode cX10_bookingOf 2 = .ok (.putfield 36, 3) := by decide +kernel
theorem dX10_bookingOf_5 : decode cX10_bookingOf 5 = .ok (.aload_n 0, 1) := by decide +kernel
theorem dX10_bookingOf_6 : decode cX10_bookingOf 6 = .ok (.iload_n 1, 1) := by decide +kernel
theorem dX10_bookingOf_7 : decode cX10_bookingOf 7 = .ok (.invokevirtual 171, 3) := by decide +kernel
theorem dX10_bookingOf_10 : decode cX10_bookingOf 10 = .ok (.ifCond .eq 12, 3) := by decide +kernel
theorem dX10_bookingOf_13 : decode cX10_bookingOf 13 = .ok (.aload_n 0, 1) := by decide +kernel
theorem dX10_bookingOf_14 : decode cX10_bookingOf 14 = .ok (.iload_n 1, 1) := by decide +kernel
theorem dX10_bookingOf_15 : decode cX10_bookingOf 15 = .ok (.iconst 4, 1) := by decide +kernel
theorem dX10_bookingOf_16 : decode cX10_bookingOf 16 = .ok (.invokevirtual 156, 3) := by decide +kernel
theorem dX10_bookingOf_19 : decode cX10_bookingOf 19 = .ok (.goto 8, 3) := by decide +kernel
theorem dX10_bookingOf_22 : decode cX10_bookingOf 22 = .ok (.aload_n 0, 1) := by decide +kernel
theorem dX10_bookingOf_23 : decode cX10_bookingOf 23 = .ok (.iconst 1, 1) := by decide +kernel
theorem dX10_bookingOf_24 : decode cX10_bookingOf 24 = .ok (.invokevirtual 43, 3) := by decide +kernel
theorem dX10_bookingOf_27 : decode cX10_bookingOf 27 = .ok (.ireturn, 1) := by decide +kernel
theorem dX10_withdraw_0 : decode cX10_withdraw 0 = .ok (.aload_n 0, 1) := by decide +kernel
theorem dX10_withdraw_1 : decode cX10_withdraw 1 = .ok (.aload_n 0, 1) := by decide +kernel
theorem dX10_withdraw_2 : decode cX10_withdraw 2 = .ok (.iload_n 1, 1) := by decide +kernel
theorem dX10_withdraw_3 : decode cX10_withdraw 3 = .ok (.invokevirtual 171, 3) := by decide +kernel
theorem dX10_withdraw_6 : decode cX10_withdraw 6 = .ok (.ifCond .ne 7, 3) := by decide +kernel
theorem dX10_withdraw_9 : decode cX10_withdraw 9 = .ok (.iconst 1, 1) := by decide +kernel
theorem dX10_withdraw_10 : decode cX10_withdraw 10 = .ok (.goto 17, 3) := by decide +kernel
theorem dX10_withdraw_13 : decode cX10_withdraw 13 = .ok (.aload_n 0, 1) := by decide +kernel
theorem dX10_withdraw_14 : decode cX10_withdraw 14 = .ok (.iload_n 1, 1) := by decide +kernel
theorem dX10_withdraw_15 : decode cX10_withdraw 15 = .ok (.iconst 3, 1) := by decide +kernel
theorem dX10_withdraw_16 : decode cX10_withdraw 16 = .ok (.invokevirtual 156, 3) := by decide +kernel
theorem dX10_withdraw_19 : decode cX10_withdraw 19 = .ok (.ifCond .eq 7, 3) := by decide +kernel
theorem dX10_withdraw_22 : decode cX10_withdraw 22 = .ok (.iconst 2, 1) := by decide +kernel
theorem dX10_withdraw_23 : decode cX10_withdraw 23 = .ok (.goto 4, 3) := by decide +kernel
theorem dX10_withdraw_26 : decode cX10_withdraw 26 = .ok (.iconst 0, 1) := by decide +kernel
theorem dX10_withdraw_27 : decode cX10_withdraw 27 = .ok (.putfield 36, 3) := by decide +kernel
theorem dX10_withdraw_30 : decode cX10_withdraw 30 = .ok (.aload_n 0, 1) := by decide +kernel
theorem dX10_withdraw_31 : decode cX10_withdraw 31 = .ok (.getfield 36, 3) := by decide +kernel
theorem dX10_withdraw_34 : decode cX10_withdraw 34 = .ok (.ifCond .ne 10, 3) := by decide +kernel
theorem dX10_withdraw_37 : decode cX10_withdraw 37 = .ok (.aload_n 0, 1) := by decide +kernel
theorem dX10_withdraw_38 : decode cX10_withdraw 38 = .ok (.iload_n 1, 1) := by decide +kernel
theorem dX10_withdraw_39 : decode cX10_withdraw 39 = .ok (.iconst 3, 1) := by decide +kernel
theorem dX10_withdraw_40 : decode cX10_withdraw 40 = .ok (.iconst 2, 1) := by decide +kernel
theorem dX10_withdraw_41 : decode cX10_withdraw 41 = .ok (.invokevirtual 159, 3) := by decide +kernel
theorem dX10_withdraw_44 : decode cX10_withdraw 44 = .ok (.return_, 1) := by decide +kernel
theorem dX10_isAhead_0 : decode cX10_isAhead 0 = .ok (.aload_n 0, 1) := by decide +kernel
theorem dX10_isAhead_1 : decode cX10_isAhead 1 = .ok (.iload_n 1, 1) := by decide +kernel
theorem dX10_isAhead_2 : decode cX10_isAhead 2 = .ok (.iconst 2, 1) := by decide +kernel
theorem dX10_isAhead_3 : decode cX10_isAhead 3 = .ok (.invokevirtual 156, 3) := by decide +kernel
theorem dX10_isAhead_6 : decode cX10_isAhead 6 = .ok (.aload_n 0, 1) := by decide +kernel
theorem dX10_isAhead_7 : decode cX10_isAhead 7 = .ok (.iload_n 2, 1) := by decide +kernel
theorem dX10_isAhead_8 : decode cX10_isAhead 8 = .ok (.iconst 2, 1) := by decide +kernel
theorem dX10_isAhead_9 : decode cX10_isAhead 9 = .ok (.invokevirtual 156, 3) := by decide +kernel
theorem dX10_isAhead_12 : decode cX10_isAhead 12 = .ok (.if_icmp .eq 24, 3) := by decide +kernel
theorem dX10_isAhead_15 : decode cX10_isAhead 15 = .ok (.aload_n 0, 1) := by decide +kernel
theorem dX10_isAhead_16 : decode cX10_isAhead 16 = .ok (.iload_n 1, 1) := by decide +kernel
theorem dX10_isAhead_17 : decode cX10_isAhead 17 = .ok (.iconst 2, 1) := by decide +kernel
theorem dX10_isAhead_18 : decode cX10_isAhead 18 = .ok (.invokevirtual 156, 3) := by decide +kernel
theorem dX10_isAhead_21 : decode cX10_isAhead 21 = .ok (.aload_n 0, 1) := by decide +kernel
theorem dX10_isAhead_22 : decode cX10_isAhead 22 = .ok (.iload_n 2, 1) := by decide +kernel
theorem dX10_isAhead_23 : decode cX10_isAhead 23 = .ok (.iconst 2, 1) := by decide +kernel
theorem dX10_isAhead_24 : decode cX10_isAhead 24 = .ok (.invokevirtual 156, 3) := by decide +kernel
theorem dX10_isAhead_27 : decode cX10_isAhead 27 = .ok (.if_icmp .le 7, 3) := by decide +kernel
theorem dX10_isAhead_30 : decode cX10_isAhead 30 = .ok (.iconst 1, 1) := by decide +kernel
theorem dX10_isAhead_31 : decode cX10_isAhead 31 = .ok (.goto 4, 3) := by decide +kernel
theorem dX10_isAhead_34 : decode cX10_isAhead 34 = .ok (.iconst 0, 1) := by decide +kernel
theorem dX10_isAhead_35 : decode cX10_isAhead 35 = .ok (.ireturn, 1) := by decide +kernel
theorem dX10_isAhead_36 : decode cX10_isAhead 36 = .ok (.aload_n 0, 1) := by decide +kernel
theorem dX10_isAhead_37 : decode cX10_isAhead 37 = .ok (.iload_n 1, 1) := by decide +kernel
theorem dX10_isAhead_38 : decode cX10_isAhead 38 = .ok (.iconst 1, 1) := by decide +kernel
theorem dX10_isAhead_39 : decode cX10_isAhead 39 = .ok (.invokevirtual 156, 3) := by decide +kernel
theorem dX10_isAhead_42 : decode cX10_isAhead 42 = .ok (.aload_n 0, 1) := by decide +kernel
theorem dX10_isAhead_43 : decode cX10_isAhead 43 = .ok (.iload_n 2, 1) := by decide +kernel
theorem dX10_isAhead_44 : decode cX10_isAhead 44 = .ok (.iconst 1, 1) := by decide +kernel
theorem dX10_isAhead_45 : decode cX10_isAhead 45 = .ok (.invokevirtual 156, 3) := by decide +kernel
theorem dX10_isAhead_48 : decode cX10_isAhead 48 = .ok (.if_icmp .ge 7, 3) := by decide +kernel
theorem dX10_isAhead_51 : decode cX10_isAhead 51 = .ok (.iconst 1, 1) := by decide +kernel
theorem dX10_isAhead_52 : decode cX10_isAhead 52 = .ok (.goto 4, 3) := by decide +kernel
theorem dX10_isAhead_55 : decode cX10_isAhead 55 = .ok (.iconst 0, 1) := by decide +kernel
theorem dX10_isAhead_56 : decode cX10_isAhead 56 = .ok (.ireturn, 1) := by decide +kernel
theorem dX10_nextRequest_0 : decode cX10_nextRequest 0 = .ok (.iconst (-1), 1) := by decide +kernel
theorem dX10_nextRequest_1 : decode cX10_nextRequest 1 = .ok (.istore_n 2, 1) := by decide +kernel
theorem dX10_nextRequest_2 : decode cX10_nextRequest 2 = .ok (.iconst 0, 1) := by decide +kernel
theorem dX10_nextRequest_3 : decode cX10_nextRequest 3 = .ok (.istore_n 3, 1) := by decide +kernel
theorem dX10_nextRequest_4 : decode cX10_nextRequest 4 = .ok (.iload_n 3, 1) := by decide +kernel
theorem dX10_nextRequest_5 : decode cX10_nextRequest 5 = .ok (.aload_n 0, 1) := by decide +kernel
theorem dX10_nextRequest_6 : decode cX10_nextRequest 6 = .ok (.getfield 7, 3) := by decide +kernel
theorem dX10_nextRequest_9 : decode cX10_nextRequest 9 = .ok (.iconst 5, 1) := by decide +kernel
theorem dX10_nextRequest_10 : decode cX10_nextRequest 10 = .ok (.iaload, 1) := by decide +kernel
theorem dX10_nextRequest_11 : decode cX10_nextRequest 11 = .ok (.if_icmp .ge 76, 3) := by decide +kernel
theorem dX10_nextRequest_14 : decode cX10_nextRequest 14 = .ok (.aload_n 0, 1) := by decide +kernel
theorem dX10_nextRequest_15 : decode cX10_nextRequest 15 = .ok (.iload_n 3, 1) := by decide +kernel
theorem dX10_nextRequest_16 : decode cX10_nextRequest 16 = .ok (.iconst 0, 1) := by decide +kernel
theorem dX10_nextRequest_17 : decode cX10_nextRequest 17 = .ok (.invokevirtual 156, 3) := by decide +kernel
theorem dX10_nextRequest_20 : decode cX10_nextRequest 20 = .ok (.iload_n 1, 1) := by decide +kernel
theorem dX10_nextRequest_21 : decode cX10_nextRequest 21 = .ok (.if_icmp .ne 16, 3) := by decide +kernel
theorem dX10_nextRequest_24 : decode cX10_nextRequest 24 = .ok (.aload_n 0, 1) := by decide +kernel
theorem dX10_nextRequest_25 : decode cX10_nextRequest 25 = .ok (.iload_n 3, 1) := by decide +kernel
theorem dX10_nextRequest_26 : decode cX10_nextRequest 26 = .ok (.iconst 3, 1) := by decide +kernel
theorem dX10_nextRequest_27 : decode cX10_nextRequest 27 = .ok (.invokevirtual 156, 3) := by decide +kernel
theorem dX10_nextRequest_30 : decode cX10_nextRequest 30 = .ok (.ifCond .ne 7, 3) := by decide +kernel
theorem dX10_nextRequest_33 : decode cX10_nextRequest 33 = .ok (.iconst 1, 1) := by decide +kernel
theorem dX10_nextRequest_34 : decode cX10_nextRequest 34 = .ok (.goto 4, 3) := by decide +kernel
theorem dX10_nextRequest_37 : decode cX10_nextRequest 37 = .ok (.iconst 0, 1) := by decide +kernel
theorem dX10_nextRequest_38 : decode cX10_nextRequest 38 = .ok (.istore 4, 2) := by decide +kernel
theorem dX10_nextRequest_40 : decode cX10_nextRequest 40 = .ok (.iload 4, 2) := by decide +kernel
theorem dX10_nextRequest_42 : decode cX10_nextRequest 42 = .ok (.ifCond .eq 39, 3) := by decide +kernel
theorem dX10_nextRequest_45 : decode cX10_nextRequest 45 = .ok (.iload_n 2, 1) := by decide +kernel
theorem dX10_nextRequest_46 : decode cX10_nextRequest 46 = .ok (.iconst (-1), 1) := by decide +kernel
theorem dX10_nextRequest_47 : decode cX10_nextRequest 47 = .ok (.if_icmp .eq 12, 3) := by decide +kernel
theorem dX10_nextRequest_50 : decode cX10_nextRequest 50 = .ok (.aload_n 0, 1) := by decide +kernel
theorem dX10_nextRequest_51 : decode cX10_nextRequest 51 = .ok (.iload_n 3, 1) := by decide +kernel
theorem dX10_nextRequest_52 : decode cX10_nextRequest 52 = .ok (.iload_n 2, 1) := by decide +kernel
theorem dX10_nextRequest_53 : decode cX10_nextRequest 53 = .ok (.invokevirtual 174, 3) := by decide +kernel
theorem dX10_nextRequest_56 : decode cX10_nextRequest 56 = .ok (.ifCond .eq 25, 3) := by decide +kernel
theorem dX10_nextRequest_59 : decode cX10_nextRequest 59 = .ok (.aload_n 0, 1) := by decide +kernel
theorem dX10_nextRequest_60 : decode cX10_nextRequest 60 = .ok (.iload_n 1, 1) := by decide +kernel
theorem dX10_nextRequest_61 : decode cX10_nextRequest 61 = .ok (.aload_n 0, 1) := by decide +kernel
theorem dX10_nextRequest_62 : decode cX10_nextRequest 62 = .ok (.iload_n 3, 1) := by decide +kernel
theorem dX10_nextRequest_63 : decode cX10_nextRequest 63 = .ok (.iconst 1, 1) := by decide +kernel
theorem dX10_nextRequest_64 : decode cX10_nextRequest 64 = .ok (.invokevirtual 156, 3) := by decide +kernel
theorem dX10_nextRequest_67 : decode cX10_nextRequest 67 = .ok (.aload_n 0, 1) := by decide +kernel
theorem dX10_nextRequest_68 : decode cX10_nextRequest 68 = .ok (.iload_n 3, 1) := by decide +kernel
theorem dX10_nextRequest_69 : decode cX10_nextRequest 69 = .ok (.iconst 2, 1) := by decide +kernel
theorem dX10_nextRequest_70 : decode cX10_nextRequest 70 = .ok (.invokevirtual 156, 3) := by decide +kernel
theorem dX10_nextRequest_73 : decode cX10_nextRequest 73 = .ok (.invokevirtual 128, 3) := by decide +kernel
theorem dX10_nextRequest_76 : decode cX10_nextRequest 76 = .ok (.ifCond .ne 5, 3) := by decide +kernel
theorem dX10_nextRequest_79 : decode cX10_nextRequest 79 = .ok (.iload_n 3, 1) := by decide +kernel
theorem dX10_nextRequest_80 : decode cX10_nextRequest 80 = .ok (.istore_n 2, 1) := by decide +kernel
theorem dX10_nextRequest_81 : decode cX10_nextRequest 81 = .ok (.iinc 3 1, 3) := by decide +kernel
theorem dX10_nextRequest_84 : decode cX10_nextRequest 84 = .ok (.goto (-80), 3) := by decide +kernel
theorem dX10_nextRequest_87 : decode cX10_nextRequest 87 = .ok (.iload_n 2, 1) := by decide +kernel
theorem dX10_nextRequest_88 : decode cX10_nextRequest 88 = .ok (.ireturn, 1) := by decide +kernel
theorem dX10_fill_0 : decode cX10_fill 0 = .ok (.aload_n 0, 1) := by decide +kernel
theorem dX10_fill_1 : decode cX10_fill 1 = .ok (.iconst 0, 1) := by decide +kernel
theorem dX10_fill_2 : decode cX10_fill 2 = .ok (.putfield 36, 3) := by decide +kernel
theorem dX10_fill_5 : decode cX10_fill 5 = .ok (.aload_n 0, 1) := by decide +kernel
theorem dX10_fill_6 : decode cX10_fill 6 = .ok (.iload_n 1, 1) := by decide +kernel
theorem dX10_fill_7 : decode cX10_fill 7 = .ok (.invokevirtual 51, 3) := by decide +kernel
theorem dX10_fill_10 : decode cX10_fill 10 = .ok (.ifCond .ne 9, 3) := by decide +kernel
theorem dX10_fill_13 : decode cX10_fill 13 = .ok (.aload_n 0, 1) := by decide +kernel
theorem dX10_fill_14 : decode cX10_fill 14 = .ok (.iconst 1, 1) := by decide +kernel
theorem dX10_fill_15 : decode cX10_fill 15 = .ok (.invokevirtual 43, 3) := by decide +kernel
theorem dX10_fill_18 : decode cX10_fill 18 = .ok (.ireturn, 1) := by decide +kernel
theorem dX10_fill_19 : decode cX10_fill 19 = .ok (.iconst 0, 1) := by decide +kernel
theorem dX10_fill_20 : decode cX10_fill 20 = .ok (.istore_n 2, 1) := by decide +kernel
theorem dX10_fill_21 : decode cX10_fill 21 = .ok (.aload_n 0, 1) := by decide +kernel
theorem dX10_fill_22 : decode cX10_fill 22 = .ok (.iload_n 1, 1) := by decide +kernel
theorem dX10_fill_23 : decode cX10_fill 23 = .ok (.invokevirtual 177, 3) := by decide +kernel
theorem dX10_fill_26 : decode cX10_fill 26 = .ok (.istore_n 3, 1) := by decide +kernel
theorem dX10_fill_27 : decode cX10_fill 27 = .ok (.iload_n 3, 1) := by decide +kernel
theorem dX10_fill_28 : decode cX10_fill 28 = .ok (.iconst (-1), 1) := by decide +kernel
theorem dX10_fill_29 : decode cX10_fill 29 = .ok (.if_icmp .eq 60, 3) := by decide +kernel
theorem dX10_fill_32 : decode cX10_fill 32 = .ok (.aload_n 0, 1) := by decide +kernel
theorem dX10_fill_33 : decode cX10_fill 33 = .ok (.getfield 7, 3) := by decide +kernel
theorem dX10_fill_36 : decode cX10_fill 36 = .ok (.iconst 4, 1) := by decide +kernel
theorem dX10_fill_37 : decode cX10_fill 37 = .ok (.iaload, 1) := by decide +kernel
theorem dX10_fill_38 : decode cX10_fill 38 = .ok (.bipush 60, 2) := by decide +kernel
theorem dX10_fill_40 : decode cX10_fill 40 = .ok (.if_icmp .ge 49, 3) := by decide +kernel
theorem dX10_fill_43 : decode cX10_fill 43 = .ok (.aload_n 0, 1) := by decide +kernel
theorem dX10_fill_44 : decode cX10_fill 44 = .ok (.iload_n 1, 1) := by decide +kernel
theorem dX10_fill_45 : decode cX10_fill 45 = .ok (.aload_n 0, 1) := by decide +kernel
theorem dX10_fill_46 : decode cX10_fill 46 = .ok (.iload_n 3, 1) := by decide +kernel
theorem dX10_fill_47 : decode cX10_fill 47 = .ok (.iconst 1, 1) := by decide +kernel
theorem dX10_fill_48 : decode cX10_fill 48 = .ok (.invokevirtual 156, 3) := by decide +kernel
theorem dX10_fill_51 : decode cX10_fill 51 = .ok (.aload_n 0, 1) := by decide +kernel
theorem dX10_fill_52 : decode cX10_fill 52 = .ok (.iload_n 3, 1) := by decide +kernel
theorem dX10_fill_53 : decode cX10_fill 53 = .ok (.iconst 2, 1) := by decide +kernel
theorem dX10_fill_54 : decode cX10_fill 54 = .ok (.invokevirtual 156, 3) := by decide +kernel
theorem dX10_fill_57 : decode cX10_fill 57 = .ok (.invokevirtual 138, 3) := by decide +kernel
theorem dX10_fill_60 : decode cX10_fill 60 = .ok (.istore 4, 2) := by decide +kernel
theorem dX10_fill_62 : decode cX10_fill 62 = .ok (.aload_n 0, 1) := by decide +kernel
theorem dX10_fill_63 : decode cX10_fill 63 = .ok (.iload_n 3, 1) := by decide +kernel
theorem dX10_fill_64 : decode cX10_fill 64 = .ok (.iconst 3, 1) := by decide +kernel
theorem dX10_fill_65 : decode cX10_fill 65 = .ok (.iconst 1, 1) := by decide +kernel
theorem dX10_fill_66 : decode cX10_fill 66 = .ok (.invokevirtual 159, 3) := by decide +kernel
theorem dX10_fill_69 : decode cX10_fill 69 = .ok (.aload_n 0, 1) := by decide +kernel
theorem dX10_fill_70 : decode cX10_fill 70 = .ok (.iload_n 3, 1) := by decide +kernel
theorem dX10_fill_71 : decode cX10_fill 71 = .ok (.iconst 4, 1) := by decide +kernel
theorem dX10_fill_72 : decode cX10_fill 72 = .ok (.iload 4, 2) := by decide +kernel
theorem dX10_fill_74 : decode cX10_fill 74 = .ok (.invokevirtual 159, 3) := by decide +kernel
theorem dX10_fill_77 : decode cX10_fill 77 = .ok (.iinc 2 1, 3) := by decide +kernel
theorem dX10_fill_80 : decode cX10_fill 80 = .ok (.aload_n 0, 1) := by decide +kernel
theorem dX10_fill_81 : decode cX10_fill 81 = .ok (.iload_n 1, 1) := by decide +kernel
theorem dX10_fill_82 : decode cX10_fill 82 = .ok (.invokevirtual 177, 3) := by decide +kernel
theorem dX10_fill_85 : decode cX10_fill 85 = .ok (.istore_n 3, 1) := by decide +kernel
theorem dX10_fill_86 : decode cX10_fill 86 = .ok (.goto (-59), 3) := by decide +kernel
theorem dX10_fill_89 : decode cX10_fill 89 = .ok (.iload_n 2, 1) := by decide +kernel
theorem dX10_fill_90 : decode cX10_fill 90 = .ok (.ireturn, 1) := by decide +kernel
theorem dX10_place_0 : decode cX10_place 0 = .ok (.aload_n 0, 1) := by decide +kernel
theorem dX10_place_1 : decode cX10_place 1 = .ok (.iload_n 1, 1) := by decide +kernel
theorem dX10_place_2 : decode cX10_place 2 = .ok (.iconst 0, 1) := by decide +kernel
theorem dX10_place_3 : decode cX10_place 3 = .ok (.invokevirtual 102, 3) := by decide +kernel
theorem dX10_place_6 : decode cX10_place 6 = .ok (.istore_n 3, 1) := by decide +kernel
theorem dX10_place_7 : decode cX10_place 7 = .ok (.aload_n 0, 1) := by decide +kernel
theorem dX10_place_8 : decode cX10_place 8 = .ok (.getfield 26, 3) := by decide +kernel
theorem dX10_place_11 : decode cX10_place 11 = .ok (.iload_n 2, 1) := by decide +kernel
theorem dX10_place_12 : decode cX10_place 12 = .ok (.iaload, 1) := by decide +kernel
theorem dX10_place_13 : decode cX10_place 13 = .ok (.iconst (-1), 1) := by decide +kernel
theorem dX10_place_14 : decode cX10_place 14 = .ok (.if_icmp .eq 60, 3) := by decide +kernel
theorem dX10_place_17 : decode cX10_place 17 = .ok (.aload_n 0, 1) := by decide +kernel
theorem dX10_place_18 : decode cX10_place 18 = .ok (.iload_n 1, 1) := by decide +kernel
theorem dX10_place_19 : decode cX10_place 19 = .ok (.iconst 1, 1) := by decide +kernel
theorem dX10_place_20 : decode cX10_place 20 = .ok (.invokevirtual 102, 3) := by decide +kernel
theorem dX10_place_23 : decode cX10_place 23 = .ok (.aload_n 0, 1) := by decide +kernel
theorem dX10_place_24 : decode cX10_place 24 = .ok (.getfield 26, 3) := by decide +kernel
theorem dX10_place_27 : decode cX10_place 27 = .ok (.iload_n 2, 1) := by decide +kernel
theorem dX10_place_28 : decode cX10_place 28 = .ok (.iaload, 1) := by decide +kernel
theorem dX10_place_29 : decode cX10_place 29 = .ok (.isub, 1) := by decide +kernel
theorem dX10_place_30 : decode cX10_place 30 = .ok (.istore 4, 2) := by decide +kernel
theorem dX10_place_32 : decode cX10_place 32 = .ok (.aload_n 0, 1) := by decide +kernel
theorem dX10_place_33 : decode cX10_place 33 = .ok (.dup, 1) := by decide +kernel
theorem dX10_place_34 : decode cX10_place 34 = .ok (.getfield 180, 3) := by decide +kernel
theorem dX10_place_37 : decode cX10_place 37 = .ok (.iload 4, 2) := by decide +kernel
theorem dX10_place_39 : decode cX10_place 39 = .ok (.iadd, 1) := by decide +kernel
theorem dX10_place_40 : decode cX10_place 40 = .ok (.putfield 180, 3) := by decide +kernel
theorem dX10_place_43 : decode cX10_place 43 = .ok (.aload_n 0, 1) := by decide +kernel
theorem dX10_place_44 : decode cX10_place 44 = .ok (.dup, 1) := by decide +kernel
theorem dX10_place_45 : decode cX10_place 45 = .ok (.getfield 183, 3) := by decide +kernel
theorem dX10_place_48 : decode cX10_place 48 = .ok (.iload 4, 2) := by decide +kernel
theorem dX10_place_50 : decode cX10_place 50 = .ok (.aload_n 0, 1) := by decide +kernel
theorem dX10_place_51 : decode cX10_place 51 = .ok (.iload_n 3, 1) := by decide +kernel
theorem dX10_place_52 : decode cX10_place 52 = .ok (.aload_n 0, 1) := by decide +kernel
theorem dX10_place_53 : decode cX10_place 53 = .ok (.getfield 26, 3) := by decide +kernel
theorem dX10_place_56 : decode cX10_place 56 = .ok (.iload_n 2, 1) := by decide +kernel
theorem dX10_place_57 : decode cX10_place 57 = .ok (.iaload, 1) := by decide +kernel
theorem dX10_place_58 : decode cX10_place 58 = .ok (.invokevirtual 81, 3) := by decide +kernel
theorem dX10_place_61 : decode cX10_place 61 = .ok (.if_icmp .ge 8, 3) := by decide +kernel
theorem dX10_place_64 : decode cX10_place 64 = .ok (.iload 4, 2) := by decide +kernel
theorem dX10_place_66 : decode cX10_place 66 = .ok (.goto 4, 3) := by decide +kernel
theorem dX10_place_69 : decode cX10_place 69 = .ok (.iconst 0, 1) := by decide +kernel
theorem dX10_place_70 : decode cX10_place 70 = .ok (.iadd, 1) := by decide +kernel
theorem dX10_place_71 : decode cX10_place 71 = .ok (.putfield 183, 3) := by decide +kernel
theorem dX10_place_74 : decode cX10_place 74 = .ok (.aload_n 0, 1) := by decide +kernel
theorem dX10_place_75 : decode cX10_place 75 = .ok (.getfield 26, 3) := by decide +kernel
theorem dX10_place_78 : decode cX10_place 78 = .ok (.iload_n 2, 1) := by decide +kernel
theorem dX10_place_79 : decode cX10_place 79 = .ok (.aload_n 0, 1) := by decide +kernel
theorem dX10_place_80 : decode cX10_place 80 = .ok (.iload_n 1, 1) := by decide +kernel
theorem dX10_place_81 : decode cX10_place 81 = .ok (.iconst 2, 1) := by decide +kernel
theorem dX10_place_82 : decode cX10_place 82 = .ok (.invokevirtual 102, 3) := by decide +kernel
theorem dX10_place_85 : decode cX10_place 85 = .ok (.iastore, 1) := by decide +kernel
theorem dX10_place_86 : decode cX10_place 86 = .ok (.aload_n 0, 1) := by decide +kernel
theorem dX10_place_87 : decode cX10_place 87 = .ok (.getfield 23, 3) := by decide +kernel
theorem dX10_place_90 : decode cX10_place 90 = .ok (.iload_n 1, 1) := by decide +kernel
theorem dX10_place_91 : decode cX10_place 91 = .ok (.iload_n 2, 1) := by decide +kernel
theorem dX10_place_92 : decode cX10_place 92 = .ok (.iastore, 1) := by decide +kernel
theorem dX10_place_93 : decode cX10_place 93 = .ok (.return_, 1) := by decide +kernel
theorem dX10_freeSite_0 : decode cX10_freeSite 0 = .ok (.iconst (-1), 1) := by decide +kernel
theorem dX10_freeSite_1 : decode cX10_freeSite 1 = .ok (.istore_n 3, 1) := by decide +kernel
theorem dX10_freeSite_2 : decode cX10_freeSite 2 = .ok (.aload_n 0, 1) := by decide +kernel
theorem dX10_freeSite_3 : decode cX10_freeSite 3 = .ok (.iload_n 1, 1) := by decide +kernel
theorem dX10_freeSite_4 : decode cX10_freeSite 4 = .ok (.iconst 1, 1) := by decide +kernel
theorem dX10_freeSite_5 : decode cX10_freeSite 5 = .ok (.invokevirtual 102, 3) := by decide +kernel
theorem dX10_freeSite_8 : decode cX10_freeSite 8 = .ok (.istore 4, 2) := by decide +kernel
theorem dX10_freeSite_10 : decode cX10_freeSite 10 = .ok (.iconst 0, 1) := by decide +kernel
theorem dX10_freeSite_11 : decode cX10_freeSite 11 = .ok (.istore 5, 2) := by decide +kernel
theorem dX10_freeSite_13 : decode cX10_freeSite 13 = .ok (.iload 5, 2) := by decide +kernel
theorem dX10_freeSite_15 : decode cX10_freeSite 15 = .ok (.aload_n 0, 1) := by decide +kernel
theorem dX10_freeSite_16 : decode cX10_freeSite 16 = .ok (.getfield 7, 3) := by decide +kernel
theorem dX10_freeSite_19 : decode cX10_freeSite 19 = .ok (.iconst 2, 1) := by decide +kernel
theorem dX10_freeSite_20 : decode cX10_freeSite 20 = .ok (.iaload, 1) := by decide +kernel
theorem dX10_freeSite_21 : decode cX10_freeSite 21 = .ok (.if_icmp .ge 89, 3) := by decide +kernel
theorem dX10_freeSite_24 : decode cX10_freeSite 24 = .ok (.aload_n 0, 1) := by decide +kernel
theorem dX10_freeSite_25 : decode cX10_freeSite 25 = .ok (.iload 5, 2) := by decide +kernel
theorem dX10_freeSite_27 : decode cX10_freeSite 27 = .ok (.iconst 0, 1) := by decide +kernel
theorem dX10_freeSite_28 : decode cX10_freeSite 28 = .ok (.invokevirtual 68, 3) := by decide +kernel
theorem dX10_freeSite_31 : decode cX10_freeSite 31 = .ok (.aload_n 0, 1) := by decide +kernel
theorem dX10_freeSite_32 : decode cX10_freeSite 32 = .ok (.iload_n 1, 1) := by decide +kernel
theorem dX10_freeSite_33 : decode cX10_freeSite 33 = .ok (.iconst 0, 1) := by decide +kernel
theorem dX10_freeSite_34 : decode cX10_freeSite 34 = .ok (.invokevirtual 102, 3) := by decide +kernel
theorem dX10_freeSite_37 : decode cX10_freeSite 37 = .ok (.if_icmp .ne 30, 3) := by decide +kernel
theorem dX10_freeSite_40 : decode cX10_freeSite 40 = .ok (.aload_n 0, 1) := by decide +kernel
theorem dX10_freeSite_41 : decode cX10_freeSite 41 = .ok (.iload 5, 2) := by decide +kernel
theorem dX10_freeSite_43 : decode cX10_freeSite 43 = .ok (.iload 4, 2) := by decide +kernel
theorem dX10_freeSite_45 : decode cX10_freeSite 45 = .ok (.invokevirtual 84, 3) := by decide +kernel
theorem dX10_freeSite_48 : decode cX10_freeSite 48 = .ok (.ifCond .eq 19, 3) := by decide +kernel
theorem dX10_freeSite_51 : decode cX10_freeSite 51 = .ok (.aload_n 0, 1) := by decide +kernel
theorem dX10_freeSite_52 : decode cX10_freeSite 52 = .ok (.getfield 26, 3) := by decide +kernel
theorem dX10_freeSite_55 : decode cX10_freeSite 55 = .ok (.iload 5, 2) := by decide +kernel
theorem dX10_freeSite_57 : decode cX10_freeSite 57 = .ok (.iaload, 1) := by decide +kernel
theorem dX10_freeSite_58 : decode cX10_freeSite 58 = .ok (.iload 4, 2) := by decide +kernel
theorem dX10_freeSite_60 : decode cX10_freeSite 60 = .ok (.if_icmp .gt 7, 3) := by decide +kernel
theorem dX10_freeSite_63 : decode cX10_freeSite 63 = .ok (.iconst 1, 1) := by decide +kernel
theorem dX10_freeSite_64 : decode cX10_freeSite 64 = .ok (.goto 4, 3) := by decide +kernel
theorem dX10_freeSite_67 : decode cX10_freeSite 67 = .ok (.iconst 0, 1) := by decide +kernel
theorem dX10_freeSite_68 : decode cX10_freeSite 68 = .ok (.istore 6, 2) := by decide +kernel
theorem dX10_freeSite_70 : decode cX10_freeSite 70 = .ok (.iload 6, 2) := by decide +kernel
theorem dX10_freeSite_72 : decode cX10_freeSite 72 = .ok (.ifCond .eq 32, 3) := by decide +kernel
theorem dX10_freeSite_75 : decode cX10_freeSite 75 = .ok (.iload_n 3, 1) := by decide +kernel
theorem dX10_freeSite_76 : decode cX10_freeSite 76 = .ok (.iconst (-1), 1) := by decide +kernel
theorem dX10_freeSite_77 : decode cX10_freeSite 77 = .ok (.if_icmp .eq 24, 3) := by decide +kernel
theorem dX10_freeSite_80 : decode cX10_freeSite 80 = .ok (.iload_n 2, 1) := by decide +kernel
theorem dX10_freeSite_81 : decode cX10_freeSite 81 = .ok (.iconst 1, 1) := by decide +kernel
theorem dX10_freeSite_82 : decode cX10_freeSite 82 = .ok (.if_icmp .ne 22, 3) := by decide +kernel
theorem dX10_freeSite_85 : decode cX10_freeSite 85 = .ok (.aload_n 0, 1) := by decide +kernel
theorem dX10_freeSite_86 : decode cX10_freeSite 86 = .ok (.getfield 26, 3) := by decide +kernel
theorem dX10_freeSite_89 : decode cX10_freeSite 89 = .ok (.iload 5, 2) := by decide +kernel
theorem dX10_freeSite_91 : decode cX10_freeSite 91 = .ok (.iaload, 1) := by decide +kernel
theorem dX10_freeSite_92 : decode cX10_freeSite 92 = .ok (.aload_n 0, 1) := by decide +kernel
theorem dX10_freeSite_93 : decode cX10_freeSite 93 = .ok (.getfield 26, 3) := by decide +kernel
theorem dX10_freeSite_96 : decode cX10_freeSite 96 = .ok (.iload_n 3, 1) := by decide +kernel
theorem dX10_freeSite_97 : decode cX10_freeSite 97 = .ok (.iaload, 1) := by decide +kernel
theorem dX10_freeSite_98 : decode cX10_freeSite 98 = .ok (.if_icmp .le 6, 3) := by decide +kernel
theorem dX10_freeSite_101 : decode cX10_freeSite 101 = .ok (.iload 5, 2) := by decide +kernel
theorem dX10_freeSite_103 : decode cX10_freeSite 103 = .ok (.istore_n 3, 1) := by decide +kernel
theorem dX10_freeSite_104 : decode cX10_freeSite 104 = .ok (.iinc 5 1, 3) := by decide +kernel
theorem dX10_freeSite_107 : decode cX10_freeSite 107 = .ok (.goto (-94), 3) := by decide +kernel
theorem dX10_freeSite_110 : decode cX10_freeSite 110 = .ok (.iload_n 3, 1) := by decide +kernel
theorem dX10_freeSite_111 : decode cX10_freeSite 111 = .ok (.ireturn, 1) := by decide +kernel
theorem dX10_nextBooking_0 : decode cX10_nextBooking 0 = .ok (.iconst (-1), 1) := by decide +kernel
theorem dX10_nextBooking_1 : decode cX10_nextBooking 1 = .ok (.istore_n 2, 1) := by decide +kernel
theorem dX10_nextBooking_2 : decode cX10_nextBooking 2 = .ok (.iconst 0, 1) := by decide +kernel
theorem dX10_nextBooking_3 : decode cX10_nextBooking 3 = .ok (.istore_n 3, 1) := by decide +kernel
theorem dX10_nextBooking_4 : decode cX10_nextBooking 4 = .ok (.iload_n 3, 1) := by decide +kernel
theorem dX10_nextBooking_5 : decode cX10_nextBooking 5 = .ok (.aload_n 0, 1) := by decide +kernel
theorem dX10_nextBooking_6 : decode cX10_nextBooking 6 = .ok (.getfield 7, 3) := by decide +kernel
theorem dX10_nextBooking_9 : decode cX10_nextBooking 9 = .ok (.iconst 4, 1) := by decide +kernel
theorem dX10_nextBooking_10 : decode cX10_nextBooking 10 = .ok (.iaload, 1) := by decide +kernel
theorem dX10_nextBooking_11 : decode cX10_nextBooking 11 = .ok (.if_icmp .ge 72, 3) := by decide +kernel
theorem dX10_nextBooking_14 : decode cX10_nextBooking 14 = .ok (.aload_n 0, 1) := by decide +kernel
theorem dX10_nextBooking_15 : decode cX10_nextBooking 15 = .ok (.iload_n 3, 1) := by decide +kernel
theorem dX10_nextBooking_16 : decode cX10_nextBooking 16 = .ok (.iconst 4, 1) := by decide +kernel
theorem dX10_nextBooking_17 : decode cX10_nextBooking 17 = .ok (.invokevirtual 102, 3) := by decide +kernel
theorem dX10_nextBooking_20 : decode cX10_nextBooking 20 = .ok (.ifCond .ne 27, 3) := by decide +kernel
theorem dX10_nextBooking_23 : decode cX10_nextBooking 23 = .ok (.aload_n 0, 1) := by decide +kernel
theorem dX10_nextBooking_24 : decode cX10_nextBooking 24 = .ok (.iload_n 3, 1) := by decide +kernel
theorem dX10_nextBooking_25 : decode cX10_nextBooking 25 = .ok (.iconst 0, 1) := by decide +kernel
theorem dX10_nextBooking_26 : decode cX10_nextBooking 26 = .ok (.invokevirtual 102, 3) := by decide +kernel
theorem dX10_nextBooking_29 : decode cX10_nextBooking 29 = .ok (.iload_n 1, 1) := by decide +kernel
theorem dX10_nextBooking_30 : decode cX10_nextBooking 30 = .ok (.if_icmp .ne 17, 3) := by decide +kernel
theorem dX10_nextBooking_33 : decode cX10_nextBooking 33 = .ok (.aload_n 0, 1) := by decide +kernel
theorem dX10_nextBooking_34 : decode cX10_nextBooking 34 = .ok (.getfield 23, 3) := by decide +kernel
theorem dX10_nextBooking_37 : decode cX10_nextBooking 37 = .ok (.iload_n 3, 1) := by decide +kernel
theorem dX10_nextBooking_38 : decode cX10_nextBooking 38 = .ok (.iaload, 1) := by decide +kernel
theorem dX10_nextBooking_39 : decode cX10_nextBooking 39 = .ok (.iconst (-1), 1) := by decide +kernel
theorem dX10_nextBooking_40 : decode cX10_nextBooking 40 = .ok (.if_icmp .ne 7, 3) := by decide +kernel
theorem dX10_nextBooking_43 : decode cX10_nextBooking 43 = .ok (.iconst 1, 1) := by decide +kernel
theorem dX10_nextBooking_44 : decode cX10_nextBooking 44 = .ok (.goto 4, 3) := by decide +kernel
theorem dX10_nextBooking_47 : decode cX10_nextBooking 47 = .ok (.iconst 0, 1) := by decide +kernel
theorem dX10_nextBooking_48 : decode cX10_nextBooking 48 = .ok (.istore 4, 2) := by decide +kernel
theorem dX10_nextBooking_50 : decode cX10_nextBooking 50 = .ok (.iload 4, 2) := by decide +kernel
theorem dX10_nextBooking_52 : decode cX10_nextBooking 52 = .ok (.ifCond .eq 25, 3) := by decide +kernel
theorem dX10_nextBooking_55 : decode cX10_nextBooking 55 = .ok (.iload_n 2, 1) := by decide +kernel
theorem dX10_nextBooking_56 : decode cX10_nextBooking 56 = .ok (.iconst (-1), 1) := by decide +kernel
theorem dX10_nextBooking_57 : decode cX10_nextBooking 57 = .ok (.if_icmp .eq 18, 3) := by decide +kernel
theorem dX10_nextBooking_60 : decode cX10_nextBooking 60 = .ok (.aload_n 0, 1) := by decide +kernel
theorem dX10_nextBooking_61 : decode cX10_nextBooking 61 = .ok (.iload_n 3, 1) := by decide +kernel
theorem dX10_nextBooking_62 : decode cX10_nextBooking 62 = .ok (.iconst 1, 1) := by decide +kernel
theorem dX10_nextBooking_63 : decode cX10_nextBooking 63 = .ok (.invokevirtual 102, 3) := by decide +kernel
theorem dX10_nextBooking_66 : decode cX10_nextBooking 66 = .ok (.aload_n 0, 1) := by decide +kernel
theorem dX10_nextBooking_67 : decode cX10_nextBooking 67 = .ok (.iload_n 2, 1) := by decide +kernel
theorem dX10_nextBooking_68 : decode cX10_nextBooking 68 = .ok (.iconst 1, 1) := by decide +kernel
theorem dX10_nextBooking_69 : decode cX10_nextBooking 69 = .ok (.invokevirtual 102, 3) := by decide +kernel
theorem dX10_nextBooking_72 : decode cX10_nextBooking 72 = .ok (.if_icmp .ge 5, 3) := by decide +kernel
theorem dX10_nextBooking_75 : decode cX10_nextBooking 75 = .ok (.iload_n 3, 1) := by decide +kernel
theorem dX10_nextBooking_76 : decode cX10_nextBooking 76 = .ok (.istore_n 2, 1) := by decide +kernel
theorem dX10_nextBooking_77 : decode cX10_nextBooking 77 = .ok (.iinc 3 1, 3) := by decide +kernel
theorem dX10_nextBooking_80 : decode cX10_nextBooking 80 = .ok (.goto (-76), 3) := by decide +kernel
theorem dX10_nextBooking_83 : decode cX10_nextBooking 83 = .ok (.iload_n 2, 1) := by decide +kernel
theorem dX10_nextBooking_84 : decode cX10_nextBooking 84 = .ok (.ireturn, 1) := by decide +kernel
theorem dX10_plan_0 : decode cX10_plan 0 = .ok (.aload_n 0, 1) := by decide +kernel
theorem dX10_plan_1 : decode cX10_plan 1 = .ok (.iconst 0, 1) := by decide +kernel
theorem dX10_plan_2 : decode cX10_plan 2 = .ok (.putfield 180, 3) := by decide +kernel
theorem dX10_plan_5 : decode cX10_plan 5 = .ok (.aload_n 0, 1) := by decide +kernel
theorem dX10_plan_6 : decode cX10_plan 6 = .ok (.iconst 0, 1) := by decide +kernel
theorem dX10_plan_7 : decode cX10_plan 7 = .ok (.putfield 183, 3) := by decide +kernel
theorem dX10_plan_10 : decode cX10_plan 10 = .ok (.iconst 0, 1) := by decide +kernel
theorem dX10_plan_11 : decode cX10_plan 11 = .ok (.istore_n 3, 1) := by decide +kernel
theorem dX10_plan_12 : decode cX10_plan 12 = .ok (.iload_n 3, 1) := by decide +kernel
theorem dX10_plan_13 : decode cX10_plan 13 = .ok (.bipush 16, 2) := by decide +kernel
theorem dX10_plan_15 : decode cX10_plan 15 = .ok (.if_icmp .ge 16, 3) := by decide +kernel
theorem dX10_plan_18 : decode cX10_plan 18 = .ok (.aload_n 0, 1) := by decide +kernel
theorem dX10_plan_19 : decode cX10_plan 19 = .ok (.getfield 26, 3) := by decide +kernel
theorem dX10_plan_22 : decode cX10_plan 22 = .ok (.iload_n 3, 1) := by decide +kernel
theorem dX10_plan_23 : decode cX10_plan 23 = .ok (.iconst (-1), 1) := by decide +kernel
theorem dX10_plan_24 : decode cX10_plan 24 = .ok (.iastore, 1) := by decide +kernel
theorem dX10_plan_25 : decode cX10_plan 25 = .ok (.iinc 3 1, 3) := by decide +kernel
theorem dX10_plan_28 : decode cX10_plan 28 = .ok (.goto (-16), 3) := by decide +kernel
theorem dX10_plan_31 : decode cX10_plan 31 = .ok (.iconst 0, 1) := by decide +kernel
theorem dX10_plan_32 : decode cX10_plan 32 = .ok (.istore_n 3, 1) := by decide +kernel
theorem dX10_plan_33 : decode cX10_plan 33 = .ok (.iload_n 3, 1) := by decide +kernel
theorem dX10_plan_34 : decode cX10_plan 34 = .ok (.aload_n 0, 1) := by decide +kernel
theorem dX10_plan_35 : decode cX10_plan 35 = .ok (.getfield 7, 3) := by decide +kernel
theorem dX10_plan_38 : decode cX10_plan 38 = .ok (.iconst 4, 1) := by decide +kernel
theorem dX10_plan_39 : decode cX10_plan 39 = .ok (.iaload, 1) := by decide +kernel
theorem dX10_plan_40 : decode cX10_plan 40 = .ok (.if_icmp .ge 47, 3) := by decide +kernel
theorem dX10_plan_43 : decode cX10_plan 43 = .ok (.aload_n 0, 1) := by decide +kernel
theorem dX10_plan_44 : decode cX10_plan 44 = .ok (.getfield 23, 3) := by decide +kernel
theorem dX10_plan_47 : decode cX10_plan 47 = .ok (.iload_n 3, 1) := by decide +kernel
theorem dX10_plan_48 : decode cX10_plan 48 = .ok (.iconst (-1), 1) := by decide +kernel
theorem dX10_plan_49 : decode cX10_plan 49 = .ok (.iastore, 1) := by decide +kernel
theorem dX10_plan_50 : decode cX10_plan 50 = .ok (.aload_n 0, 1) := by decide +kernel
theorem dX10_plan_51 : decode cX10_plan 51 = .ok (.iload_n 3, 1) := by decide +kernel
theorem dX10_plan_52 : decode cX10_plan 52 = .ok (.iconst 4, 1) := by decide +kernel
theorem dX10_plan_53 : decode cX10_plan 53 = .ok (.invokevirtual 102, 3) := by decide +kernel
theorem dX10_plan_56 : decode cX10_plan 56 = .ok (.iconst 1, 1) := by decide +kernel
theorem dX10_plan_57 : decode cX10_plan 57 = .ok (.if_icmp .ne 24, 3) := by decide +kernel
theorem dX10_plan_60 : decode cX10_plan 60 = .ok (.aload_n 0, 1) := by decide +kernel
theorem dX10_plan_61 : decode cX10_plan 61 = .ok (.iload_n 3, 1) := by decide +kernel
theorem dX10_plan_62 : decode cX10_plan 62 = .ok (.iconst 0, 1) := by decide +kernel
theorem dX10_plan_63 : decode cX10_plan 63 = .ok (.invokevirtual 102, 3) := by decide +kernel
theorem dX10_plan_66 : decode cX10_plan 66 = .ok (.iload_n 1, 1) := by decide +kernel
theorem dX10_plan_67 : decode cX10_plan 67 = .ok (.if_icmp .ne 14, 3) := by decide +kernel
theorem dX10_plan_70 : decode cX10_plan 70 = .ok (.aload_n 0, 1) := by decide +kernel
theorem dX10_plan_71 : decode cX10_plan 71 = .ok (.iload_n 3, 1) := by decide +kernel
theorem dX10_plan_72 : decode cX10_plan 72 = .ok (.aload_n 0, 1) := by decide +kernel
theorem dX10_plan_73 : decode cX10_plan 73 = .ok (.iload_n 3, 1) := by decide +kernel
theorem dX10_plan_74 : decode cX10_plan 74 = .ok (.iconst 5, 1) := by decide +kernel
theorem dX10_plan_75 : decode cX10_plan 75 = .ok (.invokevirtual 102, 3) := by decide +kernel
theorem dX10_plan_78 : decode cX10_plan 78 = .ok (.invokevirtual 186, 3) := by decide +kernel
theorem dX10_plan_81 : decode cX10_plan 81 = .ok (.iinc 3 1, 3) := by decide +kernel
theorem dX10_plan_84 : decode cX10_plan 84 = .ok (.goto (-51), 3) := by decide +kernel
theorem dX10_plan_87 : decode cX10_plan 87 = .ok (.aload_n 0, 1) := by decide +kernel
theorem dX10_plan_88 : decode cX10_plan 88 = .ok (.iload_n 1, 1) := by decide +kernel
theorem dX10_plan_89 : decode cX10_plan 89 = .ok (.invokevirtual 190, 3) := by decide +kernel
theorem dX10_plan_92 : decode cX10_plan 92 = .ok (.istore_n 3, 1) := by decide +kernel
theorem dX10_plan_93 : decode cX10_plan 93 = .ok (.iload_n 3, 1) := by decide +kernel
theorem dX10_plan_94 : decode cX10_plan 94 = .ok (.iconst (-1), 1) := by decide +kernel
theorem dX10_plan_95 : decode cX10_plan 95 = .ok (.if_icmp .eq 23, 3) := by decide +kernel
theorem dX10_plan_98 : decode cX10_plan 98 = .ok (.aload_n 0, 1) := by decide +kernel
theorem dX10_plan_99 : decode cX10_plan 99 = .ok (.iload_n 3, 1) := by decide +kernel
theorem dX10_plan_100 : decode cX10_plan 100 = .ok (.aload_n 0, 1) := by decide +kernel
theorem dX10_plan_101 : decode cX10_plan 101 = .ok (.iload_n 3, 1) := by decide +kernel
theorem dX10_plan_102 : decode cX10_plan 102 = .ok (.iload_n 2, 1) := by decide +kernel
theorem dX10_plan_103 : decode cX10_plan 103 = .ok (.invokevirtual 193, 3) := by decide +kernel
theorem dX10_plan_106 : decode cX10_plan 106 = .ok (.invokevirtual 186, 3) := by decide +kernel
theorem dX10_plan_109 : decode cX10_plan 109 = .ok (.aload_n 0, 1) := by decide +kernel
theorem dX10_plan_110 : decode cX10_plan 110 = .ok (.iload_n 1, 1) := by decide +kernel
theorem dX10_plan_111 : decode cX10_plan 111 = .ok (.invokevirtual 190, 3) := by decide +kernel
theorem dX10_plan_114 : decode cX10_plan 114 = .ok (.istore_n 3, 1) := by decide +kernel
theorem dX10_plan_115 : decode cX10_plan 115 = .ok (.goto (-22), 3) := by decide +kernel
theorem dX10_plan_118 : decode cX10_plan 118 = .ok (.return_, 1) := by decide +kernel
theorem dX10_planSite_0 : decode cX10_planSite 0 = .ok (.aload_n 0, 1) := by decide +kernel
theorem dX10_planSite_1 : decode cX10_planSite 1 = .ok (.iconst 0, 1) := by decide +kernel
theorem dX10_planSite_2 : decode cX10_planSite 2 = .ok (.putfield 36, 3) := by decide +kernel
theorem dX10_planSite_5 : decode cX10_planSite 5 = .ok (.aload_n 0, 1) := by decide +kernel
theorem dX10_planSite_6 : decode cX10_planSite 6 = .ok (.iload_n 1, 1) := by decide +kernel
theorem dX10_planSite_7 : decode cX10_planSite 7 = .ok (.invokevirtual 141, 3) := by decide +kernel
theorem dX10_planSite_10 : decode cX10_planSite 10 = .ok (.ifCond .ne 9, 3) := by decide +kernel
theorem dX10_planSite_13 : decode cX10_planSite 13 = .ok (.aload_n 0, 1) := by decide +kernel
theorem dX10_planSite_14 : decode cX10_planSite 14 = .ok (.iconst 1, 1) := by decide +kernel
theorem dX10_planSite_15 : decode cX10_planSite 15 = .ok (.invokevirtual 43, 3) := by decide +kernel
theorem dX10_planSite_18 : decode cX10_planSite 18 = .ok (.ireturn, 1) := by decide +kernel
theorem dX10_planSite_19 : decode cX10_planSite 19 = .ok (.iload_n 2, 1) := by decide +kernel
theorem dX10_planSite_20 : decode cX10_planSite 20 = .ok (.iconst 0, 1) := by decide +kernel
theorem dX10_planSite_21 : decode cX10_planSite 21 = .ok (.iconst 1, 1) := by decide +kernel
theorem dX10_planSite_22 : decode cX10_planSite 22 = .ok (.invokestatic 39, 3) := by decide +kernel
theorem dX10_planSite_25 : decode cX10_planSite 25 = .ok (.ifCond .ne 9, 3) := by decide +kernel
theorem dX10_planSite_28 : decode cX10_planSite 28 = .ok (.aload_n 0, 1) := by decide +kernel
theorem dX10_planSite_29 : decode cX10_planSite 29 = .ok (.iconst 2, 1) := by decide +kernel
theorem dX10_planSite_30 : decode cX10_planSite 30 = .ok (.invokevirtual 43, 3) := by decide +kernel
theorem dX10_planSite_33 : decode cX10_planSite 33 = .ok (.ireturn, 1) := by decide +kernel
theorem dX10_planSite_34 : decode cX10_planSite 34 = .ok (.aload_n 0, 1) := by decide +kernel
theorem dX10_planSite_35 : decode cX10_planSite 35 = .ok (.iload_n 1, 1) := by decide +kernel
theorem dX10_planSite_36 : decode cX10_planSite 36 = .ok (.invokevirtual 105, 3) := by decide +kernel
theorem dX10_planSite_39 : decode cX10_planSite 39 = .ok (.ifCond .ne 9, 3) := by decide +kernel
theorem dX10_planSite_42 : decode cX10_planSite 42 = .ok (.aload_n 0, 1) := by decide +kernel
theorem dX10_planSite_43 : decode cX10_planSite 43 = .ok (.iconst 3, 1) := by decide +kernel
theorem dX10_planSite_44 : decode cX10_planSite 44 = .ok (.invokevirtual 43, 3) := by decide +kernel
theorem dX10_planSite_47 : decode cX10_planSite 47 = .ok (.ireturn, 1) := by decide +kernel
theorem dX10_planSite_48 : decode cX10_planSite 48 = .ok (.aload_n 0, 1) := by decide +kernel
theorem dX10_planSite_49 : decode cX10_planSite 49 = .ok (.aload_n 0, 1) := by decide +kernel
theorem dX10_planSite_50 : decode cX10_planSite 50 = .ok (.iload_n 1, 1) := by decide +kernel
theorem dX10_planSite_51 : decode cX10_planSite 51 = .ok (.iconst 0, 1) := by decide +kernel
theorem dX10_planSite_52 : decode cX10_planSite 52 = .ok (.invokevirtual 102, 3) := by decide +kernel
theorem dX10_planSite_55 : decode cX10_planSite 55 = .ok (.iload_n 2, 1) := by decide +kernel
theorem dX10_planSite_56 : decode cX10_planSite 56 = .ok (.invokevirtual 196, 3) := by decide +kernel
theorem dX10_planSite_59 : decode cX10_planSite 59 = .ok (.aload_n 0, 1) := by decide +kernel
theorem dX10_planSite_60 : decode cX10_planSite 60 = .ok (.getfield 23, 3) := by decide +kernel
theorem dX10_planSite_63 : decode cX10_planSite 63 = .ok (.iload_n 1, 1) := by decide +kernel
theorem dX10_planSite_64 : decode cX10_planSite 64 = .ok (.iaload, 1) := by decide +kernel
theorem dX10_planSite_65 : decode cX10_planSite 65 = .ok (.ireturn, 1) := by decide +kernel
theorem dX10_wrongPlan_0 : decode cX10_wrongPlan 0 = .ok (.aload_n 0, 1) := by decide +kernel
theorem dX10_wrongPlan_1 : decode cX10_wrongPlan 1 = .ok (.iload_n 1, 1) := by decide +kernel
theorem dX10_wrongPlan_2 : decode cX10_wrongPlan 2 = .ok (.invokevirtual 51, 3) := by decide +kernel
theorem dX10_wrongPlan_5 : decode cX10_wrongPlan 5 = .ok (.ifCond .ne 5, 3) := by decide +kernel
theorem dX10_wrongPlan_8 : decode cX10_wrongPlan 8 = .ok (.iconst 1, 1) := by decide +kernel
theorem dX10_wrongPlan_9 : decode cX10_wrongPlan 9 = .ok (.ireturn, 1) := by decide +kernel
theorem dX10_wrongPlan_10 : decode cX10_wrongPlan 10 = .ok (.iload_n 2, 1) := by decide +kernel
theorem dX10_wrongPlan_11 : decode cX10_wrongPlan 11 = .ok (.iconst 0, 1) := by decide +kernel
theorem dX10_wrongPlan_12 : decode cX10_wrongPlan 12 = .ok (.iconst 1, 1) := by decide +kernel
theorem dX10_wrongPlan_13 : decode cX10_wrongPlan 13 = .ok (.invokestatic 39, 3) := by decide +kernel
theorem dX10_wrongPlan_16 : decode cX10_wrongPlan 16 = .ok (.ifCond .eq 7, 3) := by decide +kernel
theorem dX10_wrongPlan_19 : decode cX10_wrongPlan 19 = .ok (.iconst 0, 1) := by decide +kernel
theorem dX10_wrongPlan_20 : decode cX10_wrongPlan 20 = .ok (.goto 4, 3) := by decide +kernel
theorem dX10_wrongPlan_23 : decode cX10_wrongPlan 23 = .ok (.iconst 2, 1) := by decide +kernel
theorem dX10_wrongPlan_24 : decode cX10_wrongPlan 24 = .ok (.ireturn, 1) := by decide +kernel
theorem dX10_gapNights_0 : decode cX10_gapNights 0 = .ok (.aload_n 0, 1) := by decide +kernel
theorem dX10_gapNights_1 : decode cX10_gapNights 1 = .ok (.aload_n 0, 1) := by decide +kernel
theorem dX10_gapNights_2 : decode cX10_gapNights 2 = .ok (.iload_n 1, 1) := by decide +kernel
theorem dX10_gapNights_3 : decode cX10_gapNights 3 = .ok (.iload_n 2, 1) := by decide +kernel
theorem dX10_gapNights_4 : decode cX10_gapNights 4 = .ok (.invokevirtual 199, 3) := by decide +kernel
theorem dX10_gapNights_7 : decode cX10_gapNights 7 = .ok (.putfield 36, 3) := by decide +kernel
theorem dX10_gapNights_10 : decode cX10_gapNights 10 = .ok (.aload_n 0, 1) := by decide +kernel
theorem dX10_gapNights_11 : decode cX10_gapNights 11 = .ok (.getfield 36, 3) := by decide +kernel
theorem dX10_gapNights_14 : decode cX10_gapNights 14 = .ok (.ifCond .eq 5, 3) := by decide +kernel
theorem dX10_gapNights_17 : decode cX10_gapNights 17 = .ok (.iconst 0, 1) := by decide +kernel
theorem dX10_gapNights_18 : decode cX10_gapNights 18 = .ok (.ireturn, 1) := by decide +kernel
theorem dX10_gapNights_19 : decode cX10_gapNights 19 = .ok (.aload_n 0, 1) := by decide +kernel
theorem dX10_gapNights_20 : decode cX10_gapNights 20 = .ok (.iload_n 1, 1) := by decide +kernel
theorem dX10_gapNights_21 : decode cX10_gapNights 21 = .ok (.iload_n 2, 1) := by decide +kernel
theorem dX10_gapNights_22 : decode cX10_gapNights 22 = .ok (.invokevirtual 196, 3) := by decide +kernel
theorem dX10_gapNights_25 : decode cX10_gapNights 25 = .ok (.aload_n 0, 1) := by decide +kernel
theorem dX10_gapNights_26 : decode cX10_gapNights 26 = .ok (.getfield 180, 3) := by decide +kernel
theorem dX10_gapNights_29 : decode cX10_gapNights 29 = .ok (.ireturn, 1) := by decide +kernel
theorem dX10_orphanNights_0 : decode cX10_orphanNights 0 = .ok (.aload_n 0, 1) := by decide +kernel
theorem dX10_orphanNights_1 : decode cX10_orphanNights 1 = .ok (.aload_n 0, 1) := by decide +kernel
theorem dX10_orphanNights_2 : decode cX10_orphanNights 2 = .ok (.iload_n 1, 1) := by decide +kernel
theorem dX10_orphanNights_3 : decode cX10_orphanNights 3 = .ok (.iload_n 2, 1) := by decide +kernel
theorem dX10_orphanNights_4 : decode cX10_orphanNights 4 = .ok (.invokevirtual 199, 3) := by decide +kernel
theorem dX10_orphanNights_7 : decode cX10_orphanNights 7 = .ok (.putfield 36, 3) := by decide +kernel
theorem dX10_orphanNights_10 : decode cX10_orphanNights 10 = .ok (.aload_n 0, 1) := by decide +kernel
theorem dX10_orphanNights_11 : decode cX10_orphanNights 11 = .ok (.getfield 36, 3) := by decide +kernel
theorem dX10_orphanNights_14 : decode cX10_orphanNights 14 = .ok (.ifCond .eq 5, 3) := by decide +kernel
theorem dX10_orphanNights_17 : decode cX10_orphanNights 17 = .ok (.iconst 0, 1) := by decide +kernel
theorem dX10_orphanNights_18 : decode cX10_orphanNights 18 = .ok (.ireturn, 1) := by decide +kernel
theorem dX10_orphanNights_19 : decode cX10_orphanNights 19 = .ok (.aload_n 0, 1) := by decide +kernel
theorem dX10_orphanNights_20 : decode cX10_orphanNights 20 = .ok (.iload_n 1, 1) := by decide +kernel
theorem dX10_orphanNights_21 : decode cX10_orphanNights 21 = .ok (.iload_n 2, 1) := by decide +kernel
theorem dX10_orphanNights_22 : decode cX10_orphanNights 22 = .ok (.invokevirtual 196, 3) := by decide +kernel
theorem dX10_orphanNights_25 : decode cX10_orphanNights 25 = .ok (.aload_n 0, 1) := by decide +kernel
theorem dX10_orphanNights_26 : decode cX10_orphanNights 26 = .ok (.getfield 183, 3) := by decide +kernel
theorem dX10_orphanNights_29 : decode cX10_orphanNights 29 = .ok (.ireturn, 1) := by decide +kernel
theorem dX10_commonDivisor_0 : decode cX10_commonDivisor 0 = .ok (.iload_n 0, 1) := by decide +kernel
theorem dX10_commonDivisor_1 : decode cX10_commonDivisor 1 = .ok (.istore_n 2, 1) := by decide +kernel
theorem dX10_commonDivisor_2 : decode cX10_commonDivisor 2 = .ok (.iload_n 1, 1) := by decide +kernel
theorem dX10_commonDivisor_3 : decode cX10_commonDivisor 3 = .ok (.istore_n 3, 1) := by decide +kernel
theorem dX10_commonDivisor_4 : decode cX10_commonDivisor 4 = .ok (.iload_n 3, 1) := by decide +kernel
theorem dX10_commonDivisor_5 : decode cX10_commonDivisor 5 = .ok (.ifCond .eq 16, 3) := by decide +kernel
theorem dX10_commonDivisor_8 : decode cX10_commonDivisor 8 = .ok (.iload_n 2, 1) := by decide +kernel
theorem dX10_commonDivisor_9 : decode cX10_commonDivisor 9 = .ok (.iload_n 3, 1) := by decide +kernel
theorem dX10_commonDivisor_10 : decode cX10_commonDivisor 10 = .ok (.irem, 1) := by decide +kernel
theorem dX10_commonDivisor_11 : decode cX10_commonDivisor 11 = .ok (.istore 4, 2) := by decide +kernel
theorem dX10_commonDivisor_13 : decode cX10_commonDivisor 13 = .ok (.iload_n 3, 1) := by decide +kernel
theorem dX10_commonDivisor_14 : decode cX10_commonDivisor 14 = .ok (.istore_n 2, 1) := by decide +kernel
theorem dX10_commonDivisor_15 : decode cX10_commonDivisor 15 = .ok (.iload 4, 2) := by decide +kernel
theorem dX10_commonDivisor_17 : decode cX10_commonDivisor 17 = .ok (.istore_n 3, 1) := by decide +kernel
theorem dX10_commonDivisor_18 : decode cX10_commonDivisor 18 = .ok (.goto (-14), 3) := by decide +kernel
theorem dX10_commonDivisor_21 : decode cX10_commonDivisor 21 = .ok (.iload_n 2, 1) := by decide +kernel
theorem dX10_commonDivisor_22 : decode cX10_commonDivisor 22 = .ok (.ireturn, 1) := by decide +kernel
theorem dX10_occupancy_0 : decode cX10_occupancy 0 = .ok (.aload_n 0, 1) := by decide +kernel
theorem dX10_occupancy_1 : decode cX10_occupancy 1 = .ok (.iconst 0, 1) := by decide +kernel
theorem dX10_occupancy_2 : decode cX10_occupancy 2 = .ok (.putfield 36, 3) := by decide +kernel
theorem dX10_occupancy_5 : decode cX10_occupancy 5 = .ok (.aload_n 0, 1) := by decide +kernel
theorem dX10_occupancy_6 : decode cX10_occupancy 6 = .ok (.iload_n 1, 1) := by decide +kernel
theorem dX10_occupancy_7 : decode cX10_occupancy 7 = .ok (.invokevirtual 51, 3) := by decide +kernel
theorem dX10_occupancy_10 : decode cX10_occupancy 10 = .ok (.ifCond .ne 9, 3) := by decide +kernel
theorem dX10_occupancy_13 : decode cX10_occupancy 13 = .ok (.aload_n 0, 1) := by decide +kernel
theorem dX10_occupancy_14 : decode cX10_occupancy 14 = .ok (.iconst 1, 1) := by decide +kernel
theorem dX10_occupancy_15 : decode cX10_occupancy 15 = .ok (.invokevirtual 43, 3) := by decide +kernel
theorem dX10_occupancy_18 : decode cX10_occupancy 18 = .ok (.ireturn, 1) := by decide +kernel
theorem dX10_occupancy_19 : decode cX10_occupancy 19 = .ok (.aload_n 0, 1) := by decide +kernel
theorem dX10_occupancy_20 : decode cX10_occupancy 20 = .ok (.iload_n 2, 1) := by decide +kernel
theorem dX10_occupancy_21 : decode cX10_occupancy 21 = .ok (.invokevirtual 88, 3) := by decide +kernel
theorem dX10_occupancy_24 : decode cX10_occupancy 24 = .ok (.ifCond .eq 14, 3) := by decide +kernel
theorem dX10_occupancy_27 : decode cX10_occupancy 27 = .ok (.iload_n 3, 1) := by decide +kernel
theorem dX10_occupancy_28 : decode cX10_occupancy 28 = .ok (.iload_n 2, 1) := by decide +kernel
theorem dX10_occupancy_29 : decode cX10_occupancy 29 = .ok (.sipush 998, 3) := by decide +kernel
theorem dX10_occupancy_32 : decode cX10_occupancy 32 = .ok (.invokestatic 39, 3) := by decide +kernel
theorem dX10_occupancy_35 : decode cX10_occupancy 35 = .ok (.ifCond .ne 9, 3) := by decide +kernel
theorem dX10_occupancy_38 : decode cX10_occupancy 38 = .ok (.aload_n 0, 1) := by decide +kernel
theorem dX10_occupancy_39 : decode cX10_occupancy 39 = .ok (.iconst 2, 1) := by decide +kernel
theorem dX10_occupancy_40 : decode cX10_occupancy 40 = .ok (.invokevirtual 43, 3) := by decide +kernel
theorem dX10_occupancy_43 : decode cX10_occupancy 43 = .ok (.ireturn, 1) := by decide +kernel
theorem dX10_occupancy_44 : decode cX10_occupancy 44 = .ok (.iconst 0, 1) := by decide +kernel
theorem dX10_occupancy_45 : decode cX10_occupancy 45 = .ok (.istore 5, 2) := by decide +kernel
theorem dX10_occupancy_47 : decode cX10_occupancy 47 = .ok (.iconst 0, 1) := by decide +kernel
theorem dX10_occupancy_48 : decode cX10_occupancy 48 = .ok (.istore 6, 2) := by decide +kernel
theorem dX10_occupancy_50 : decode cX10_occupancy 50 = .ok (.iload_n 2, 1) := by decide +kernel
theorem dX10_occupancy_51 : decode cX10_occupancy 51 = .ok (.istore 7, 2) := by decide +kernel
theorem dX10_occupancy_53 : decode cX10_occupancy 53 = .ok (.iload 7, 2) := by decide +kernel
theorem dX10_occupancy_55 : decode cX10_occupancy 55 = .ok (.iload_n 3, 1) := by decide +kernel
theorem dX10_occupancy_56 : decode cX10_occupancy 56 = .ok (.if_icmp .gt 33, 3) := by decide +kernel
theorem dX10_occupancy_59 : decode cX10_occupancy 59 = .ok (.iload 5, 2) := by decide +kernel
theorem dX10_occupancy_61 : decode cX10_occupancy 61 = .ok (.aload_n 0, 1) := by decide +kernel
theorem dX10_occupancy_62 : decode cX10_occupancy 62 = .ok (.iload_n 1, 1) := by decide +kernel
theorem dX10_occupancy_63 : decode cX10_occupancy 63 = .ok (.iload 7, 2) := by decide +kernel
theorem dX10_occupancy_65 : decode cX10_occupancy 65 = .ok (.invokevirtual 111, 3) := by decide +kernel
theorem dX10_occupancy_68 : decode cX10_occupancy 68 = .ok (.iadd, 1) := by decide +kernel
theorem dX10_occupancy_69 : decode cX10_occupancy 69 = .ok (.istore 5, 2) := by decide +kernel
theorem dX10_occupancy_71 : decode cX10_occupancy 71 = .ok (.iload 6, 2) := by decide +kernel
theorem dX10_occupancy_73 : decode cX10_occupancy 73 = .ok (.aload_n 0, 1) := by decide +kernel
theorem dX10_occupancy_74 : decode cX10_occupancy 74 = .ok (.iload_n 1, 1) := by decide +kernel
theorem dX10_occupancy_75 : decode cX10_occupancy 75 = .ok (.iload 7, 2) := by decide +kernel
theorem dX10_occupancy_77 : decode cX10_occupancy 77 = .ok (.invokevirtual 94, 3) := by decide +kernel
theorem dX10_occupancy_80 : decode cX10_occupancy 80 = .ok (.iadd, 1) := by decide +kernel
theorem dX10_occupancy_81 : decode cX10_occupancy 81 = .ok (.istore 6, 2) := by decide +kernel
theorem dX10_occupancy_83 : decode cX10_occupancy 83 = .ok (.iinc 7 1, 3) := by decide +kernel
theorem dX10_occupancy_86 : decode cX10_occupancy 86 = .ok (.goto (-33), 3) := by decide +kernel
theorem dX10_occupancy_89 : decode cX10_occupancy 89 = .ok (.iload 5, 2) := by decide +kernel
theorem dX10_occupancy_91 : decode cX10_occupancy 91 = .ok (.ifCond .ne 14, 3) := by decide +kernel
theorem dX10_occupancy_94 : decode cX10_occupancy 94 = .ok (.iload 4, 2) := by decide +kernel
theorem dX10_occupancy_96 : decode cX10_occupancy 96 = .ok (.ifCond .eq 7, 3) := by decide +kernel
theorem dX10_occupancy_99 : decode cX10_occupancy 99 = .ok (.iconst 0, 1) := by decide +kernel
theorem dX10_occupancy_100 : decode cX10_occupancy 100 = .ok (.goto 4, 3) := by decide +kernel
theorem dX10_occupancy_103 : decode cX10_occupancy 103 = .ok (.iconst 1, 1) := by decide +kernel
theorem dX10_occupancy_104 : decode cX10_occupancy 104 = .ok (.ireturn, 1) := by decide +kernel
theorem dX10_occupancy_105 : decode cX10_occupancy 105 = .ok (.iload 4, 2) := by decide +kernel
theorem dX10_occupancy_107 : decode cX10_occupancy 107 = .ok (.ifCond .eq 8, 3) := by decide +kernel
theorem dX10_occupancy_110 : decode cX10_occupancy 110 = .ok (.iload 5, 2) := by decide +kernel
theorem dX10_occupancy_112 : decode cX10_occupancy 112 = .ok (.goto 5, 3) := by decide +kernel
theorem dX10_occupancy_115 : decode cX10_occupancy 115 = .ok (.iload 6, 2) := by decide +kernel
theorem dX10_occupancy_117 : decode cX10_occupancy 117 = .ok (.iload 5, 2) := by decide +kernel
theorem dX10_occupancy_119 : decode cX10_occupancy 119 = .ok (.iload 6, 2) := by decide +kernel
theorem dX10_occupancy_121 : decode cX10_occupancy 121 = .ok (.invokestatic 202, 3) := by decide +kernel
theorem dX10_occupancy_124 : decode cX10_occupancy 124 = .ok (.idiv, 1) := by decide +kernel
theorem dX10_occupancy_125 : decode cX10_occupancy 125 = .ok (.ireturn, 1) := by decide +kernel
theorem dX10_occupancyNumerator_0 : decode cX10_occupancyNumerator 0 = .ok (.aload_n 0, 1) := by decide +kernel
theorem dX10_occupancyNumerator_1 : decode cX10_occupancyNumerator 1 = .ok (.iload_n 1, 1) := by decide +kernel
theorem dX10_occupancyNumerator_2 : decode cX10_occupancyNumerator 2 = .ok (.iload_n 2, 1) := by decide +kernel
theorem dX10_occupancyNumerator_3 : decode cX10_occupancyNumerator 3 = .ok (.iload_n 3, 1) := by decide +kernel
theorem dX10_occupancyNumerator_4 : decode cX10_occupancyNumerator 4 = .ok (.iconst 1, 1) := by decide +kernel
theorem dX10_occupancyNumerator_5 : decode cX10_occupancyNumerator 5 = .ok (.invokevirtual 205, 3) := by decide +kernel
theorem dX10_occupancyNumerator_8 : decode cX10_occupancyNumerator 8 = .ok (.ireturn, 1) := by decide +kernel
theorem dX10_occupancyDenominator_0 : decode cX10_occupancyDenominator 0 = .ok (.aload_n 0, 1) := by decide +kernel
theorem dX10_occupancyDenominator_1 : decode cX10_occupancyDenominator 1 = .ok (.iload_n 1, 1) := by decide +kernel
theorem dX10_occupancyDenominator_2 : decode cX10_occupancyDenominator 2 = .ok (.iload_n 2, 1) := by decide +kernel
theorem dX10_occupancyDenominator_3 : decode cX10_occupancyDenominator 3 = .ok (.iload_n 3, 1) := by decide +kernel
theorem dX10_occupancyDenominator_4 : decode cX10_occupancyDenominator 4 = .ok (.iconst 0, 1) := by decide +kernel
theorem dX10_occupancyDenominator_5 : decode cX10_occupancyDenominator 5 = .ok (.invokevirtual 205, 3) := by decide +kernel
theorem dX10_occupancyDenominator_8 : decode cX10_occupancyDenominator 8 = .ok (.ireturn, 1) := by decide +kernel
theorem dX10_expected_0 : decode cX10_expected 0 = .ok (.aload_n 0, 1) := by decide +kernel
theorem dX10_expected_1 : decode cX10_expected 1 = .ok (.iconst 0, 1) := by decide +kernel
theorem dX10_expected_2 : decode cX10_expected 2 = .ok (.putfield 36, 3) := by decide +kernel
theorem dX10_expected_5 : decode cX10_expected 5 = .ok (.iload_n 1, 1) := by decide +kernel
theorem dX10_expected_6 : decode cX10_expected 6 = .ok (.iconst (-1), 1) := by decide +kernel
theorem dX10_expected_7 : decode cX10_expected 7 = .ok (.if_icmp .eq 17, 3) := by decide +kernel
theorem dX10_expected_10 : decode cX10_expected 10 = .ok (.aload_n 0, 1) := by decide +kernel
theorem dX10_expected_11 : decode cX10_expected 11 = .ok (.iload_n 1, 1) := by decide +kernel
theorem dX10_expected_12 : decode cX10_expected 12 = .ok (.invokevirtual 51, 3) := by decide +kernel
theorem dX10_expected_15 : decode cX10_expected 15 = .ok (.ifCond .ne 9, 3) := by decide +kernel
theorem dX10_expected_18 : decode cX10_expected 18 = .ok (.aload_n 0, 1) := by decide +kernel
theorem dX10_expected_19 : decode cX10_expected 19 = .ok (.iconst 1, 1) := by decide +kernel
theorem dX10_expected_20 : decode cX10_expected 20 = .ok (.invokevirtual 43, 3) := by decide +kernel
theorem dX10_expected_23 : decode cX10_expected 23 = .ok (.ireturn, 1) := by decide +kernel
theorem dX10_expected_24 : decode cX10_expected 24 = .ok (.iload_n 2, 1) := by decide +kernel
theorem dX10_expected_25 : decode cX10_expected 25 = .ok (.invokestatic 58, 3) := by decide +kernel
theorem dX10_expected_28 : decode cX10_expected 28 = .ok (.ifCond .ne 9, 3) := by decide +kernel
theorem dX10_expected_31 : decode cX10_expected 31 = .ok (.aload_n 0, 1) := by decide +kernel
theorem dX10_expected_32 : decode cX10_expected 32 = .ok (.iconst 2, 1) := by decide +kernel
theorem dX10_expected_33 : decode cX10_expected 33 = .ok (.invokevirtual 43, 3) := by decide +kernel
theorem dX10_expected_36 : decode cX10_expected 36 = .ok (.ireturn, 1) := by decide +kernel
theorem dX10_expected_37 : decode cX10_expected 37 = .ok (.iconst 0, 1) := by decide +kernel
theorem dX10_expected_38 : decode cX10_expected 38 = .ok (.istore 4, 2) := by decide +kernel
theorem dX10_expected_40 : decode cX10_expected 40 = .ok (.iconst 0, 1) := by decide +kernel
theorem dX10_expected_41 : decode cX10_expected 41 = .ok (.istore 5, 2) := by decide +kernel
theorem dX10_expected_43 : decode cX10_expected 43 = .ok (.iload 5, 2) := by decide +kernel
theorem dX10_expected_45 : decode cX10_expected 45 = .ok (.aload_n 0, 1) := by decide +kernel
theorem dX10_expected_46 : decode cX10_expected 46 = .ok (.getfield 7, 3) := by decide +kernel
theorem dX10_expected_49 : decode cX10_expected 49 = .ok (.iconst 4, 1) := by decide +kernel
theorem dX10_expected_50 : decode cX10_expected 50 = .ok (.iaload, 1) := by decide +kernel
theorem dX10_expected_51 : decode cX10_expected 51 = .ok (.if_icmp .ge 119, 3) := by decide +kernel
theorem dX10_expected_54 : decode cX10_expected 54 = .ok (.iload_n 1, 1) := by decide +kernel
theorem dX10_expected_55 : decode cX10_expected 55 = .ok (.iconst (-1), 1) := by decide +kernel
theorem dX10_expected_56 : decode cX10_expected 56 = .ok (.if_icmp .eq 14, 3) := by decide +kernel
theorem dX10_expected_59 : decode cX10_expected 59 = .ok (.aload_n 0, 1) := by decide +kernel
theorem dX10_expected_60 : decode cX10_expected 60 = .ok (.iload 5, 2) := by decide +kernel
theorem dX10_expected_62 : decode cX10_expected 62 = .ok (.iconst 0, 1) := by decide +kernel
theorem dX10_expected_63 : decode cX10_expected 63 = .ok (.invokevirtual 102, 3) := by decide +kernel
theorem dX10_expected_66 : decode cX10_expected 66 = .ok (.iload_n 1, 1) := by decide +kernel
theorem dX10_expected_67 : decode cX10_expected 67 = .ok (.if_icmp .ne 7, 3) := by decide +kernel
theorem dX10_expected_70 : decode cX10_expected 70 = .ok (.iconst 1, 1) := by decide +kernel
theorem dX10_expected_71 : decode cX10_expected 71 = .ok (.goto 4, 3) := by decide +kernel
theorem dX10_expected_74 : decode cX10_expected 74 = .ok (.iconst 0, 1) := by decide +kernel
theorem dX10_expected_75 : decode cX10_expected 75 = .ok (.istore 6, 2) := by decide +kernel
theorem dX10_expected_77 : decode cX10_expected 77 = .ok (.aload_n 0, 1) := by decide +kernel
theorem dX10_expected_78 : decode cX10_expected 78 = .ok (.iload 5, 2) := by decide +kernel
theorem dX10_expected_80 : decode cX10_expected 80 = .ok (.iconst 4, 1) := by decide +kernel
theorem dX10_expected_81 : decode cX10_expected 81 = .ok (.invokevirtual 102, 3) := by decide +kernel
theorem dX10_expected_84 : decode cX10_expected 84 = .ok (.ifCond .ne 18, 3) := by decide +kernel
theorem dX10_expected_87 : decode cX10_expected 87 = .ok (.aload_n 0, 1) := by decide +kernel
theorem dX10_expected_88 : decode cX10_expected 88 = .ok (.iload 5, 2) := by decide +kernel
theorem dX10_expected_90 : decode cX10_expected 90 = .ok (.iconst 1, 1) := by decide +kernel
theorem dX10_expected_91 : decode cX10_expected 91 = .ok (.invokevirtual 102, 3) := by decide +kernel
theorem dX10_expected_94 : decode cX10_expected 94 = .ok (.iload_n 2, 1) := by decide +kernel
theorem dX10_expected_95 : decode cX10_expected 95 = .ok (.if_icmp .ne 7, 3) := by decide +kernel
theorem dX10_expected_98 : decode cX10_expected 98 = .ok (.iconst 1, 1) := by decide +kernel
theorem dX10_expected_99 : decode cX10_expected 99 = .ok (.goto 4, 3) := by decide +kernel
theorem dX10_expected_102 : decode cX10_expected 102 = .ok (.iconst 0, 1) := by decide +kernel
theorem dX10_expected_103 : decode cX10_expected 103 = .ok (.istore 7, 2) := by decide +kernel
theorem dX10_expected_105 : decode cX10_expected 105 = .ok (.aload_n 0, 1) := by decide +kernel
theorem dX10_expected_106 : decode cX10_expected 106 = .ok (.iload 5, 2) := by decide +kernel
theorem dX10_expected_108 : decode cX10_expected 108 = .ok (.invokevirtual 105, 3) := by decide +kernel
theorem dX10_expected_111 : decode cX10_expected 111 = .ok (.ifCond .eq 18, 3) := by decide +kernel
theorem dX10_expected_114 : decode cX10_expected 114 = .ok (.aload_n 0, 1) := by decide +kernel
theorem dX10_expected_115 : decode cX10_expected 115 = .ok (.iload 5, 2) := by decide +kernel
theorem dX10_expected_117 : decode cX10_expected 117 = .ok (.iconst 2, 1) := by decide +kernel
theorem dX10_expected_118 : decode cX10_expected 118 = .ok (.invokevirtual 102, 3) := by decide +kernel
theorem dX10_expected_121 : decode cX10_expected 121 = .ok (.iload_n 2, 1) := by decide +kernel
theorem dX10_expected_122 : decode cX10_expected 122 = .ok (.if_icmp .ne 7, 3) := by decide +kernel
theorem dX10_expected_125 : decode cX10_expected 125 = .ok (.iconst 1, 1) := by decide +kernel
theorem dX10_expected_126 : decode cX10_expected 126 = .ok (.goto 4, 3) := by decide +kernel
theorem dX10_expected_129 : decode cX10_expected 129 = .ok (.iconst 0, 1) := by decide +kernel
theorem dX10_expected_130 : decode cX10_expected 130 = .ok (.istore 8, 2) := by decide +kernel
theorem dX10_expected_132 : decode cX10_expected 132 = .ok (.iload 4, 2) := by decide +kernel
theorem dX10_expected_134 : decode cX10_expected 134 = .ok (.iload 6, 2) := by decide +kernel
theorem dX10_expected_136 : decode cX10_expected 136 = .ok (.ifCond .eq 24, 3) := by decide +kernel
theorem dX10_expected_139 : decode cX10_expected 139 = .ok (.iload_n 3, 1) := by decide +kernel
theorem dX10_expected_140 : decode cX10_expected 140 = .ok (.ifCond .eq 11, 3) := by decide +kernel
theorem dX10_expected_143 : decode cX10_expected 143 = .ok (.iload 8, 2) := by decide +kernel
theorem dX10_expected_145 : decode cX10_expected 145 = .ok (.ifCond .eq 15, 3) := by decide +kernel
theorem dX10_expected_148 : decode cX10_expected 148 = .ok (.goto 8, 3) := by decide +kernel
theorem dX10_expected_151 : decode cX10_expected 151 = .ok (.iload 7, 2) := by decide +kernel
theorem dX10_expected_153 : decode cX10_expected 153 = .ok (.ifCond .eq 7, 3) := by decide +kernel
theorem dX10_expected_156 : decode cX10_expected 156 = .ok (.iconst 1, 1) := by decide +kernel
theorem dX10_expected_157 : decode cX10_expected 157 = .ok (.goto 4, 3) := by decide +kernel
theorem dX10_expected_160 : decode cX10_expected 160 = .ok (.iconst 0, 1) := by decide +kernel
theorem dX10_expected_161 : decode cX10_expected 161 = .ok (.iadd, 1) := by decide +kernel
theorem dX10_expected_162 : decode cX10_expected 162 = .ok (.istore 4, 2) := by decide +kernel
theorem dX10_expected_164 : decode cX10_expected 164 = .ok (.iinc 5 1, 3) := by decide +kernel
theorem dX10_expected_167 : decode cX10_expected 167 = .ok (.goto (-124), 3) := by decide +kernel
theorem dX10_expected_170 : decode cX10_expected 170 = .ok (.iload 4, 2) := by decide +kernel
theorem dX10_expected_172 : decode cX10_expected 172 = .ok (.ireturn, 1) := by decide +kernel
theorem dX10_nightsOf_0 : decode cX10_nightsOf 0 = .ok (.aload_n 0, 1) := by decide +kernel
theorem dX10_nightsOf_1 : decode cX10_nightsOf 1 = .ok (.iload_n 1, 1) := by decide +kernel
theorem dX10_nightsOf_2 : decode cX10_nightsOf 2 = .ok (.iconst 2, 1) := by decide +kernel
theorem dX10_nightsOf_3 : decode cX10_nightsOf 3 = .ok (.invokevirtual 102, 3) := by decide +kernel
theorem dX10_nightsOf_6 : decode cX10_nightsOf 6 = .ok (.i2l, 1) := by decide +kernel
theorem dX10_nightsOf_7 : decode cX10_nightsOf 7 = .ok (.aload_n 0, 1) := by decide +kernel
theorem dX10_nightsOf_8 : decode cX10_nightsOf 8 = .ok (.iload_n 1, 1) := by decide +kernel
theorem dX10_nightsOf_9 : decode cX10_nightsOf 9 = .ok (.iconst 1, 1) := by decide +kernel
theorem dX10_nightsOf_10 : decode cX10_nightsOf 10 = .ok (.invokevirtual 102, 3) := by decide +kernel
theorem dX10_nightsOf_13 : decode cX10_nightsOf 13 = .ok (.i2l, 1) := by decide +kernel
theorem dX10_nightsOf_14 : decode cX10_nightsOf 14 = .ok (.lsub, 1) := by decide +kernel
theorem dX10_nightsOf_15 : decode cX10_nightsOf 15 = .ok (.lreturn, 1) := by decide +kernel
theorem dX10_dearestBooking_0 : decode cX10_dearestBooking 0 = .ok (.aload_n 0, 1) := by decide +kernel
theorem dX10_dearestBooking_1 : decode cX10_dearestBooking 1 = .ok (.iconst 0, 1) := by decide +kernel
theorem dX10_dearestBooking_2 : decode cX10_dearestBooking 2 = .ok (.putfield 36, 3) := by decide +kernel
theorem dX10_dearestBooking_5 : decode cX10_dearestBooking 5 = .ok (.aload_n 0, 1) := by decide +kernel
theorem dX10_dearestBooking_6 : decode cX10_dearestBooking 6 = .ok (.iload_n 1, 1) := by decide +kernel
theorem dX10_dearestBooking_7 : decode cX10_dearestBooking 7 = .ok (.invokevirtual 51, 3) := by decide +kernel
theorem dX10_dearestBooking_10 : decode cX10_dearestBooking 10 = .ok (.ifCond .ne 9, 3) := by decide +kernel
theorem dX10_dearestBooking_13 : decode cX10_dearestBooking 13 = .ok (.aload_n 0, 1) := by decide +kernel
theorem dX10_dearestBooking_14 : decode cX10_dearestBooking 14 = .ok (.iconst 1, 1) := by decide +kernel
theorem dX10_dearestBooking_15 : decode cX10_dearestBooking 15 = .ok (.invokevirtual 43, 3) := by decide +kernel
theorem dX10_dearestBooking_18 : decode cX10_dearestBooking 18 = .ok (.ireturn, 1) := by decide +kernel
theorem dX10_dearestBooking_19 : decode cX10_dearestBooking 19 = .ok (.iconst (-1), 1) := by decide +kernel
theorem dX10_dearestBooking_20 : decode cX10_dearestBooking 20 = .ok (.istore_n 2, 1) := by decide +kernel
theorem dX10_dearestBooking_21 : decode cX10_dearestBooking 21 = .ok (.iconst 0, 1) := by decide +kernel
theorem dX10_dearestBooking_22 : decode cX10_dearestBooking 22 = .ok (.istore_n 3, 1) := by decide +kernel
theorem dX10_dearestBooking_23 : decode cX10_dearestBooking 23 = .ok (.iload_n 3, 1) := by decide +kernel
theorem dX10_dearestBooking_24 : decode cX10_dearestBooking 24 = .ok (.aload_n 0, 1) := by decide +kernel
theorem dX10_dearestBooking_25 : decode cX10_dearestBooking 25 = .ok (.getfield 7, 3) := by decide +kernel
theorem dX10_dearestBooking_28 : decode cX10_dearestBooking 28 = .ok (.iconst 4, 1) := by decide +kernel
theorem dX10_dearestBooking_29 : decode cX10_dearestBooking 29 = .ok (.iaload, 1) := by decide +kernel
theorem dX10_dearestBooking_30 : decode cX10_dearestBooking 30 = .ok (.if_icmp .ge 76, 3) := by decide +kernel
theorem dX10_dearestBooking_33 : decode cX10_dearestBooking 33 = .ok (.aload_n 0, 1) := by decide +kernel
theorem dX10_dearestBooking_34 : decode cX10_dearestBooking 34 = .ok (.iload_n 3, 1) := by decide +kernel
theorem dX10_dearestBooking_35 : decode cX10_dearestBooking 35 = .ok (.invokevirtual 105, 3) := by decide +kernel
theorem dX10_dearestBooking_38 : decode cX10_dearestBooking 38 = .ok (.ifCond .eq 17, 3) := by decide +kernel
theorem dX10_dearestBooking_41 : decode cX10_dearestBooking 41 = .ok (.aload_n 0, 1) := by decide +kernel
theorem dX10_dearestBooking_42 : decode cX10_dearestBooking 42 = .ok (.iload_n 3, 1) := by decide +kernel
theorem dX10_dearestBooking_43 : decode cX10_dearestBooking 43 = .ok (.iconst 0, 1) := by decide +kernel
theorem dX10_dearestBooking_44 : decode cX10_dearestBooking 44 = .ok (.invokevirtual 102, 3) := by decide +kernel
theorem dX10_dearestBooking_47 : decode cX10_dearestBooking 47 = .ok (.iload_n 1, 1) := by decide +kernel
theorem dX10_dearestBooking_48 : decode cX10_dearestBooking 48 = .ok (.if_icmp .ne 7, 3) := by decide +kernel
theorem dX10_dearestBooking_51 : decode cX10_dearestBooking 51 = .ok (.iconst 1, 1) := by decide +kernel
theorem dX10_dearestBooking_52 : decode cX10_dearestBooking 52 = .ok (.goto 4, 3) := by decide +kernel
theorem dX10_dearestBooking_55 : decode cX10_dearestBooking 55 = .ok (.iconst 0, 1) := by decide +kernel
theorem dX10_dearestBooking_56 : decode cX10_dearestBooking 56 = .ok (.istore 4, 2) := by decide +kernel
theorem dX10_dearestBooking_58 : decode cX10_dearestBooking 58 = .ok (.iload 4, 2) := by decide +kernel
theorem dX10_dearestBooking_60 : decode cX10_dearestBooking 60 = .ok (.ifCond .eq 40, 3) := by decide +kernel
theorem dX10_dearestBooking_63 : decode cX10_dearestBooking 63 = .ok (.iload_n 2, 1) := by decide +kernel
theorem dX10_dearestBooking_64 : decode cX10_dearestBooking 64 = .ok (.iconst (-1), 1) := by decide +kernel
theorem dX10_dearestBooking_65 : decode cX10_dearestBooking 65 = .ok (.if_icmp .eq 33, 3) := by decide +kernel
theorem dX10_dearestBooking_68 : decode cX10_dearestBooking 68 = .ok (.aload_n 0, 1) := by decide +kernel
theorem dX10_dearestBooking_69 : decode cX10_dearestBooking 69 = .ok (.iload_n 3, 1) := by decide +kernel
theorem dX10_dearestBooking_70 : decode cX10_dearestBooking 70 = .ok (.iconst 3, 1) := by decide +kernel
theorem dX10_dearestBooking_71 : decode cX10_dearestBooking 71 = .ok (.invokevirtual 102, 3) := by decide +kernel
theorem dX10_dearestBooking_74 : decode cX10_dearestBooking 74 = .ok (.i2l, 1) := by decide +kernel
theorem dX10_dearestBooking_75 : decode cX10_dearestBooking 75 = .ok (.aload_n 0, 1) := by decide +kernel
theorem dX10_dearestBooking_76 : decode cX10_dearestBooking 76 = .ok (.iload_n 2, 1) := by decide +kernel
theorem dX10_dearestBooking_77 : decode cX10_dearestBooking 77 = .ok (.invokevirtual 209, 3) := by decide +kernel
theorem dX10_dearestBooking_80 : decode cX10_dearestBooking 80 = .ok (.lmul, 1) := by decide +kernel
theorem dX10_dearestBooking_81 : decode cX10_dearestBooking 81 = .ok (.aload_n 0, 1) := by decide +kernel
theorem dX10_dearestBooking_82 : decode cX10_dearestBooking 82 = .ok (.iload_n 2, 1) := by decide +kernel
theorem dX10_dearestBooking_83 : decode cX10_dearestBooking 83 = .ok (.iconst 3, 1) := by decide +kernel
theorem dX10_dearestBooking_84 : decode cX10_dearestBooking 84 = .ok (.invokevirtual 102, 3) := by decide +kernel
theorem dX10_dearestBooking_87 : decode cX10_dearestBooking 87 = .ok (.i2l, 1) := by decide +kernel
theorem dX10_dearestBooking_88 : decode cX10_dearestBooking 88 = .ok (.aload_n 0, 1) := by decide +kernel
theorem dX10_dearestBooking_89 : decode cX10_dearestBooking 89 = .ok (.iload_n 3, 1) := by decide +kernel
theorem dX10_dearestBooking_90 : decode cX10_dearestBooking 90 = .ok (.invokevirtual 209, 3) := by decide +kernel
theorem dX10_dearestBooking_93 : decode cX10_dearestBooking 93 = .ok (.lmul, 1) := by decide +kernel
theorem dX10_dearestBooking_94 : decode cX10_dearestBooking 94 = .ok (.lcmp, 1) := by decide +kernel
theorem dX10_dearestBooking_95 : decode cX10_dearestBooking 95 = .ok (.ifCond .le 5, 3) := by decide +kernel
theorem dX10_dearestBooking_98 : decode cX10_dearestBooking 98 = .ok (.iload_n 3, 1) := by decide +kernel
theorem dX10_dearestBooking_99 : decode cX10_dearestBooking 99 = .ok (.istore_n 2, 1) := by decide +kernel
theorem dX10_dearestBooking_100 : decode cX10_dearestBooking 100 = .ok (.iinc 3 1, 3) := by decide +kernel
theorem dX10_dearestBooking_103 : decode cX10_dearestBooking 103 = .ok (.goto (-80), 3) := by decide +kernel
theorem dX10_dearestBooking_106 : decode cX10_dearestBooking 106 = .ok (.iload_n 2, 1) := by decide +kernel
theorem dX10_dearestBooking_107 : decode cX10_dearestBooking 107 = .ok (.ireturn, 1) := by decide +kernel
theorem dX10_busiestNight_0 : decode cX10_busiestNight 0 = .ok (.aload_n 0, 1) := by decide +kernel
theorem dX10_busiestNight_1 : decode cX10_busiestNight 1 = .ok (.iconst 0, 1) := by decide +kernel
theorem dX10_busiestNight_2 : decode cX10_busiestNight 2 = .ok (.putfield 36, 3) := by decide +kernel
theorem dX10_busiestNight_5 : decode cX10_busiestNight 5 = .ok (.aload_n 0, 1) := by decide +kernel
theorem dX10_busiestNight_6 : decode cX10_busiestNight 6 = .ok (.iload_n 1, 1) := by decide +kernel
theorem dX10_busiestNight_7 : decode cX10_busiestNight 7 = .ok (.invokevirtual 51, 3) := by decide +kernel
theorem dX10_busiestNight_10 : decode cX10_busiestNight 10 = .ok (.ifCond .ne 9, 3) := by decide +kernel
theorem dX10_busiestNight_13 : decode cX10_busiestNight 13 = .ok (.aload_n 0, 1) := by decide +kernel
theorem dX10_busiestNight_14 : decode cX10_busiestNight 14 = .ok (.iconst 1, 1) := by decide +kernel
theorem dX10_busiestNight_15 : decode cX10_busiestNight 15 = .ok (.invokevirtual 43, 3) := by decide +kernel
theorem dX10_busiestNight_18 : decode cX10_busiestNight 18 = .ok (.ireturn, 1) := by decide +kernel
theorem dX10_busiestNight_19 : decode cX10_busiestNight 19 = .ok (.aload_n 0, 1) := by decide +kernel
theorem dX10_busiestNight_20 : decode cX10_busiestNight 20 = .ok (.iload_n 2, 1) := by decide +kernel
theorem dX10_busiestNight_21 : decode cX10_busiestNight 21 = .ok (.invokevirtual 88, 3) := by decide +kernel
theorem dX10_busiestNight_24 : decode cX10_busiestNight 24 = .ok (.ifCond .eq 14, 3) := by decide +kernel
theorem dX10_busiestNight_27 : decode cX10_busiestNight 27 = .ok (.iload_n 3, 1) := by decide +kernel
theorem dX10_busiestNight_28 : decode cX10_busiestNight 28 = .ok (.iload_n 2, 1) := by decide +kernel
theorem dX10_busiestNight_29 : decode cX10_busiestNight 29 = .ok (.sipush 998, 3) := by decide +kernel
theorem dX10_busiestNight_32 : decode cX10_busiestNight 32 = .ok (.invokestatic 39, 3) := by decide +kernel
theorem dX10_busiestNight_35 : decode cX10_busiestNight 35 = .ok (.ifCond .ne 9, 3) := by decide +kernel
theorem dX10_busiestNight_38 : decode cX10_busiestNight 38 = .ok (.aload_n 0, 1) := by decide +kernel
theorem dX10_busiestNight_39 : decode cX10_busiestNight 39 = .ok (.iconst 2, 1) := by decide +kernel
theorem dX10_busiestNight_40 : decode cX10_busiestNight 40 = .ok (.invokevirtual 43, 3) := by decide +kernel
theorem dX10_busiestNight_43 : decode cX10_busiestNight 43 = .ok (.ireturn, 1) := by decide +kernel
theorem dX10_busiestNight_44 : decode cX10_busiestNight 44 = .ok (.iload_n 2, 1) := by decide +kernel
theorem dX10_busiestNight_45 : decode cX10_busiestNight 45 = .ok (.istore 4, 2) := by decide +kernel
theorem dX10_busiestNight_47 : decode cX10_busiestNight 47 = .ok (.iload_n 2, 1) := by decide +kernel
theorem dX10_busiestNight_48 : decode cX10_busiestNight 48 = .ok (.istore 5, 2) := by decide +kernel
theorem dX10_busiestNight_50 : decode cX10_busiestNight 50 = .ok (.iload 5, 2) := by decide +kernel
theorem dX10_busiestNight_52 : decode cX10_busiestNight 52 = .ok (.iload_n 3, 1) := by decide +kernel
theorem dX10_busiestNight_53 : decode cX10_busiestNight 53 = .ok (.if_icmp .gt 35, 3) := by decide +kernel
theorem dX10_busiestNight_56 : decode cX10_busiestNight 56 = .ok (.aload_n 0, 1) := by decide +kernel
theorem dX10_busiestNight_57 : decode cX10_busiestNight 57 = .ok (.iload_n 1, 1) := by decide +kernel
theorem dX10_busiestNight_58 : decode cX10_busiestNight 58 = .ok (.iload 5, 2) := by decide +kernel
theorem dX10_busiestNight_60 : decode cX10_busiestNight 60 = .ok (.invokevirtual 111, 3) := by decide +kernel
theorem dX10_busiestNight_63 : decode cX10_busiestNight 63 = .ok (.aload_n 0, 1) := by decide +kernel
theorem dX10_busiestNight_64 : decode cX10_busiestNight 64 = .ok (.iload_n 1, 1) := by decide +kernel
theorem dX10_busiestNight_65 : decode cX10_busiestNight 65 = .ok (.iload 4, 2) := by decide +kernel
theorem dX10_busiestNight_67 : decode cX10_busiestNight 67 = .ok (.invokevirtual 111, 3) := by decide +kernel
theorem dX10_busiestNight_70 : decode cX10_busiestNight 70 = .ok (.if_icmp .le 8, 3) := by decide +kernel
theorem dX10_busiestNight_73 : decode cX10_busiestNight 73 = .ok (.iload 5, 2) := by decide +kernel
theorem dX10_busiestNight_75 : decode cX10_busiestNight 75 = .ok (.goto 5, 3) := by decide +kernel
theorem dX10_busiestNight_78 : decode cX10_busiestNight 78 = .ok (.iload 4, 2) := by decide +kernel
theorem dX10_busiestNight_80 : decode cX10_busiestNight 80 = .ok (.istore 4, 2) := by decide +kernel
theorem dX10_busiestNight_82 : decode cX10_busiestNight 82 = .ok (.iinc 5 1, 3) := by decide +kernel
theorem dX10_busiestNight_85 : decode cX10_busiestNight 85 = .ok (.goto (-35), 3) := by decide +kernel
theorem dX10_busiestNight_88 : decode cX10_busiestNight 88 = .ok (.iload 4, 2) := by decide +kernel
theorem dX10_busiestNight_90 : decode cX10_busiestNight 90 = .ok (.ireturn, 1) := by decide +kernel
theorem dX10_revenue_0 : decode cX10_revenue 0 = .ok (.aload_n 0, 1) := by decide +kernel
theorem dX10_revenue_1 : decode cX10_revenue 1 = .ok (.iconst 0, 1) := by decide +kernel
theorem dX10_revenue_2 : decode cX10_revenue 2 = .ok (.putfield 36, 3) := by decide +kernel
theorem dX10_revenue_5 : decode cX10_revenue 5 = .ok (.iconst 0, 1) := by decide +kernel
theorem dX10_revenue_6 : decode cX10_revenue 6 = .ok (.istore_n 1, 1) := by decide +kernel
theorem dX10_revenue_7 : decode cX10_revenue 7 = .ok (.iconst 0, 1) := by decide +kernel
theorem dX10_revenue_8 : decode cX10_revenue 8 = .ok (.istore_n 2, 1) := by decide +kernel
theorem dX10_revenue_9 : decode cX10_revenue 9 = .ok (.iload_n 2, 1) := by decide +kernel
theorem dX10_revenue_10 : decode cX10_revenue 10 = .ok (.aload_n 0, 1) := by decide +kernel
theorem dX10_revenue_11 : decode cX10_revenue 11 = .ok (.getfield 7, 3) := by decide +kernel
theorem dX10_revenue_14 : decode cX10_revenue 14 = .ok (.iconst 4, 1) := by decide +kernel
theorem dX10_revenue_15 : decode cX10_revenue 15 = .ok (.iaload, 1) := by decide +kernel
theorem dX10_revenue_16 : decode cX10_revenue 16 = .ok (.if_icmp .ge 18, 3) := by decide +kernel
theorem dX10_revenue_19 : decode cX10_revenue 19 = .ok (.iload_n 1, 1) := by decide +kernel
theorem dX10_revenue_20 : decode cX10_revenue 20 = .ok (.aload_n 0, 1) := by decide +kernel
theorem dX10_revenue_21 : decode cX10_revenue 21 = .ok (.iload_n 2, 1) := by decide +kernel
theorem dX10_revenue_22 : decode cX10_revenue 22 = .ok (.iconst 3, 1) := by decide +kernel
theorem dX10_revenue_23 : decode cX10_revenue 23 = .ok (.invokevirtual 102, 3) := by decide +kernel
theorem dX10_revenue_26 : decode cX10_revenue 26 = .ok (.iadd, 1) := by decide +kernel
theorem dX10_revenue_27 : decode cX10_revenue 27 = .ok (.istore_n 1, 1) := by decide +kernel
theorem dX10_revenue_28 : decode cX10_revenue 28 = .ok (.iinc 2 1, 3) := by decide +kernel
theorem dX10_revenue_31 : decode cX10_revenue 31 = .ok (.goto (-22), 3) := by decide +kernel
theorem dX10_revenue_34 : decode cX10_revenue 34 = .ok (.iload_n 1, 1) := by decide +kernel
theorem dX10_revenue_35 : decode cX10_revenue 35 = .ok (.ireturn, 1) := by decide +kernel
theorem dX10_appendText_0 : decode cX10_appendText 0 = .ok (.aload_n 0, 1) := by decide +kernel
theorem dX10_appendText_1 : decode cX10_appendText 1 = .ok (.iconst 0, 1) := by decide +kernel
theorem dX10_appendText_2 : decode cX10_appendText 2 = .ok (.putfield 36, 3) := by decide +kernel
theorem dX10_appendText_5 : decode cX10_appendText 5 = .ok (.aload_n 0, 1) := by decide +kernel
theorem dX10_appendText_6 : decode cX10_appendText 6 = .ok (.getfield 213, 3) := by decide +kernel
theorem dX10_appendText_9 : decode cX10_appendText 9 = .ok (.iconst 4, 1) := by decide +kernel
theorem dX10_appendText_10 : decode cX10_appendText 10 = .ok (.iadd, 1) := by decide +kernel
theorem dX10_appendText_11 : decode cX10_appendText 11 = .ok (.sipush 500, 3) := by decide +kernel
theorem dX10_appendText_14 : decode cX10_appendText 14 = .ok (.if_icmp .le 9, 3) := by decide +kernel
theorem dX10_appendText_17 : decode cX10_appendText 17 = .ok (.aload_n 0, 1) := by decide +kernel
theorem dX10_appendText_18 : decode cX10_appendText 18 = .ok (.iconst 1, 1) := by decide +kernel
theorem dX10_appendText_19 : decode cX10_appendText 19 = .ok (.invokevirtual 43, 3) := by decide +kernel
theorem dX10_appendText_22 : decode cX10_appendText 22 = .ok (.ireturn, 1) := by decide +kernel
theorem dX10_appendText_23 : decode cX10_appendText 23 = .ok (.bipush 24, 2) := by decide +kernel
theorem dX10_appendText_25 : decode cX10_appendText 25 = .ok (.istore_n 2, 1) := by decide +kernel
theorem dX10_appendText_26 : decode cX10_appendText 26 = .ok (.iload_n 2, 1) := by decide +kernel
theorem dX10_appendText_27 : decode cX10_appendText 27 = .ok (.ifCond .lt 35, 3) := by decide +kernel
theorem dX10_appendText_30 : decode cX10_appendText 30 = .ok (.aload_n 0, 1) := by decide +kernel
theorem dX10_appendText_31 : decode cX10_appendText 31 = .ok (.getfield 29, 3) := by decide +kernel
theorem dX10_appendText_34 : decode cX10_appendText 34 = .ok (.aload_n 0, 1) := by decide +kernel
theorem dX10_appendText_35 : decode cX10_appendText 35 = .ok (.getfield 213, 3) := by decide +kernel
theorem dX10_appendText_38 : decode cX10_appendText 38 = .ok (.iload_n 1, 1) := by decide +kernel
theorem dX10_appendText_39 : decode cX10_appendText 39 = .ok (.iload_n 2, 1) := by decide +kernel
theorem dX10_appendText_40 : decode cX10_appendText 40 = .ok (.ishr, 1) := by decide +kernel
theorem dX10_appendText_41 : decode cX10_appendText 41 = .ok (.sipush 255, 3) := by decide +kernel
theorem dX10_appendText_44 : decode cX10_appendText 44 = .ok (.iand, 1) := by decide +kernel
theorem dX10_appendText_45 : decode cX10_appendText 45 = .ok (.iastore, 1) := by decide +kernel
theorem dX10_appendText_46 : decode cX10_appendText 46 = .ok (.aload_n 0, 1) := by decide +kernel
theorem dX10_appendText_47 : decode cX10_appendText 47 = .ok (.dup, 1) := by decide +kernel
theorem dX10_appendText_48 : decode cX10_appendText 48 = .ok (.getfield 213, 3) := by decide +kernel
theorem dX10_appendText_51 : decode cX10_appendText 51 = .ok (.iconst 1, 1) := by decide +kernel
theorem dX10_appendText_52 : decode cX10_appendText 52 = .ok (.iadd, 1) := by decide +kernel
theorem dX10_appendText_53 : decode cX10_appendText 53 = .ok (.putfield 213, 3) := by decide +kernel
theorem dX10_appendText_56 : decode cX10_appendText 56 = .ok (.iinc 2 (-8), 3) := by decide +kernel
theorem dX10_appendText_59 : decode cX10_appendText 59 = .ok (.goto (-33), 3) := by decide +kernel
theorem dX10_appendText_62 : decode cX10_appendText 62 = .ok (.aload_n 0, 1) := by decide +kernel
theorem dX10_appendText_63 : decode cX10_appendText 63 = .ok (.getfield 213, 3) := by decide +kernel
theorem dX10_appendText_66 : decode cX10_appendText 66 = .ok (.ireturn, 1) := by decide +kernel
theorem dX10_truncateText_0 : decode cX10_truncateText 0 = .ok (.aload_n 0, 1) := by decide +kernel
theorem dX10_truncateText_1 : decode cX10_truncateText 1 = .ok (.iconst 0, 1) := by decide +kernel
theorem dX10_truncateText_2 : decode cX10_truncateText 2 = .ok (.putfield 36, 3) := by decide +kernel
theorem dX10_truncateText_5 : decode cX10_truncateText 5 = .ok (.iload_n 1, 1) := by decide +kernel
theorem dX10_truncateText_6 : decode cX10_truncateText 6 = .ok (.iconst 0, 1) := by decide +kernel
theorem dX10_truncateText_7 : decode cX10_truncateText 7 = .ok (.aload_n 0, 1) := by decide +kernel
theorem dX10_truncateText_8 : decode cX10_truncateText 8 = .ok (.getfield 213, 3) := by decide +kernel
theorem dX10_truncateText_11 : decode cX10_truncateText 11 = .ok (.invokestatic 39, 3) := by decide +kernel
theorem dX10_truncateText_14 : decode cX10_truncateText 14 = .ok (.ifCond .ne 9, 3) := by decide +kernel
theorem dX10_truncateText_17 : decode cX10_truncateText 17 = .ok (.aload_n 0, 1) := by decide +kernel
theorem dX10_truncateText_18 : decode cX10_truncateText 18 = .ok (.iconst 1, 1) := by decide +kernel
theorem dX10_truncateText_19 : decode cX10_truncateText 19 = .ok (.invokevirtual 43, 3) := by decide +kernel
theorem dX10_truncateText_22 : decode cX10_truncateText 22 = .ok (.ireturn, 1) := by decide +kernel
theorem dX10_truncateText_23 : decode cX10_truncateText 23 = .ok (.aload_n 0, 1) := by decide +kernel
theorem dX10_truncateText_24 : decode cX10_truncateText 24 = .ok (.iload_n 1, 1) := by decide +kernel
theorem dX10_truncateText_25 : decode cX10_truncateText 25 = .ok (.putfield 213, 3) := by decide +kernel
theorem dX10_truncateText_28 : decode cX10_truncateText 28 = .ok (.aload_n 0, 1) := by decide +kernel
theorem dX10_truncateText_29 : decode cX10_truncateText 29 = .ok (.getfield 213, 3) := by decide +kernel
theorem dX10_truncateText_32 : decode cX10_truncateText 32 = .ok (.ireturn, 1) := by decide +kernel
theorem dX10_byteAt_0 : decode cX10_byteAt 0 = .ok (.iload_n 1, 1) := by decide +kernel
theorem dX10_byteAt_1 : decode cX10_byteAt 1 = .ok (.aload_n 0, 1) := by decide +kernel
theorem dX10_byteAt_2 : decode cX10_byteAt 2 = .ok (.getfield 213, 3) := by decide +kernel
theorem dX10_byteAt_5 : decode cX10_byteAt 5 = .ok (.if_icmp .ge 12, 3) := by decide +kernel
theorem dX10_byteAt_8 : decode cX10_byteAt 8 = .ok (.aload_n 0, 1) := by decide +kernel
theorem dX10_byteAt_9 : decode cX10_byteAt 9 = .ok (.getfield 29, 3) := by decide +kernel
theorem dX10_byteAt_12 : decode cX10_byteAt 12 = .ok (.iload_n 1, 1) := by decide +kernel
theorem dX10_byteAt_13 : decode cX10_byteAt 13 = .ok (.iaload, 1) := by decide +kernel
theorem dX10_byteAt_14 : decode cX10_byteAt 14 = .ok (.goto 4, 3) := by decide +kernel
theorem dX10_byteAt_17 : decode cX10_byteAt 17 = .ok (.iconst (-1), 1) := by decide +kernel
theorem dX10_byteAt_18 : decode cX10_byteAt 18 = .ok (.ireturn, 1) := by decide +kernel
theorem dX10_isLetter_0 : decode cX10_isLetter 0 = .ok (.iload_n 0, 1) := by decide +kernel
theorem dX10_isLetter_1 : decode cX10_isLetter 1 = .ok (.bipush 97, 2) := by decide +kernel
theorem dX10_isLetter_3 : decode cX10_isLetter 3 = .ok (.bipush 122, 2) := by decide +kernel
theorem dX10_isLetter_5 : decode cX10_isLetter 5 = .ok (.invokestatic 39, 3) := by decide +kernel
theorem dX10_isLetter_8 : decode cX10_isLetter 8 = .ok (.ireturn, 1) := by decide +kernel
theorem dX10_isDigit_0 : decode cX10_isDigit 0 = .ok (.iload_n 0, 1) := by decide +kernel
theorem dX10_isDigit_1 : decode cX10_isDigit 1 = .ok (.bipush 48, 2) := by decide +kernel
theorem dX10_isDigit_3 : decode cX10_isDigit 3 = .ok (.bipush 57, 2) := by decide +kernel
theorem dX10_isDigit_5 : decode cX10_isDigit 5 = .ok (.invokestatic 39, 3) := by decide +kernel
theorem dX10_isDigit_8 : decode cX10_isDigit 8 = .ok (.ireturn, 1) := by decide +kernel
theorem dX10_nextToken_0 : decode cX10_nextToken 0 = .ok (.aload_n 0, 1) := by decide +kernel
theorem dX10_nextToken_1 : decode cX10_nextToken 1 = .ok (.aload_n 0, 1) := by decide +kernel
theorem dX10_nextToken_2 : decode cX10_nextToken 2 = .ok (.getfield 216, 3) := by decide +kernel
theorem dX10_nextToken_5 : decode cX10_nextToken 5 = .ok (.invokevirtual 219, 3) := by decide +kernel
theorem dX10_nextToken_8 : decode cX10_nextToken 8 = .ok (.bipush 32, 2) := by decide +kernel
theorem dX10_nextToken_10 : decode cX10_nextToken 10 = .ok (.if_icmp .eq 16, 3) := by decide +kernel
theorem dX10_nextToken_13 : decode cX10_nextToken 13 = .ok (.aload_n 0, 1) := by decide +kernel
theorem dX10_nextToken_14 : decode cX10_nextToken 14 = .ok (.aload_n 0, 1) := by decide +kernel
theorem dX10_nextToken_15 : decode cX10_nextToken 15 = .ok (.getfield 216, 3) := by decide +kernel
theorem dX10_nextToken_18 : decode cX10_nextToken 18 = .ok (.invokevirtual 219, 3) := by decide +kernel
theorem dX10_nextToken_21 : decode cX10_nextToken 21 = .ok (.bipush 10, 2) := by decide +kernel
theorem dX10_nextToken_23 : decode cX10_nextToken 23 = .ok (.if_icmp .ne 16, 3) := by decide +kernel
theorem dX10_nextToken_26 : decode cX10_nextToken 26 = .ok (.aload_n 0, 1) := by decide +kernel
theorem dX10_nextToken_27 : decode cX10_nextToken 27 = .ok (.dup, 1) := by decide +kernel
theorem dX10_nextToken_28 : decode cX10_nextToken 28 = .ok (.getfield 216, 3) := by decide +kernel
theorem dX10_nextToken_31 : decode cX10_nextToken 31 = .ok (.iconst 1, 1) := by decide +kernel
theorem dX10_nextToken_32 : decode cX10_nextToken 32 = .ok (.iadd, 1) := by decide +kernel
theorem dX10_nextToken_33 : decode cX10_nextToken 33 = .ok (.putfield 216, 3) := by decide +kernel
theorem dX10_nextToken_36 : decode cX10_nextToken 36 = .ok (.goto (-36), 3) := by decide +kernel
theorem dX10_nextToken_39 : decode cX10_nextToken 39 = .ok (.aload_n 0, 1) := by decide +kernel
theorem dX10_nextToken_40 : decode cX10_nextToken 40 = .ok (.aload_n 0, 1) := by decide +kernel
theorem dX10_nextToken_41 : decode cX10_nextToken 41 = .ok (.getfield 216, 3) := by decide +kernel
theorem dX10_nextToken_44 : decode cX10_nextToken 44 = .ok (.putfield 222, 3) := by decide +kernel
theorem dX10_nextToken_47 : decode cX10_nextToken 47 = .ok (.aload_n 0, 1) := by decide +kernel
theorem dX10_nextToken_48 : decode cX10_nextToken 48 = .ok (.iconst 0, 1) := by decide +kernel
theorem dX10_nextToken_49 : decode cX10_nextToken 49 = .ok (.putfield 225, 3) := by decide +kernel
theorem dX10_nextToken_52 : decode cX10_nextToken 52 = .ok (.aload_n 0, 1) := by decide +kernel
theorem dX10_nextToken_53 : decode cX10_nextToken 53 = .ok (.lconst 0, 1) := by decide +kernel
theorem dX10_nextToken_54 : decode cX10_nextToken 54 = .ok (.putfield 228, 3) := by decide +kernel
theorem dX10_nextToken_57 : decode cX10_nextToken 57 = .ok (.aload_n 0, 1) := by decide +kernel
theorem dX10_nextToken_58 : decode cX10_nextToken 58 = .ok (.iconst 0, 1) := by decide +kernel
theorem dX10_nextToken_59 : decode cX10_nextToken 59 = .ok (.putfield 232, 3) := by decide +kernel
theorem dX10_nextToken_62 : decode cX10_nextToken 62 = .ok (.aload_n 0, 1) := by decide +kernel
theorem dX10_nextToken_63 : decode cX10_nextToken 63 = .ok (.aload_n 0, 1) := by decide +kernel
theorem dX10_nextToken_64 : decode cX10_nextToken 64 = .ok (.getfield 216, 3) := by decide +kernel
theorem dX10_nextToken_67 : decode cX10_nextToken 67 = .ok (.invokevirtual 219, 3) := by decide +kernel
theorem dX10_nextToken_70 : decode cX10_nextToken 70 = .ok (.istore_n 1, 1) := by decide +kernel
theorem dX10_nextToken_71 : decode cX10_nextToken 71 = .ok (.iload_n 1, 1) := by decide +kernel
theorem dX10_nextToken_72 : decode cX10_nextToken 72 = .ok (.iconst (-1), 1) := by decide +kernel
theorem dX10_nextToken_73 : decode cX10_nextToken 73 = .ok (.if_icmp .ne 11, 3) := by decide +kernel
theorem dX10_nextToken_76 : decode cX10_nextToken 76 = .ok (.aload_n 0, 1) := by decide +kernel
theorem dX10_nextToken_77 : decode cX10_nextToken 77 = .ok (.iconst 0, 1) := by decide +kernel
theorem dX10_nextToken_78 : decode cX10_nextToken 78 = .ok (.putfield 235, 3) := by decide +kernel
theorem dX10_nextToken_81 : decode cX10_nextToken 81 = .ok (.goto 198, 3) := by decide +kernel
theorem dX10_nextToken_84 : decode cX10_nextToken 84 = .ok (.iload_n 1, 1) := by decide +kernel
theorem dX10_nextToken_85 : decode cX10_nextToken 85 = .ok (.invokestatic 238, 3) := by decide +kernel
theorem dX10_nextToken_88 : decode cX10_nextToken 88 = .ok (.ifCond .eq 87, 3) := by decide +kernel
theorem dX10_nextToken_91 : decode cX10_nextToken 91 = .ok (.aload_n 0, 1) := by decide +kernel
theorem dX10_nextToken_92 : decode cX10_nextToken 92 = .ok (.iconst 2, 1) := by decide +kernel
theorem dX10_nextToken_93 : decode cX10_nextToken 93 = .ok (.putfield 235, 3) := by decide +kernel
theorem dX10_nextToken_96 : decode cX10_nextToken 96 = .ok (.aload_n 0, 1) := by decide +kernel
theorem dX10_nextToken_97 : decode cX10_nextToken 97 = .ok (.aload_n 0, 1) := by decide +kernel
theorem dX10_nextToken_98 : decode cX10_nextToken 98 = .ok (.getfield 216, 3) := by decide +kernel
theorem dX10_nextToken_101 : decode cX10_nextToken 101 = .ok (.invokevirtual 219, 3) := by decide +kernel
theorem dX10_nextToken_104 : decode cX10_nextToken 104 = .ok (.invokestatic 238, 3) := by decide +kernel
theorem dX10_nextToken_107 : decode cX10_nextToken 107 = .ok (.ifCond .eq 172, 3) := by decide +kernel
theorem dX10_nextToken_110 : decode cX10_nextToken 110 = .ok (.aload_n 0, 1) := by decide +kernel
theorem dX10_nextToken_111 : decode cX10_nextToken 111 = .ok (.aload_n 0, 1) := by decide +kernel
theorem dX10_nextToken_112 : decode cX10_nextToken 112 = .ok (.getfield 225, 3) := by decide +kernel
theorem dX10_nextToken_115 : decode cX10_nextToken 115 = .ok (.bipush 8, 2) := by decide +kernel
theorem dX10_nextToken_117 : decode cX10_nextToken 117 = .ok (.if_icmp .ge 28, 3) := by decide +kernel
theorem dX10_nextToken_120 : decode cX10_nextToken 120 = .ok (.ldc2_w 241, 3) := by decide +kernel
theorem dX10_nextToken_123 : decode cX10_nextToken 123 = .ok (.aload_n 0, 1) := by decide +kernel
theorem dX10_nextToken_124 : decode cX10_nextToken 124 = .ok (.getfield 228, 3) := by decide +kernel
theorem dX10_nextToken_127 : decode cX10_nextToken 127 = .ok (.lmul, 1) := by decide +kernel
theorem dX10_nextToken_128 : decode cX10_nextToken 128 = .ok (.aload_n 0, 1) := by decide +kernel
theorem dX10_nextToken_129 : decode cX10_nextToken 129 = .ok (.aload_n 0, 1) := by decide +kernel
theorem dX10_nextToken_130 : decode cX10_nextToken 130 = .ok (.getfield 216, 3) := by decide +kernel
theorem dX10_nextToken_133 : decode cX10_nextToken 133 = .ok (.invokevirtual 219, 3) := by decide +kernel
theorem dX10_nextToken_136 : decode cX10_nextToken 136 = .ok (.i2l, 1) := by decide +kernel
theorem dX10_nextToken_137 : decode cX10_nextToken 137 = .ok (.ladd, 1) := by decide +kernel
theorem dX10_nextToken_138 : decode cX10_nextToken 138 = .ok (.ldc2_w 243, 3) := by decide +kernel
theorem dX10_nextToken_141 : decode cX10_nextToken 141 = .ok (.lsub, 1) := by decide +kernel
theorem dX10_nextToken_142 : decode cX10_nextToken 142 = .ok (.goto 7, 3) := by decide +kernel
theorem dX10_nextToken_145 : decode cX10_nextToken 145 = .ok (.aload_n 0, 1) := by decide +kernel
theorem dX10_nextToken_146 : decode cX10_nextToken 146 = .ok (.getfield 228, 3) := by decide +kernel
theorem dX10_nextToken_149 : decode cX10_nextToken 149 = .ok (.putfield 228, 3) := by decide +kernel
theorem dX10_nextToken_152 : decode cX10_nextToken 152 = .ok (.aload_n 0, 1) := by decide +kernel
theorem dX10_nextToken_153 : decode cX10_nextToken 153 = .ok (.dup, 1) := by decide +kernel
theorem dX10_nextToken_154 : decode cX10_nextToken 154 = .ok (.getfield 225, 3) := by decide +kernel
theorem dX10_nextToken_157 : decode cX10_nextToken 157 = .ok (.iconst 1, 1) := by decide +kernel
theorem dX10_nextToken_158 : decode cX10_nextToken 158 = .ok (.iadd, 1) := by decide +kernel
theorem dX10_nextToken_159 : decode cX10_nextToken 159 = .ok (.putfield 225, 3) := by decide +kernel
theorem dX10_nextToken_162 : decode cX10_nextToken 162 = .ok (.aload_n 0, 1) := by decide +kernel
theorem dX10_nextToken_163 : decode cX10_nextToken 163 = .ok (.dup, 1) := by decide +kernel
theorem dX10_nextToken_164 : decode cX10_nextToken 164 = .ok (.getfield 216, 3) := by decide +kernel
theorem dX10_nextToken_167 : decode cX10_nextToken 167 = .ok (.iconst 1, 1) := by decide +kernel
theorem dX10_nextToken_168 : decode cX10_nextToken 168 = .ok (.iadd, 1) := by decide +kernel
theorem dX10_nextToken_169 : decode cX10_nextToken 169 = .ok (.putfield 216, 3) := by decide +kernel
theorem dX10_nextToken_172 : decode cX10_nextToken 172 = .ok (.goto (-76), 3) := by decide +kernel
theorem dX10_nextToken_175 : decode cX10_nextToken 175 = .ok (.iload_n 1, 1) := by decide +kernel
theorem dX10_nextToken_176 : decode cX10_nextToken 176 = .ok (.invokestatic 245, 3) := by decide +kernel
theorem dX10_nextToken_179 : decode cX10_nextToken 179 = .ok (.ifCond .eq 75, 3) := by decide +kernel
theorem dX10_nextToken_182 : decode cX10_nextToken 182 = .ok (.aload_n 0, 1) := by decide +kernel
theorem dX10_nextToken_183 : decode cX10_nextToken 183 = .ok (.iconst 3, 1) := by decide +kernel
theorem dX10_nextToken_184 : decode cX10_nextToken 184 = .ok (.putfield 235, 3) := by decide +kernel
theorem dX10_nextToken_187 : decode cX10_nextToken 187 = .ok (.aload_n 0, 1) := by decide +kernel
theorem dX10_nextToken_188 : decode cX10_nextToken 188 = .ok (.aload_n 0, 1) := by decide +kernel
theorem dX10_nextToken_189 : decode cX10_nextToken 189 = .ok (.getfield 216, 3) := by decide +kernel
theorem dX10_nextToken_192 : decode cX10_nextToken 192 = .ok (.invokevirtual 219, 3) := by decide +kernel
theorem dX10_nextToken_195 : decode cX10_nextToken 195 = .ok (.invokestatic 245, 3) := by decide +kernel
theorem dX10_nextToken_198 : decode cX10_nextToken 198 = .ok (.ifCond .eq 81, 3) := by decide +kernel
theorem dX10_nextToken_201 : decode cX10_nextToken 201 = .ok (.aload_n 0, 1) := by decide +kernel
theorem dX10_nextToken_202 : decode cX10_nextToken 202 = .ok (.aload_n 0, 1) := by decide +kernel
theorem dX10_nextToken_203 : decode cX10_nextToken 203 = .ok (.getfield 232, 3) := by decide +kernel
theorem dX10_nextToken_206 : decode cX10_nextToken 206 = .ok (.sipush 9999, 3) := by decide +kernel
theorem dX10_nextToken_209 : decode cX10_nextToken 209 = .ok (.if_icmp .le 10, 3) := by decide +kernel
theorem dX10_nextToken_212 : decode cX10_nextToken 212 = .ok (.aload_n 0, 1) := by decide +kernel
theorem dX10_nextToken_213 : decode cX10_nextToken 213 = .ok (.getfield 232, 3) := by decide +kernel
theorem dX10_nextToken_216 : decode cX10_nextToken 216 = .ok (.goto 22, 3) := by decide +kernel
theorem dX10_nextToken_219 : decode cX10_nextToken 219 = .ok (.bipush 10, 2) := by decide +kernel
theorem dX10_nextToken_221 : decode cX10_nextToken 221 = .ok (.aload_n 0, 1) := by decide +kernel
theorem dX10_nextToken_222 : decode cX10_nextToken 222 = .ok (.getfield 232, 3) := by decide +kernel
theorem dX10_nextToken_225 : decode cX10_nextToken 225 = .ok (.imul, 1) := by decide +kernel
theorem dX10_nextToken_226 : decode cX10_nextToken 226 = .ok (.aload_n 0, 1) := by decide +kernel
theorem dX10_nextToken_227 : decode cX10_nextToken 227 = .ok (.aload_n 0, 1) := by decide +kernel
theorem dX10_nextToken_228 : decode cX10_nextToken 228 = .ok (.getfield 216, 3) := by decide +kernel
theorem dX10_nextToken_231 : decode cX10_nextToken 231 = .ok (.invokevirtual 219, 3) := by decide +kernel
theorem dX10_nextToken_234 : decode cX10_nextToken 234 = .ok (.iadd, 1) := by decide +kernel
theorem dX10_nextToken_235 : decode cX10_nextToken 235 = .ok (.bipush 48, 2) := by decide +kernel
theorem dX10_nextToken_237 : decode cX10_nextToken 237 = .ok (.isub, 1) := by decide +kernel
theorem dX10_nextToken_238 : decode cX10_nextToken 238 = .ok (.putfield 232, 3) := by decide +kernel
theorem dX10_nextToken_241 : decode cX10_nextToken 241 = .ok (.aload_n 0, 1) := by decide +kernel
theorem dX10_nextToken_242 : decode cX10_nextToken 242 = .ok (.dup, 1) := by decide +kernel
theorem dX10_nextToken_243 : decode cX10_nextToken 243 = .ok (.getfield 216, 3) := by decide +kernel
theorem dX10_nextToken_246 : decode cX10_nextToken 246 = .ok (.iconst 1, 1) := by decide +kernel
theorem dX10_nextToken_247 : decode cX10_nextToken 247 = .ok (.iadd, 1) := by decide +kernel
theorem dX10_nextToken_248 : decode cX10_nextToken 248 = .ok (.putfield 216, 3) := by decide +kernel
theorem dX10_nextToken_251 : decode cX10_nextToken 251 = .ok (.goto (-64), 3) := by decide +kernel
theorem dX10_nextToken_254 : decode cX10_nextToken 254 = .ok (.aload_n 0, 1) := by decide +kernel
theorem dX10_nextToken_255 : decode cX10_nextToken 255 = .ok (.iload_n 1, 1) := by decide +kernel
theorem dX10_nextToken_256 : decode cX10_nextToken 256 = .ok (.bipush 59, 2) := by decide +kernel
theorem dX10_nextToken_258 : decode cX10_nextToken 258 = .ok (.if_icmp .ne 7, 3) := by decide +kernel
theorem dX10_nextToken_261 : decode cX10_nextToken 261 = .ok (.iconst 4, 1) := by decide +kernel
theorem dX10_nextToken_262 : decode cX10_nextToken 262 = .ok (.goto 4, 3) := by decide +kernel
theorem dX10_nextToken_265 : decode cX10_nextToken 265 = .ok (.iconst 1, 1) := by decide +kernel
theorem dX10_nextToken_266 : decode cX10_nextToken 266 = .ok (.putfield 235, 3) := by decide +kernel
theorem dX10_nextToken_269 : decode cX10_nextToken 269 = .ok (.aload_n 0, 1) := by decide +kernel
theorem dX10_nextToken_270 : decode cX10_nextToken 270 = .ok (.dup, 1) := by decide +kernel
theorem dX10_nextToken_271 : decode cX10_nextToken 271 = .ok (.getfield 216, 3) := by decide +kernel
theorem dX10_nextToken_274 : decode cX10_nextToken 274 = .ok (.iconst 1, 1) := by decide +kernel
theorem dX10_nextToken_275 : decode cX10_nextToken 275 = .ok (.iadd, 1) := by decide +kernel
theorem dX10_nextToken_276 : decode cX10_nextToken 276 = .ok (.putfield 216, 3) := by decide +kernel
theorem dX10_nextToken_279 : decode cX10_nextToken 279 = .ok (.return_, 1) := by decide +kernel
theorem dX10_isWord_0 : decode cX10_isWord 0 = .ok (.aload_n 0, 1) := by decide +kernel
theorem dX10_isWord_1 : decode cX10_isWord 1 = .ok (.getfield 235, 3) := by decide +kernel
theorem dX10_isWord_4 : decode cX10_isWord 4 = .ok (.iconst 2, 1) := by decide +kernel
theorem dX10_isWord_5 : decode cX10_isWord 5 = .ok (.if_icmp .ne 14, 3) := by decide +kernel
theorem dX10_isWord_8 : decode cX10_isWord 8 = .ok (.aload_n 0, 1) := by decide +kernel
theorem dX10_isWord_9 : decode cX10_isWord 9 = .ok (.getfield 225, 3) := by decide +kernel
theorem dX10_isWord_12 : decode cX10_isWord 12 = .ok (.aload_n 1, 1) := by decide +kernel
theorem dX10_isWord_13 : decode cX10_isWord 13 = .ok (.invokevirtual 248, 3) := by decide +kernel
theorem dX10_isWord_16 : decode cX10_isWord 16 = .ok (.if_icmp .eq 5, 3) := by decide +kernel
theorem dX10_isWord_19 : decode cX10_isWord 19 = .ok (.iconst 0, 1) := by decide +kernel
theorem dX10_isWord_20 : decode cX10_isWord 20 = .ok (.ireturn, 1) := by decide +kernel
theorem dX10_isWord_21 : decode cX10_isWord 21 = .ok (.lconst 0, 1) := by decide +kernel
theorem dX10_isWord_22 : decode cX10_isWord 22 = .ok (.lstore_n 2, 1) := by decide +kernel
theorem dX10_isWord_23 : decode cX10_isWord 23 = .ok (.iconst 0, 1) := by decide +kernel
theorem dX10_isWord_24 : decode cX10_isWord 24 = .ok (.istore 4, 2) := by decide +kernel
theorem dX10_isWord_26 : decode cX10_isWord 26 = .ok (.iload 4, 2) := by decide +kernel
theorem dX10_isWord_28 : decode cX10_isWord 28 = .ok (.aload_n 1, 1) := by decide +kernel
theorem dX10_isWord_29 : decode cX10_isWord 29 = .ok (.invokevirtual 248, 3) := by decide +kernel
theorem dX10_isWord_32 : decode cX10_isWord 32 = .ok (.if_icmp .ge 27, 3) := by decide +kernel
theorem dX10_isWord_35 : decode cX10_isWord 35 = .ok (.ldc2_w 241, 3) := by decide +kernel
theorem dX10_isWord_38 : decode cX10_isWord 38 = .ok (.lload_n 2, 1) := by decide +kernel
theorem dX10_isWord_39 : decode cX10_isWord 39 = .ok (.lmul, 1) := by decide +kernel
theorem dX10_isWord_40 : decode cX10_isWord 40 = .ok (.aload_n 1, 1) := by decide +kernel
theorem dX10_isWord_41 : decode cX10_isWord 41 = .ok (.iload 4, 2) := by decide +kernel
theorem dX10_isWord_43 : decode cX10_isWord 43 = .ok (.invokevirtual 254, 3) := by decide +kernel
theorem dX10_isWord_46 : decode cX10_isWord 46 = .ok (.i2l, 1) := by decide +kernel
theorem dX10_isWord_47 : decode cX10_isWord 47 = .ok (.ladd, 1) := by decide +kernel
theorem dX10_isWord_48 : decode cX10_isWord 48 = .ok (.ldc2_w 243, 3) := by decide +kernel
theorem dX10_isWord_51 : decode cX10_isWord 51 = .ok (.lsub, 1) := by decide +kernel
theorem dX10_isWord_52 : decode cX10_isWord 52 = .ok (.lstore_n 2, 1) := by decide +kernel
theorem dX10_isWord_53 : decode cX10_isWord 53 = .ok (.iinc 4 1, 3) := by decide +kernel
theorem dX10_isWord_56 : decode cX10_isWord 56 = .ok (.goto (-30), 3) := by decide +kernel
theorem dX10_isWord_59 : decode cX10_isWord 59 = .ok (.aload_n 0, 1) := by decide +kernel
theorem dX10_isWord_60 : decode cX10_isWord 60 = .ok (.getfield 228, 3) := by decide +kernel
theorem dX10_isWord_63 : decode cX10_isWord 63 = .ok (.lload_n 2, 1) := by decide +kernel
theorem dX10_isWord_64 : decode cX10_isWord 64 = .ok (.lcmp, 1) := by decide +kernel
theorem dX10_isWord_65 : decode cX10_isWord 65 = .ok (.ifCond .ne 7, 3) := by decide +kernel
theorem dX10_isWord_68 : decode cX10_isWord 68 = .ok (.iconst 1, 1) := by decide +kernel
theorem dX10_isWord_69 : decode cX10_isWord 69 = .ok (.goto 4, 3) := by decide +kernel
theorem dX10_isWord_72 : decode cX10_isWord 72 = .ok (.iconst 0, 1) := by decide +kernel
theorem dX10_isWord_73 : decode cX10_isWord 73 = .ok (.ireturn, 1) := by decide +kernel
theorem dX10_require_0 : decode cX10_require 0 = .ok (.iload_n 1, 1) := by decide +kernel
theorem dX10_require_1 : decode cX10_require 1 = .ok (.ifCond .ne 23, 3) := by decide +kernel
theorem dX10_require_4 : decode cX10_require 4 = .ok (.aload_n 0, 1) := by decide +kernel
theorem dX10_require_5 : decode cX10_require 5 = .ok (.getfield 258, 3) := by decide +kernel
theorem dX10_require_8 : decode cX10_require 8 = .ok (.ifCond .ne 16, 3) := by decide +kernel
theorem dX10_require_11 : decode cX10_require 11 = .ok (.aload_n 0, 1) := by decide +kernel
theorem dX10_require_12 : decode cX10_require 12 = .ok (.iload_n 2, 1) := by decide +kernel
theorem dX10_require_13 : decode cX10_require 13 = .ok (.putfield 258, 3) := by decide +kernel
theorem dX10_require_16 : decode cX10_require 16 = .ok (.aload_n 0, 1) := by decide +kernel
theorem dX10_require_17 : decode cX10_require 17 = .ok (.aload_n 0, 1) := by decide +kernel
theorem dX10_require_18 : decode cX10_require 18 = .ok (.getfield 222, 3) := by decide +kernel
theorem dX10_require_21 : decode cX10_require 21 = .ok (.putfield 32, 3) := by decide +kernel
theorem dX10_require_24 : decode cX10_require 24 = .ok (.return_, 1) := by decide +kernel
theorem dX10_advanceToken_0 : decode cX10_advanceToken 0 = .ok (.aload_n 0, 1) := by decide +kernel
theorem dX10_advanceToken_1 : decode cX10_advanceToken 1 = .ok (.getfield 258, 3) := by decide +kernel
theorem dX10_advanceToken_4 : decode cX10_advanceToken 4 = .ok (.ifCond .ne 7, 3) := by decide +kernel
theorem dX10_advanceToken_7 : decode cX10_advanceToken 7 = .ok (.aload_n 0, 1) := by decide +kernel
theorem dX10_advanceToken_8 : decode cX10_advanceToken 8 = .ok (.invokevirtual 261, 3) := by decide +kernel
theorem dX10_advanceToken_11 : decode cX10_advanceToken 11 = .ok (.return_, 1) := by decide +kernel
theorem dX10_parseNumber_0 : decode cX10_parseNumber 0 = .ok (.aload_n 0, 1) := by decide +kernel
theorem dX10_parseNumber_1 : decode cX10_parseNumber 1 = .ok (.aload_n 0, 1) := by decide +kernel
theorem dX10_parseNumber_2 : decode cX10_parseNumber 2 = .ok (.getfield 235, 3) := by decide +kernel
theorem dX10_parseNumber_5 : decode cX10_parseNumber 5 = .ok (.iconst 3, 1) := by decide +kernel
theorem dX10_parseNumber_6 : decode cX10_parseNumber 6 = .ok (.if_icmp .ne 7, 3) := by decide +kernel
theorem dX10_parseNumber_9 : decode cX10_parseNumber 9 = .ok (.iconst 1, 1) := by decide +kernel
theorem dX10_parseNumber_10 : decode cX10_parseNumber 10 = .ok (.goto 4, 3) := by decide +kernel
theorem dX10_parseNumber_13 : decode cX10_parseNumber 13 = .ok (.iconst 0, 1) := by decide +kernel
theorem dX10_parseNumber_14 : decode cX10_parseNumber 14 = .ok (.iconst 1, 1) := by decide +kernel
theorem dX10_parseNumber_15 : decode cX10_parseNumber 15 = .ok (.invokevirtual 264, 3) := by decide +kernel
theorem dX10_parseNumber_18 : decode cX10_parseNumber 18 = .ok (.aload_n 0, 1) := by decide +kernel
theorem dX10_parseNumber_19 : decode cX10_parseNumber 19 = .ok (.aload_n 0, 1) := by decide +kernel
theorem dX10_parseNumber_20 : decode cX10_parseNumber 20 = .ok (.getfield 232, 3) := by decide +kernel
theorem dX10_parseNumber_23 : decode cX10_parseNumber 23 = .ok (.iload_n 1, 1) := by decide +kernel
theorem dX10_parseNumber_24 : decode cX10_parseNumber 24 = .ok (.iload_n 2, 1) := by decide +kernel
theorem dX10_parseNumber_25 : decode cX10_parseNumber 25 = .ok (.invokestatic 39, 3) := by decide +kernel
theorem dX10_parseNumber_28 : decode cX10_parseNumber 28 = .ok (.iconst 2, 1) := by decide +kernel
theorem dX10_parseNumber_29 : decode cX10_parseNumber 29 = .ok (.invokevirtual 264, 3) := by decide +kernel
theorem dX10_parseNumber_32 : decode cX10_parseNumber 32 = .ok (.aload_n 0, 1) := by decide +kernel
theorem dX10_parseNumber_33 : decode cX10_parseNumber 33 = .ok (.getfield 232, 3) := by decide +kernel
theorem dX10_parseNumber_36 : decode cX10_parseNumber 36 = .ok (.istore_n 3, 1) := by decide +kernel
theorem dX10_parseNumber_37 : decode cX10_parseNumber 37 = .ok (.aload_n 0, 1) := by decide +kernel
theorem dX10_parseNumber_38 : decode cX10_parseNumber 38 = .ok (.invokevirtual 268, 3) := by decide +kernel
theorem dX10_parseNumber_41 : decode cX10_parseNumber 41 = .ok (.iload_n 3, 1) := by decide +kernel
theorem dX10_parseNumber_42 : decode cX10_parseNumber 42 = .ok (.ireturn, 1) := by decide +kernel
theorem dX10_parseClass_0 : decode cX10_parseClass 0 = .ok (.aload_n 0, 1) := by decide +kernel
theorem dX10_parseClass_1 : decode cX10_parseClass 1 = .ok (.aload_n 0, 1) := by decide +kernel
theorem dX10_parseClass_2 : decode cX10_parseClass 2 = .ok (.getfield 7, 3) := by decide +kernel
theorem dX10_parseClass_5 : decode cX10_parseClass 5 = .ok (.iconst 1, 1) := by decide +kernel
theorem dX10_parseClass_6 : decode cX10_parseClass 6 = .ok (.iaload, 1) := by decide +kernel
theorem dX10_parseClass_7 : decode cX10_parseClass 7 = .ok (.iconst 4, 1) := by decide +kernel
theorem dX10_parseClass_8 : decode cX10_parseClass 8 = .ok (.if_icmp .ge 7, 3) := by decide +kernel
theorem dX10_parseClass_11 : decode cX10_parseClass 11 = .ok (.iconst 1, 1) := by decide +kernel
theorem dX10_parseClass_12 : decode cX10_parseClass 12 = .ok (.goto 4, 3) := by decide +kernel
theorem dX10_parseClass_15 : decode cX10_parseClass 15 = .ok (.iconst 0, 1) := by decide +kernel
theorem dX10_parseClass_16 : decode cX10_parseClass 16 = .ok (.iconst 3, 1) := by decide +kernel
theorem dX10_parseClass_17 : decode cX10_parseClass 17 = .ok (.invokevirtual 264, 3) := by decide +kernel
theorem dX10_parseClass_20 : decode cX10_parseClass 20 = .ok (.aload_n 0, 1) := by decide +kernel
theorem dX10_parseClass_21 : decode cX10_parseClass 21 = .ok (.invokevirtual 268, 3) := by decide +kernel
theorem dX10_parseClass_24 : decode cX10_parseClass 24 = .ok (.aload_n 0, 1) := by decide +kernel
theorem dX10_parseClass_25 : decode cX10_parseClass 25 = .ok (.iconst 1, 1) := by decide +kernel
theorem dX10_parseClass_26 : decode cX10_parseClass 26 = .ok (.sipush 200, 3) := by decide +kernel
theorem dX10_parseClass_29 : decode cX10_parseClass 29 = .ok (.invokevirtual 271, 3) := by decide +kernel
theorem dX10_parseClass_32 : decode cX10_parseClass 32 = .ok (.istore_n 1, 1) := by decide +kernel
theorem dX10_parseClass_33 : decode cX10_parseClass 33 = .ok (.aload_n 0, 1) := by decide +kernel
theorem dX10_parseClass_34 : decode cX10_parseClass 34 = .ok (.iconst 0, 1) := by decide +kernel
theorem dX10_parseClass_35 : decode cX10_parseClass 35 = .ok (.iload_n 1, 1) := by decide +kernel
theorem dX10_parseClass_36 : decode cX10_parseClass 36 = .ok (.invokevirtual 271, 3) := by decide +kernel
theorem dX10_parseClass_39 : decode cX10_parseClass 39 = .ok (.istore_n 2, 1) := by decide +kernel
theorem dX10_parseClass_40 : decode cX10_parseClass 40 = .ok (.aload_n 0, 1) := by decide +kernel
theorem dX10_parseClass_41 : decode cX10_parseClass 41 = .ok (.iconst 0, 1) := by decide +kernel
theorem dX10_parseClass_42 : decode cX10_parseClass 42 = .ok (.bipush 16, 2) := by decide +kernel
theorem dX10_parseClass_44 : decode cX10_parseClass 44 = .ok (.invokevirtual 271, 3) := by decide +kernel
theorem dX10_parseClass_47 : decode cX10_parseClass 47 = .ok (.istore_n 3, 1) := by decide +kernel
theorem dX10_parseClass_48 : decode cX10_parseClass 48 = .ok (.aload_n 0, 1) := by decide +kernel
theorem dX10_parseClass_49 : decode cX10_parseClass 49 = .ok (.getfield 258, 3) := by decide +kernel
theorem dX10_parseClass_52 : decode cX10_parseClass 52 = .ok (.ifCond .ne 12, 3) := by decide +kernel
theorem dX10_parseClass_55 : decode cX10_parseClass 55 = .ok (.aload_n 0, 1) := by decide +kernel
theorem dX10_parseClass_56 : decode cX10_parseClass 56 = .ok (.iload_n 1, 1) := by decide +kernel
theorem dX10_parseClass_57 : decode cX10_parseClass 57 = .ok (.iload_n 2, 1) := by decide +kernel
theorem dX10_parseClass_58 : decode cX10_parseClass 58 = .ok (.iload_n 3, 1) := by decide +kernel
theorem dX10_parseClass_59 : decode cX10_parseClass 59 = .ok (.invokevirtual 47, 3) := by decide +kernel
theorem dX10_parseClass_62 : decode cX10_parseClass 62 = .ok (.istore 4, 2) := by decide +kernel
theorem dX10_parseClass_64 : decode cX10_parseClass 64 = .ok (.return_, 1) := by decide +kernel
theorem dX10_parseSites_0 : decode cX10_parseSites 0 = .ok (.aload_n 0, 1) := by decide +kernel
theorem dX10_parseSites_1 : decode cX10_parseSites 1 = .ok (.invokevirtual 268, 3) := by decide +kernel
theorem dX10_parseSites_4 : decode cX10_parseSites 4 = .ok (.iconst 1, 1) := by decide +kernel
theorem dX10_parseSites_5 : decode cX10_parseSites 5 = .ok (.istore_n 1, 1) := by decide +kernel
theorem dX10_parseSites_6 : decode cX10_parseSites 6 = .ok (.iload_n 1, 1) := by decide +kernel
theorem dX10_parseSites_7 : decode cX10_parseSites 7 = .ok (.ifCond .eq 94, 3) := by decide +kernel
theorem dX10_parseSites_10 : decode cX10_parseSites 10 = .ok (.aload_n 0, 1) := by decide +kernel
theorem dX10_parseSites_11 : decode cX10_parseSites 11 = .ok (.aload_n 0, 1) := by decide +kernel
theorem dX10_parseSites_12 : decode cX10_parseSites 12 = .ok (.getfield 235, 3) := by decide +kernel
theorem dX10_parseSites_15 : decode cX10_parseSites 15 = .ok (.iconst 3, 1) := by decide +kernel
theorem dX10_parseSites_16 : decode cX10_parseSites 16 = .ok (.if_icmp .ne 25, 3) := by decide +kernel
theorem dX10_parseSites_19 : decode cX10_parseSites 19 = .ok (.aload_n 0, 1) := by decide +kernel
theorem dX10_parseSites_20 : decode cX10_parseSites 20 = .ok (.aload_n 0, 1) := by decide +kernel
theorem dX10_parseSites_21 : decode cX10_parseSites 21 = .ok (.getfield 232, 3) := by decide +kernel
theorem dX10_parseSites_24 : decode cX10_parseSites 24 = .ok (.invokevirtual 51, 3) := by decide +kernel
theorem dX10_parseSites_27 : decode cX10_parseSites 27 = .ok (.ifCond .eq 14, 3) := by decide +kernel
theorem dX10_parseSites_30 : decode cX10_parseSites 30 = .ok (.aload_n 0, 1) := by decide +kernel
theorem dX10_parseSites_31 : decode cX10_parseSites 31 = .ok (.getfield 7, 3) := by decide +kernel
theorem dX10_parseSites_34 : decode cX10_parseSites 34 = .ok (.iconst 2, 1) := by decide +kernel
theorem dX10_parseSites_35 : decode cX10_parseSites 35 = .ok (.iaload, 1) := by decide +kernel
theorem dX10_parseSites_36 : decode cX10_parseSites 36 = .ok (.bipush 16, 2) := by decide +kernel
theorem dX10_parseSites_38 : decode cX10_parseSites 38 = .ok (.if_icmp .ge 7, 3) := by decide +kernel
theorem dX10_parseSites_41 : decode cX10_parseSites 41 = .ok (.iconst 1, 1) := by decide +kernel
theorem dX10_parseSites_42 : decode cX10_parseSites 42 = .ok (.goto 4, 3) := by decide +kernel
theorem dX10_parseSites_45 : decode cX10_parseSites 45 = .ok (.iconst 0, 1) := by decide +kernel
theorem dX10_parseSites_46 : decode cX10_parseSites 46 = .ok (.iconst 3, 1) := by decide +kernel
theorem dX10_parseSites_47 : decode cX10_parseSites 47 = .ok (.invokevirtual 264, 3) := by decide +kernel
theorem dX10_parseSites_50 : decode cX10_parseSites 50 = .ok (.aload_n 0, 1) := by decide +kernel
theorem dX10_parseSites_51 : decode cX10_parseSites 51 = .ok (.iconst 0, 1) := by decide +kernel
theorem dX10_parseSites_52 : decode cX10_parseSites 52 = .ok (.aload_n 0, 1) := by decide +kernel
theorem dX10_parseSites_53 : decode cX10_parseSites 53 = .ok (.getfield 7, 3) := by decide +kernel
theorem dX10_parseSites_56 : decode cX10_parseSites 56 = .ok (.iconst 1, 1) := by decide +kernel
theorem dX10_parseSites_57 : decode cX10_parseSites 57 = .ok (.iaload, 1) := by decide +kernel
theorem dX10_parseSites_58 : decode cX10_parseSites 58 = .ok (.iconst 1, 1) := by decide +kernel
theorem dX10_parseSites_59 : decode cX10_parseSites 59 = .ok (.isub, 1) := by decide +kernel
theorem dX10_parseSites_60 : decode cX10_parseSites 60 = .ok (.invokevirtual 271, 3) := by decide +kernel
theorem dX10_parseSites_63 : decode cX10_parseSites 63 = .ok (.istore_n 2, 1) := by decide +kernel
theorem dX10_parseSites_64 : decode cX10_parseSites 64 = .ok (.aload_n 0, 1) := by decide +kernel
theorem dX10_parseSites_65 : decode cX10_parseSites 65 = .ok (.getfield 258, 3) := by decide +kernel
theorem dX10_parseSites_68 : decode cX10_parseSites 68 = .ok (.ifCond .ne 9, 3) := by decide +kernel
theorem dX10_parseSites_71 : decode cX10_parseSites 71 = .ok (.aload_n 0, 1) := by decide +kernel
theorem dX10_parseSites_72 : decode cX10_parseSites 72 = .ok (.iload_n 2, 1) := by decide +kernel
theorem dX10_parseSites_73 : decode cX10_parseSites 73 = .ok (.invokevirtual 55, 3) := by decide +kernel
theorem dX10_parseSites_76 : decode cX10_parseSites 76 = .ok (.istore_n 3, 1) := by decide +kernel
theorem dX10_parseSites_77 : decode cX10_parseSites 77 = .ok (.aload_n 0, 1) := by decide +kernel
theorem dX10_parseSites_78 : decode cX10_parseSites 78 = .ok (.getfield 258, 3) := by decide +kernel
theorem dX10_parseSites_81 : decode cX10_parseSites 81 = .ok (.ifCond .ne 15, 3) := by decide +kernel
theorem dX10_parseSites_84 : decode cX10_parseSites 84 = .ok (.aload_n 0, 1) := by decide +kernel
theorem dX10_parseSites_85 : decode cX10_parseSites 85 = .ok (.getfield 235, 3) := by decide +kernel
theorem dX10_parseSites_88 : decode cX10_parseSites 88 = .ok (.iconst 3, 1) := by decide +kernel
theorem dX10_parseSites_89 : decode cX10_parseSites 89 = .ok (.if_icmp .ne 7, 3) := by decide +kernel
theorem dX10_parseSites_92 : decode cX10_parseSites 92 = .ok (.iconst 1, 1) := by decide +kernel
theorem dX10_parseSites_93 : decode cX10_parseSites 93 = .ok (.goto 4, 3) := by decide +kernel
theorem dX10_parseSites_96 : decode cX10_parseSites 96 = .ok (.iconst 0, 1) := by decide +kernel
theorem dX10_parseSites_97 : decode cX10_parseSites 97 = .ok (.istore_n 1, 1) := by decide +kernel
theorem dX10_parseSites_98 : decode cX10_parseSites 98 = .ok (.goto (-92), 3) := by decide +kernel
theorem dX10_parseSites_101 : decode cX10_parseSites 101 = .ok (.return_, 1) := by decide +kernel
theorem dX10_parseSeason_0 : decode cX10_parseSeason 0 = .ok (.aload_n 0, 1) := by decide +kernel
theorem dX10_parseSeason_1 : decode cX10_parseSeason 1 = .ok (.aload_n 0, 1) := by decide +kernel
theorem dX10_parseSeason_2 : decode cX10_parseSeason 2 = .ok (.getfield 7, 3) := by decide +kernel
theorem dX10_parseSeason_5 : decode cX10_parseSeason 5 = .ok (.iconst 3, 1) := by decide +kernel
theorem dX10_parseSeason_6 : decode cX10_parseSeason 6 = .ok (.iaload, 1) := by decide +kernel
theorem dX10_parseSeason_7 : decode cX10_parseSeason 7 = .ok (.bipush 12, 2) := by decide +kernel
theorem dX10_parseSeason_9 : decode cX10_parseSeason 9 = .ok (.if_icmp .ge 7, 3) := by decide +kernel
theorem dX10_parseSeason_12 : decode cX10_parseSeason 12 = .ok (.iconst 1, 1) := by decide +kernel
theorem dX10_parseSeason_13 : decode cX10_parseSeason 13 = .ok (.goto 4, 3) := by decide +kernel
theorem dX10_parseSeason_16 : decode cX10_parseSeason 16 = .ok (.iconst 0, 1) := by decide +kernel
theorem dX10_parseSeason_17 : decode cX10_parseSeason 17 = .ok (.iconst 3, 1) := by decide +kernel
theorem dX10_parseSeason_18 : decode cX10_parseSeason 18 = .ok (.invokevirtual 264, 3) := by decide +kernel
theorem dX10_parseSeason_21 : decode cX10_parseSeason 21 = .ok (.aload_n 0, 1) := by decide +kernel
theorem dX10_parseSeason_22 : decode cX10_parseSeason 22 = .ok (.invokevirtual 268, 3) := by decide +kernel
theorem dX10_parseSeason_25 : decode cX10_parseSeason 25 = .ok (.aload_n 0, 1) := by decide +kernel
theorem dX10_parseSeason_26 : decode cX10_parseSeason 26 = .ok (.iconst 0, 1) := by decide +kernel
theorem dX10_parseSeason_27 : decode cX10_parseSeason 27 = .ok (.aload_n 0, 1) := by decide +kernel
theorem dX10_parseSeason_28 : decode cX10_parseSeason 28 = .ok (.getfield 7, 3) := by decide +kernel
theorem dX10_parseSeason_31 : decode cX10_parseSeason 31 = .ok (.iconst 1, 1) := by decide +kernel
theorem dX10_parseSeason_32 : decode cX10_parseSeason 32 = .ok (.iaload, 1) := by decide +kernel
theorem dX10_parseSeason_33 : decode cX10_parseSeason 33 = .ok (.iconst 1, 1) := by decide +kernel
theorem dX10_parseSeason_34 : decode cX10_parseSeason 34 = .ok (.isub, 1) := by decide +kernel
theorem dX10_parseSeason_35 : decode cX10_parseSeason 35 = .ok (.invokevirtual 271, 3) := by decide +kernel
theorem dX10_parseSeason_38 : decode cX10_parseSeason 38 = .ok (.istore_n 1, 1) := by decide +kernel
theorem dX10_parseSeason_39 : decode cX10_parseSeason 39 = .ok (.aload_n 0, 1) := by decide +kernel
theorem dX10_parseSeason_40 : decode cX10_parseSeason 40 = .ok (.iconst 0, 1) := by decide +kernel
theorem dX10_parseSeason_41 : decode cX10_parseSeason 41 = .ok (.sipush 999, 3) := by decide +kernel
theorem dX10_parseSeason_44 : decode cX10_parseSeason 44 = .ok (.invokevirtual 271, 3) := by decide +kernel
theorem dX10_parseSeason_47 : decode cX10_parseSeason 47 = .ok (.istore_n 2, 1) := by decide +kernel
theorem dX10_parseSeason_48 : decode cX10_parseSeason 48 = .ok (.aload_n 0, 1) := by decide +kernel
theorem dX10_parseSeason_49 : decode cX10_parseSeason 49 = .ok (.iload_n 2, 1) := by decide +kernel
theorem dX10_parseSeason_50 : decode cX10_parseSeason 50 = .ok (.sipush 999, 3) := by decide +kernel
theorem dX10_parseSeason_53 : decode cX10_parseSeason 53 = .ok (.invokevirtual 271, 3) := by decide +kernel
theorem dX10_parseSeason_56 : decode cX10_parseSeason 56 = .ok (.istore_n 3, 1) := by decide +kernel
theorem dX10_parseSeason_57 : decode cX10_parseSeason 57 = .ok (.aload_n 0, 1) := by decide +kernel
theorem dX10_parseSeason_58 : decode cX10_parseSeason 58 = .ok (.iconst 1, 1) := by decide +kernel
theorem dX10_parseSeason_59 : decode cX10_parseSeason 59 = .ok (.bipush 14, 2) := by decide +kernel
theorem dX10_parseSeason_61 : decode cX10_parseSeason 61 = .ok (.invokevirtual 271, 3) := by decide +kernel
theorem dX10_parseSeason_64 : decode cX10_parseSeason 64 = .ok (.istore 4, 2) := by decide +kernel
theorem dX10_parseSeason_66 : decode cX10_parseSeason 66 = .ok (.aload_n 0, 1) := by decide +kernel
theorem dX10_parseSeason_67 : decode cX10_parseSeason 67 = .ok (.iconst 0, 1) := by decide +kernel
theorem dX10_parseSeason_68 : decode cX10_parseSeason 68 = .ok (.sipush 9999, 3) := by decide +kernel
theorem dX10_parseSeason_71 : decode cX10_parseSeason 71 = .ok (.invokevirtual 271, 3) := by decide +kernel
theorem dX10_parseSeason_74 : decode cX10_parseSeason 74 = .ok (.istore 5, 2) := by decide +kernel
theorem dX10_parseSeason_76 : decode cX10_parseSeason 76 = .ok (.aload_n 0, 1) := by decide +kernel
theorem dX10_parseSeason_77 : decode cX10_parseSeason 77 = .ok (.getfield 258, 3) := by decide +kernel
theorem dX10_parseSeason_80 : decode cX10_parseSeason 80 = .ok (.ifCond .ne 16, 3) := by decide +kernel
theorem dX10_parseSeason_83 : decode cX10_parseSeason 83 = .ok (.aload_n 0, 1) := by decide +kernel
theorem dX10_parseSeason_84 : decode cX10_parseSeason 84 = .ok (.iload_n 1, 1) := by decide +kernel
theorem dX10_parseSeason_85 : decode cX10_parseSeason 85 = .ok (.iload_n 2, 1) := by decide +kernel
theorem dX10_parseSeason_86 : decode cX10_parseSeason 86 = .ok (.iload_n 3, 1) := by decide +kernel
theorem dX10_parseSeason_87 : decode cX10_parseSeason 87 = .ok (.iload 4, 2) := by decide +kernel
theorem dX10_parseSeason_89 : decode cX10_parseSeason 89 = .ok (.iload 5, 2) := by decide +kernel
theorem dX10_parseSeason_91 : decode cX10_parseSeason 91 = .ok (.invokevirtual 61, 3) := by decide +kernel
theorem dX10_parseSeason_94 : decode cX10_parseSeason 94 = .ok (.istore 6, 2) := by decide +kernel
theorem dX10_parseSeason_96 : decode cX10_parseSeason 96 = .ok (.return_, 1) := by decide +kernel
theorem dX10_parseStatement_0 : decode cX10_parseStatement 0 = .ok (.aload_n 0, 1) := by decide +kernel
theorem dX10_parseStatement_1 : decode cX10_parseStatement 1 = .ok (.ldc_w 274, 3) := by decide +kernel
theorem dX10_parseStatement_4 : decode cX10_parseStatement 4 = .ok (.invokevirtual 276, 3) := by decide +kernel
theorem dX10_parseStatement_7 : decode cX10_parseStatement 7 = .ok (.ifCond .eq 10, 3) := by decide +kernel
theorem dX10_parseStatement_10 : decode cX10_parseStatement 10 = .ok (.aload_n 0, 1) := by decide +kernel
theorem dX10_parseStatement_11 : decode cX10_parseStatement 11 = .ok (.invokevirtual 280, 3) := by decide +kernel
theorem dX10_parseStatement_14 : decode cX10_parseStatement 14 = .ok (.goto 85, 3) := by decide +kernel
theorem dX10_parseStatement_17 : decode cX10_parseStatement 17 = .ok (.aload_n 0, 1) := by decide +kernel
theorem dX10_parseStatement_18 : decode cX10_parseStatement 18 = .ok (.ldc_w 283, 3) := by decide +kernel
theorem dX10_parseStatement_21 : decode cX10_parseStatement 21 = .ok (.invokevirtual 276, 3) := by decide +kernel
theorem dX10_parseStatement_24 : decode cX10_parseStatement 24 = .ok (.ifCond .eq 10, 3) := by decide +kernel
theorem dX10_parseStatement_27 : decode cX10_parseStatement 27 = .ok (.aload_n 0, 1) := by decide +kernel
theorem dX10_parseStatement_28 : decode cX10_parseStatement 28 = .ok (.invokevirtual 284, 3) := by decide +kernel
theorem dX10_parseStatement_31 : decode cX10_parseStatement 31 = .ok (.goto 68, 3) := by decide +kernel
theorem dX10_parseStatement_34 : decode cX10_parseStatement 34 = .ok (.aload_n 0, 1) := by decide +kernel
theorem dX10_parseStatement_35 : decode cX10_parseStatement 35 = .ok (.ldc_w 287, 3) := by decide +kernel
theorem dX10_parseStatement_38 : decode cX10_parseStatement 38 = .ok (.invokevirtual 276, 3) := by decide +kernel
theorem dX10_parseStatement_41 : decode cX10_parseStatement 41 = .ok (.ifCond .eq 10, 3) := by decide +kernel
theorem dX10_parseStatement_44 : decode cX10_parseStatement 44 = .ok (.aload_n 0, 1) := by decide +kernel
theorem dX10_parseStatement_45 : decode cX10_parseStatement 45 = .ok (.invokevirtual 288, 3) := by decide +kernel
theorem dX10_parseStatement_48 : decode cX10_parseStatement 48 = .ok (.goto 51, 3) := by decide +kernel
theorem dX10_parseStatement_51 : decode cX10_parseStatement 51 = .ok (.aload_n 0, 1) := by decide +kernel
theorem dX10_parseStatement_52 : decode cX10_parseStatement 52 = .ok (.aload_n 0, 1) := by decide +kernel
theorem dX10_parseStatement_53 : decode cX10_parseStatement 53 = .ok (.ldc_w 291, 3) := by decide +kernel
theorem dX10_parseStatement_56 : decode cX10_parseStatement 56 = .ok (.invokevirtual 276, 3) := by decide +kernel
theorem dX10_parseStatement_59 : decode cX10_parseStatement 59 = .ok (.iconst 1, 1) := by decide +kernel
theorem dX10_parseStatement_60 : decode cX10_parseStatement 60 = .ok (.invokevirtual 264, 3) := by decide +kernel
theorem dX10_parseStatement_63 : decode cX10_parseStatement 63 = .ok (.aload_n 0, 1) := by decide +kernel
theorem dX10_parseStatement_64 : decode cX10_parseStatement 64 = .ok (.invokevirtual 268, 3) := by decide +kernel
theorem dX10_parseStatement_67 : decode cX10_parseStatement 67 = .ok (.aload_n 0, 1) := by decide +kernel
theorem dX10_parseStatement_68 : decode cX10_parseStatement 68 = .ok (.iconst 0, 1) := by decide +kernel
theorem dX10_parseStatement_69 : decode cX10_parseStatement 69 = .ok (.sipush 999, 3) := by decide +kernel
theorem dX10_parseStatement_72 : decode cX10_parseStatement 72 = .ok (.invokevirtual 271, 3) := by decide +kernel
theorem dX10_parseStatement_75 : decode cX10_parseStatement 75 = .ok (.istore_n 1, 1) := by decide +kernel
theorem dX10_parseStatement_76 : decode cX10_parseStatement 76 = .ok (.aload_n 0, 1) := by decide +kernel
theorem dX10_parseStatement_77 : decode cX10_parseStatement 77 = .ok (.getfield 7, 3) := by decide +kernel
theorem dX10_parseStatement_80 : decode cX10_parseStatement 80 = .ok (.iconst 0, 1) := by decide +kernel
theorem dX10_parseStatement_81 : decode cX10_parseStatement 81 = .ok (.aload_n 0, 1) := by decide +kernel
theorem dX10_parseStatement_82 : decode cX10_parseStatement 82 = .ok (.getfield 258, 3) := by decide +kernel
theorem dX10_parseStatement_85 : decode cX10_parseStatement 85 = .ok (.ifCond .ne 7, 3) := by decide +kernel
theorem dX10_parseStatement_88 : decode cX10_parseStatement 88 = .ok (.iload_n 1, 1) := by decide +kernel
theorem dX10_parseStatement_89 : decode cX10_parseStatement 89 = .ok (.goto 9, 3) := by decide +kernel
theorem dX10_parseStatement_92 : decode cX10_parseStatement 92 = .ok (.aload_n 0, 1) := by decide +kernel
theorem dX10_parseStatement_93 : decode cX10_parseStatement 93 = .ok (.getfield 7, 3) := by decide +kernel
theorem dX10_parseStatement_96 : decode cX10_parseStatement 96 = .ok (.iconst 0, 1) := by decide +kernel
theorem dX10_parseStatement_97 : decode cX10_parseStatement 97 = .ok (.iaload, 1) := by decide +kernel
theorem dX10_parseStatement_98 : decode cX10_parseStatement 98 = .ok (.iastore, 1) := by decide +kernel
theorem dX10_parseStatement_99 : decode cX10_parseStatement 99 = .ok (.aload_n 0, 1) := by decide +kernel
theorem dX10_parseStatement_100 : decode cX10_parseStatement 100 = .ok (.aload_n 0, 1) := by decide +kernel
theorem dX10_parseStatement_101 : decode cX10_parseStatement 101 = .ok (.getfield 235, 3) := by decide +kernel
theorem dX10_parseStatement_104 : decode cX10_parseStatement 104 = .ok (.iconst 4, 1) := by decide +kernel
theorem dX10_parseStatement_105 : decode cX10_parseStatement 105 = .ok (.if_icmp .ne 7, 3) := by decide +kernel
theorem dX10_parseStatement_108 : decode cX10_parseStatement 108 = .ok (.iconst 1, 1) := by decide +kernel
theorem dX10_parseStatement_109 : decode cX10_parseStatement 109 = .ok (.goto 4, 3) := by decide +kernel
theorem dX10_parseStatement_112 : decode cX10_parseStatement 112 = .ok (.iconst 0, 1) := by decide +kernel
theorem dX10_parseStatement_113 : decode cX10_parseStatement 113 = .ok (.iconst 1, 1) := by decide +kernel
theorem dX10_parseStatement_114 : decode cX10_parseStatement 114 = .ok (.invokevirtual 264, 3) := by decide +kernel
theorem dX10_parseStatement_117 : decode cX10_parseStatement 117 = .ok (.aload_n 0, 1) := by decide +kernel
theorem dX10_parseStatement_118 : decode cX10_parseStatement 118 = .ok (.invokevirtual 268, 3) := by decide +kernel
theorem dX10_parseStatement_121 : decode cX10_parseStatement 121 = .ok (.return_, 1) := by decide +kernel
theorem dX10_load_0 : decode cX10_load 0 = .ok (.aload_n 0, 1) := by decide +kernel
theorem dX10_load_1 : decode cX10_load 1 = .ok (.iconst 0, 1) := by decide +kernel
theorem dX10_load_2 : decode cX10_load 2 = .ok (.putfield 36, 3) := by decide +kernel
theorem dX10_load_5 : decode cX10_load 5 = .ok (.aload_n 0, 1) := by decide +kernel
theorem dX10_load_6 : decode cX10_load 6 = .ok (.getfield 7, 3) := by decide +kernel
theorem dX10_load_9 : decode cX10_load 9 = .ok (.iconst 0, 1) := by decide +kernel
theorem dX10_load_10 : decode cX10_load 10 = .ok (.aload_n 0, 1) := by decide +kernel
theorem dX10_load_11 : decode cX10_load 11 = .ok (.getfield 13, 3) := by decide +kernel
theorem dX10_load_14 : decode cX10_load 14 = .ok (.iconst 0, 1) := by decide +kernel
theorem dX10_load_15 : decode cX10_load 15 = .ok (.invokestatic 293, 3) := by decide +kernel
theorem dX10_load_18 : decode cX10_load 18 = .ok (.iconst 0, 1) := by decide +kernel
theorem dX10_load_19 : decode cX10_load 19 = .ok (.istore_n 1, 1) := by decide +kernel
theorem dX10_load_20 : decode cX10_load 20 = .ok (.iload_n 1, 1) := by decide +kernel
theorem dX10_load_21 : decode cX10_load 21 = .ok (.sipush 572, 3) := by decide +kernel
theorem dX10_load_24 : decode cX10_load 24 = .ok (.if_icmp .ge 16, 3) := by decide +kernel
theorem dX10_load_27 : decode cX10_load 27 = .ok (.aload_n 0, 1) := by decide +kernel
theorem dX10_load_28 : decode cX10_load 28 = .ok (.getfield 7, 3) := by decide +kernel
theorem dX10_load_31 : decode cX10_load 31 = .ok (.iload_n 1, 1) := by decide +kernel
theorem dX10_load_32 : decode cX10_load 32 = .ok (.iconst 0, 1) := by decide +kernel
theorem dX10_load_33 : decode cX10_load 33 = .ok (.iastore, 1) := by decide +kernel
theorem dX10_load_34 : decode cX10_load 34 = .ok (.iinc 1 1, 3) := by decide +kernel
theorem dX10_load_37 : decode cX10_load 37 = .ok (.goto (-17), 3) := by decide +kernel
theorem dX10_load_40 : decode cX10_load 40 = .ok (.aload_n 0, 1) := by decide +kernel
theorem dX10_load_41 : decode cX10_load 41 = .ok (.iconst 0, 1) := by decide +kernel
theorem dX10_load_42 : decode cX10_load 42 = .ok (.putfield 258, 3) := by decide +kernel
theorem dX10_load_45 : decode cX10_load 45 = .ok (.aload_n 0, 1) := by decide +kernel
theorem dX10_load_46 : decode cX10_load 46 = .ok (.iconst (-1), 1) := by decide +kernel
theorem dX10_load_47 : decode cX10_load 47 = .ok (.putfield 32, 3) := by decide +kernel
theorem dX10_load_50 : decode cX10_load 50 = .ok (.aload_n 0, 1) := by decide +kernel
theorem dX10_load_51 : decode cX10_load 51 = .ok (.iconst 0, 1) := by decide +kernel
theorem dX10_load_52 : decode cX10_load 52 = .ok (.putfield 216, 3) := by decide +kernel
theorem dX10_load_55 : decode cX10_load 55 = .ok (.aload_n 0, 1) := by decide +kernel
theorem dX10_load_56 : decode cX10_load 56 = .ok (.invokevirtual 261, 3) := by decide +kernel
theorem dX10_load_59 : decode cX10_load 59 = .ok (.iconst 0, 1) := by decide +kernel
theorem dX10_load_60 : decode cX10_load 60 = .ok (.istore_n 1, 1) := by decide +kernel
theorem dX10_load_61 : decode cX10_load 61 = .ok (.aload_n 0, 1) := by decide +kernel
theorem dX10_load_62 : decode cX10_load 62 = .ok (.getfield 258, 3) := by decide +kernel
theorem dX10_load_65 : decode cX10_load 65 = .ok (.ifCond .ne 20, 3) := by decide +kernel
theorem dX10_load_68 : decode cX10_load 68 = .ok (.aload_n 0, 1) := by decide +kernel
theorem dX10_load_69 : decode cX10_load 69 = .ok (.getfield 235, 3) := by decide +kernel
theorem dX10_load_72 : decode cX10_load 72 = .ok (.ifCond .eq 13, 3) := by decide +kernel
theorem dX10_load_75 : decode cX10_load 75 = .ok (.aload_n 0, 1) := by decide +kernel
theorem dX10_load_76 : decode cX10_load 76 = .ok (.invokevirtual 297, 3) := by decide +kernel
theorem dX10_load_79 : decode cX10_load 79 = .ok (.iinc 1 1, 3) := by decide +kernel
theorem dX10_load_82 : decode cX10_load 82 = .ok (.goto (-21), 3) := by decide +kernel
theorem dX10_load_85 : decode cX10_load 85 = .ok (.aload_n 0, 1) := by decide +kernel
theorem dX10_load_86 : decode cX10_load 86 = .ok (.iconst 0, 1) := by decide +kernel
theorem dX10_load_87 : decode cX10_load 87 = .ok (.putfield 213, 3) := by decide +kernel
theorem dX10_load_90 : decode cX10_load 90 = .ok (.aload_n 0, 1) := by decide +kernel
theorem dX10_load_91 : decode cX10_load 91 = .ok (.getfield 258, 3) := by decide +kernel
theorem dX10_load_94 : decode cX10_load 94 = .ok (.ifCond .eq 18, 3) := by decide +kernel
theorem dX10_load_97 : decode cX10_load 97 = .ok (.aload_n 0, 1) := by decide +kernel
theorem dX10_load_98 : decode cX10_load 98 = .ok (.getfield 13, 3) := by decide +kernel
theorem dX10_load_101 : decode cX10_load 101 = .ok (.iconst 0, 1) := by decide +kernel
theorem dX10_load_102 : decode cX10_load 102 = .ok (.aload_n 0, 1) := by decide +kernel
theorem dX10_load_103 : decode cX10_load 103 = .ok (.getfield 7, 3) := by decide +kernel
theorem dX10_load_106 : decode cX10_load 106 = .ok (.iconst 0, 1) := by decide +kernel
theorem dX10_load_107 : decode cX10_load 107 = .ok (.invokestatic 293, 3) := by decide +kernel
theorem dX10_load_110 : decode cX10_load 110 = .ok (.iconst (-1), 1) := by decide +kernel
theorem dX10_load_111 : decode cX10_load 111 = .ok (.ireturn, 1) := by decide +kernel
theorem dX10_load_112 : decode cX10_load 112 = .ok (.iload_n 1, 1) := by decide +kernel
theorem dX10_load_113 : decode cX10_load 113 = .ok (.ireturn, 1) := by decide +kernel
theorem dX10_errorCode_0 : decode cX10_errorCode 0 = .ok (.aload_n 0, 1) := by decide +kernel
theorem dX10_errorCode_1 : decode cX10_errorCode 1 = .ok (.iconst 0, 1) := by decide +kernel
theorem dX10_errorCode_2 : decode cX10_errorCode 2 = .ok (.putfield 36, 3) := by decide +kernel
theorem dX10_errorCode_5 : decode cX10_errorCode 5 = .ok (.aload_n 0, 1) := by decide +kernel
theorem dX10_errorCode_6 : decode cX10_errorCode 6 = .ok (.getfield 258, 3) := by decide +kernel
theorem dX10_errorCode_9 : decode cX10_errorCode 9 = .ok (.ireturn, 1) := by decide +kernel
theorem dX10_errorPosition_0 : decode cX10_errorPosition 0 = .ok (.aload_n 0, 1) := by decide +kernel
theorem dX10_errorPosition_1 : decode cX10_errorPosition 1 = .ok (.iconst 0, 1) := by decide +kernel
theorem dX10_errorPosition_2 : decode cX10_errorPosition 2 = .ok (.putfield 36, 3) := by decide +kernel
theorem dX10_errorPosition_5 : decode cX10_errorPosition 5 = .ok (.aload_n 0, 1) := by decide +kernel
theorem dX10_errorPosition_6 : decode cX10_errorPosition 6 = .ok (.getfield 32, 3) := by decide +kernel
theorem dX10_errorPosition_9 : decode cX10_errorPosition 9 = .ok (.ireturn, 1) := by decide +kernel
theorem dX10_save_0 : decode cX10_save 0 = .ok (.aload_n 0, 1) := by decide +kernel
theorem dX10_save_1 : decode cX10_save 1 = .ok (.iload_n 1, 1) := by decide +kernel
theorem dX10_save_2 : decode cX10_save 2 = .ok (.iconst 0, 1) := by decide +kernel
theorem dX10_save_3 : decode cX10_save 3 = .ok (.iconst 1, 1) := by decide +kernel
theorem dX10_save_4 : decode cX10_save 4 = .ok (.invokestatic 39, 3) := by decide +kernel
theorem dX10_save_7 : decode cX10_save 7 = .ok (.ifCond .eq 7, 3) := by decide +kernel
theorem dX10_save_10 : decode cX10_save 10 = .ok (.iconst 0, 1) := by decide +kernel
theorem dX10_save_11 : decode cX10_save 11 = .ok (.goto 4, 3) := by decide +kernel
theorem dX10_save_14 : decode cX10_save 14 = .ok (.iconst 1, 1) := by decide +kernel
theorem dX10_save_15 : decode cX10_save 15 = .ok (.putfield 36, 3) := by decide +kernel
theorem dX10_save_18 : decode cX10_save 18 = .ok (.aload_n 0, 1) := by decide +kernel
theorem dX10_save_19 : decode cX10_save 19 = .ok (.getfield 36, 3) := by decide +kernel
theorem dX10_save_22 : decode cX10_save 22 = .ok (.ifCond .ne 27, 3) := by decide +kernel
theorem dX10_save_25 : decode cX10_save 25 = .ok (.aload_n 0, 1) := by decide +kernel
theorem dX10_save_26 : decode cX10_save 26 = .ok (.getfield 7, 3) := by decide +kernel
theorem dX10_save_29 : decode cX10_save 29 = .ok (.iconst 0, 1) := by decide +kernel
theorem dX10_save_30 : decode cX10_save 30 = .ok (.aload_n 0, 1) := by decide +kernel
theorem dX10_save_31 : decode cX10_save 31 = .ok (.getfield 16, 3) := by decide +kernel
theorem dX10_save_34 : decode cX10_save 34 = .ok (.sipush 572, 3) := by decide +kernel
theorem dX10_save_37 : decode cX10_save 37 = .ok (.iload_n 1, 1) := by decide +kernel
theorem dX10_save_38 : decode cX10_save 38 = .ok (.imul, 1) := by decide +kernel
theorem dX10_save_39 : decode cX10_save 39 = .ok (.invokestatic 293, 3) := by decide +kernel
theorem dX10_save_42 : decode cX10_save 42 = .ok (.aload_n 0, 1) := by decide +kernel
theorem dX10_save_43 : decode cX10_save 43 = .ok (.getfield 19, 3) := by decide +kernel
theorem dX10_save_46 : decode cX10_save 46 = .ok (.iload_n 1, 1) := by decide +kernel
theorem dX10_save_47 : decode cX10_save 47 = .ok (.iconst 1, 1) := by decide +kernel
theorem dX10_save_48 : decode cX10_save 48 = .ok (.bastore, 1) := by decide +kernel
theorem dX10_save_49 : decode cX10_save 49 = .ok (.return_, 1) := by decide +kernel
theorem dX10_restore_0 : decode cX10_restore 0 = .ok (.aload_n 0, 1) := by decide +kernel
theorem dX10_restore_1 : decode cX10_restore 1 = .ok (.iload_n 1, 1) := by decide +kernel
theorem dX10_restore_2 : decode cX10_restore 2 = .ok (.iconst 0, 1) := by decide +kernel
theorem dX10_restore_3 : decode cX10_restore 3 = .ok (.iconst 1, 1) := by decide +kernel
theorem dX10_restore_4 : decode cX10_restore 4 = .ok (.invokestatic 39, 3) := by decide +kernel
theorem dX10_restore_7 : decode cX10_restore 7 = .ok (.ifCond .ne 7, 3) := by decide +kernel
theorem dX10_restore_10 : decode cX10_restore 10 = .ok (.iconst 1, 1) := by decide +kernel
theorem dX10_restore_11 : decode cX10_restore 11 = .ok (.goto 17, 3) := by decide +kernel
theorem dX10_restore_14 : decode cX10_restore 14 = .ok (.aload_n 0, 1) := by decide +kernel
theorem dX10_restore_15 : decode cX10_restore 15 = .ok (.getfield 19, 3) := by decide +kernel
theorem dX10_restore_18 : decode cX10_restore 18 = .ok (.iload_n 1, 1) := by decide +kernel
theorem dX10_restore_19 : decode cX10_restore 19 = .ok (.baload, 1) := by decide +kernel
theorem dX10_restore_20 : decode cX10_restore 20 = .ok (.ifCond .ne 7, 3) := by decide +kernel
theorem dX10_restore_23 : decode cX10_restore 23 = .ok (.iconst 2, 1) := by decide +kernel
theorem dX10_restore_24 : decode cX10_restore 24 = .ok (.goto 4, 3) := by decide +kernel
theorem dX10_restore_27 : decode cX10_restore 27 = .ok (.iconst 0, 1) := by decide +kernel
theorem dX10_restore_28 : decode cX10_restore 28 = .ok (.putfield 36, 3) := by decide +kernel
theorem dX10_restore_31 : decode cX10_restore 31 = .ok (.aload_n 0, 1) := by decide +kernel
theorem dX10_restore_32 : decode cX10_restore 32 = .ok (.getfield 36, 3) := by decide +kernel
theorem dX10_restore_35 : decode cX10_restore 35 = .ok (.ifCond .ne 20, 3) := by decide +kernel
theorem dX10_restore_38 : decode cX10_restore 38 = .ok (.aload_n 0, 1) := by decide +kernel
theorem dX10_restore_39 : decode cX10_restore 39 = .ok (.getfield 16, 3) := by decide +kernel
theorem dX10_restore_42 : decode cX10_restore 42 = .ok (.sipush 572, 3) := by decide +kernel
theorem dX10_restore_45 : decode cX10_restore 45 = .ok (.iload_n 1, 1) := by decide +kernel
theorem dX10_restore_46 : decode cX10_restore 46 = .ok (.imul, 1) := by decide +kernel
theorem dX10_restore_47 : decode cX10_restore 47 = .ok (.aload_n 0, 1) := by decide +kernel
theorem dX10_restore_48 : decode cX10_restore 48 = .ok (.getfield 7, 3) := by decide +kernel
theorem dX10_restore_51 : decode cX10_restore 51 = .ok (.iconst 0, 1) := by decide +kernel
theorem dX10_restore_52 : decode cX10_restore 52 = .ok (.invokestatic 293, 3) := by decide +kernel
theorem dX10_restore_55 : decode cX10_restore 55 = .ok (.return_, 1) := by decide +kernel
theorem dJ9_max_7cf53_0 : decode cJ9_max_7cf53 0 = .ok (.iload_n 0, 1) := by decide +kernel
theorem dJ9_max_7cf53_1 : decode cJ9_max_7cf53 1 = .ok (.iload_n 1, 1) := by decide +kernel
theorem dJ9_max_7cf53_2 : decode cJ9_max_7cf53 2 = .ok (.if_icmp .lt 7, 3) := by decide +kernel
theorem dJ9_max_7cf53_5 : decode cJ9_max_7cf53 5 = .ok (.iload_n 0, 1) := by decide +kernel
theorem dJ9_max_7cf53_6 : decode cJ9_max_7cf53 6 = .ok (.goto 4, 3) := by decide +kernel
theorem dJ9_max_7cf53_9 : decode cJ9_max_7cf53 9 = .ok (.iload_n 1, 1) := by decide +kernel
theorem dJ9_max_7cf53_10 : decode cJ9_max_7cf53 10 = .ok (.ireturn, 1) := by decide +kernel
theorem dJ9_min_7cf53_0 : decode cJ9_min_7cf53 0 = .ok (.iload_n 0, 1) := by decide +kernel
theorem dJ9_min_7cf53_1 : decode cJ9_min_7cf53 1 = .ok (.iload_n 1, 1) := by decide +kernel
theorem dJ9_min_7cf53_2 : decode cJ9_min_7cf53 2 = .ok (.if_icmp .gt 7, 3) := by decide +kernel
theorem dJ9_min_7cf53_5 : decode cJ9_min_7cf53 5 = .ok (.iload_n 0, 1) := by decide +kernel
theorem dJ9_min_7cf53_6 : decode cJ9_min_7cf53 6 = .ok (.goto 4, 3) := by decide +kernel
theorem dJ9_min_7cf53_9 : decode cJ9_min_7cf53 9 = .ok (.iload_n 1, 1) := by decide +kernel
theorem dJ9_min_7cf53_10 : decode cJ9_min_7cf53 10 = .ok (.ireturn, 1) := by decide +kernel
theorem dJ0_length_8abf5_0 : decode cJ0_length_8abf5 0 = .ok (.aload_n 0, 1) := by decide +kernel
theorem dJ0_length_8abf5_1 : decode cJ0_length_8abf5 1 = .ok (.getfield 9, 3) := by decide +kernel
theorem dJ0_length_8abf5_4 : decode cJ0_length_8abf5 4 = .ok (.arraylength, 1) := by decide +kernel
theorem dJ0_length_8abf5_5 : decode cJ0_length_8abf5 5 = .ok (.aload_n 0, 1) := by decide +kernel
theorem dJ0_length_8abf5_6 : decode cJ0_length_8abf5 6 = .ok (.invokevirtual 335, 3) := by decide +kernel
theorem dJ0_length_8abf5_9 : decode cJ0_length_8abf5 9 = .ok (.ishr, 1) := by decide +kernel
theorem dJ0_length_8abf5_10 : decode cJ0_length_8abf5 10 = .ok (.ireturn, 1) := by decide +kernel
theorem dJ0_charAt_5068e_0 : decode cJ0_charAt_5068e 0 = .ok (.aload_n 0, 1) := by decide +kernel
theorem dJ0_charAt_5068e_1 : decode cJ0_charAt_5068e 1 = .ok (.invokevirtual 492, 3) := by decide +kernel
theorem dJ0_charAt_5068e_4 : decode cJ0_charAt_5068e 4 = .ok (.ifCond .eq 12, 3) := by decide +kernel
theorem dJ0_charAt_5068e_7 : decode cJ0_charAt_5068e 7 = .ok (.aload_n 0, 1) := by decide +kernel
theorem dJ0_charAt_5068e_8 : decode cJ0_charAt_5068e 8 = .ok (.getfield 9, 3) := by decide +kernel
theorem dJ0_charAt_5068e_11 : decode cJ0_charAt_5068e 11 = .ok (.iload_n 1, 1) := by decide +kernel
theorem dJ0_charAt_5068e_12 : decode cJ0_charAt_5068e 12 = .ok (.invokestatic 495, 3) := by decide +kernel
theorem dJ0_charAt_5068e_15 : decode cJ0_charAt_5068e 15 = .ok (.ireturn, 1) := by decide +kernel
theorem dJ0_charAt_5068e_16 : decode cJ0_charAt_5068e 16 = .ok (.aload_n 0, 1) := by decide +kernel
theorem dJ0_charAt_5068e_17 : decode cJ0_charAt_5068e 17 = .ok (.getfield 9, 3) := by decide +kernel
theorem dJ0_charAt_5068e_20 : decode cJ0_charAt_5068e 20 = .ok (.iload_n 1, 1) := by decide +kernel
theorem dJ0_charAt_5068e_21 : decode cJ0_charAt_5068e 21 = .ok (.invokestatic 498, 3) := by decide +kernel
theorem dJ0_charAt_5068e_24 : decode cJ0_charAt_5068e 24 = .ok (.ireturn, 1) := by decide +kernel
theorem dJ0_coder_7d493_0 : decode cJ0_coder_7d493 0 = .ok (.getstatic 38, 3) := by decide +kernel
theorem dJ0_coder_7d493_3 : decode cJ0_coder_7d493 3 = .ok (.ifCond .eq 10, 3) := by decide +kernel
theorem dJ0_coder_7d493_6 : decode cJ0_coder_7d493 6 = .ok (.aload_n 0, 1) := by decide +kernel
theorem dJ0_coder_7d493_7 : decode cJ0_coder_7d493 7 = .ok (.getfield 15, 3) := by decide +kernel
theorem dJ0_coder_7d493_10 : decode cJ0_coder_7d493 10 = .ok (.goto 4, 3) := by decide +kernel
theorem dJ0_coder_7d493_13 : decode cJ0_coder_7d493 13 = .ok (.iconst 1, 1) := by decide +kernel
theorem dJ0_coder_7d493_14 : decode cJ0_coder_7d493 14 = .ok (.ireturn, 1) := by decide +kernel
theorem dJ0_isLatin1_aae02_0 : decode cJ0_isLatin1_aae02 0 = .ok (.getstatic 38, 3) := by decide +kernel
theorem dJ0_isLatin1_aae02_3 : decode cJ0_isLatin1_aae02 3 = .ok (.ifCond .eq 14, 3) := by decide +kernel
theorem dJ0_isLatin1_aae02_6 : decode cJ0_isLatin1_aae02 6 = .ok (.aload_n 0, 1) := by decide +kernel
theorem dJ0_isLatin1_aae02_7 : decode cJ0_isLatin1_aae02 7 = .ok (.getfield 15, 3) := by decide +kernel
theorem dJ0_isLatin1_aae02_10 : decode cJ0_isLatin1_aae02 10 = .ok (.ifCond .ne 7, 3) := by decide +kernel
theorem dJ0_isLatin1_aae02_13 : decode cJ0_isLatin1_aae02 13 = .ok (.iconst 1, 1) := by decide +kernel
theorem dJ0_isLatin1_aae02_14 : decode cJ0_isLatin1_aae02 14 = .ok (.goto 4, 3) := by decide +kernel
theorem dJ0_isLatin1_aae02_17 : decode cJ0_isLatin1_aae02 17 = .ok (.iconst 0, 1) := by decide +kernel
theorem dJ0_isLatin1_aae02_18 : decode cJ0_isLatin1_aae02 18 = .ok (.ireturn, 1) := by decide +kernel
theorem dJ0_checkIndex_df160_0 : decode cJ0_checkIndex_df160 0 = .ok (.iload_n 0, 1) := by decide +kernel
theorem dJ0_checkIndex_df160_1 : decode cJ0_checkIndex_df160 1 = .ok (.iload_n 1, 1) := by decide +kernel
theorem dJ0_checkIndex_df160_2 : decode cJ0_checkIndex_df160 2 = .ok (.getstatic 1053, 3) := by decide +kernel
theorem dJ0_checkIndex_df160_5 : decode cJ0_checkIndex_df160 5 = .ok (.invokestatic 1059, 3) := by decide +kernel
theorem dJ0_checkIndex_df160_8 : decode cJ0_checkIndex_df160 8 = .ok (.pop, 1) := by decide +kernel
theorem dJ0_checkIndex_df160_9 : decode cJ0_checkIndex_df160 9 = .ok (.return_, 1) := by decide +kernel
theorem dJ1_charAt_3b067_0 : decode cJ1_charAt_3b067 0 = .ok (.iload_n 1, 1) := by decide +kernel
theorem dJ1_charAt_3b067_1 : decode cJ1_charAt_3b067 1 = .ok (.aload_n 0, 1) := by decide +kernel
theorem dJ1_charAt_3b067_2 : decode cJ1_charAt_3b067 2 = .ok (.arraylength, 1) := by decide +kernel
theorem dJ1_charAt_3b067_3 : decode cJ1_charAt_3b067 3 = .ok (.invokestatic 9, 3) := by decide +kernel
theorem dJ1_charAt_3b067_6 : decode cJ1_charAt_3b067 6 = .ok (.aload_n 0, 1) := by decide +kernel
theorem dJ1_charAt_3b067_7 : decode cJ1_charAt_3b067 7 = .ok (.iload_n 1, 1) := by decide +kernel
theorem dJ1_charAt_3b067_8 : decode cJ1_charAt_3b067 8 = .ok (.baload, 1) := by decide +kernel
theorem dJ1_charAt_3b067_9 : decode cJ1_charAt_3b067 9 = .ok (.sipush 255, 3) := by decide +kernel
theorem dJ1_charAt_3b067_12 : decode cJ1_charAt_3b067 12 = .ok (.iand, 1) := by decide +kernel
theorem dJ1_charAt_3b067_13 : decode cJ1_charAt_3b067 13 = .ok (.i2c, 1) := by decide +kernel
theorem dJ1_charAt_3b067_14 : decode cJ1_charAt_3b067 14 = .ok (.ireturn, 1) := by decide +kernel
theorem dJ2_getChar_3b067_0 : decode cJ2_getChar_3b067 0 = .ok (.getstatic 44, 3) := by decide +kernel
theorem dJ2_getChar_3b067_3 : decode cJ2_getChar_3b067 3 = .ok (.ifCond .ne 25, 3) := by decide +kernel
theorem dJ2_getChar_3b067_6 : decode cJ2_getChar_3b067 6 = .ok (.iload_n 1, 1) := by decide +kernel
theorem dJ2_getChar_3b067_7 : decode cJ2_getChar_3b067 7 = .ok (.ifCond .lt 11, 3) := by decide +kernel
theorem dJ2_getChar_3b067_10 : decode cJ2_getChar_3b067 10 = .ok (.iload_n 1, 1) := by decide +kernel
theorem dJ2_getChar_3b067_11 : decode cJ2_getChar_3b067 11 = .ok (.aload_n 0, 1) := by decide +kernel
theorem dJ2_getChar_3b067_12 : decode cJ2_getChar_3b067 12 = .ok (.invokestatic 48, 3) := by decide +kernel
theorem dJ2_getChar_3b067_15 : decode cJ2_getChar_3b067 15 = .ok (.if_icmp .lt 13, 3) := by decide +kernel
theorem dJ2_getChar_3b067_18 : decode cJ2_getChar_3b067 18 = .ok (.new 52, 3) := by decide +kernel
theorem dJ2_getChar_3b067_21 : decode cJ2_getChar_3b067 21 = .ok (.dup, 1) := by decide +kernel
theorem dJ2_getChar_3b067_22 : decode cJ2_getChar_3b067 22 = .ok (.ldc 54, 2) := by decide +kernel
theorem dJ2_getChar_3b067_24 : decode cJ2_getChar_3b067 24 = .ok (.invokespecial 56, 3) := by decide +kernel
theorem dJ2_getChar_3b067_27 : decode cJ2_getChar_3b067 27 = .ok (.athrow, 1) := by decide +kernel
theorem dJ2_getChar_3b067_28 : decode cJ2_getChar_3b067 28 = .ok (.iload_n 1, 1) := by decide +kernel
theorem dJ2_getChar_3b067_29 : decode cJ2_getChar_3b067 29 = .ok (.iconst 1, 1) := by decide +kernel
theorem dJ2_getChar_3b067_30 : decode cJ2_getChar_3b067 30 = .ok (.ishl, 1) := by decide +kernel
theorem dJ2_getChar_3b067_31 : decode cJ2_getChar_3b067 31 = .ok (.istore_n 1, 1) := by decide +kernel
theorem dJ2_getChar_3b067_32 : decode cJ2_getChar_3b067 32 = .ok (.aload_n 0, 1) := by decide +kernel
theorem dJ2_getChar_3b067_33 : decode cJ2_getChar_3b067 33 = .ok (.iload_n 1, 1) := by decide +kernel
theorem dJ2_getChar_3b067_34 : decode cJ2_getChar_3b067 34 = .ok (.iinc 1 1, 3) := by decide +kernel
theorem dJ2_getChar_3b067_37 : decode cJ2_getChar_3b067 37 = .ok (.baload, 1) := by decide +kernel
theorem dJ2_getChar_3b067_38 : decode cJ2_getChar_3b067 38 = .ok (.sipush 255, 3) := by decide +kernel
theorem dJ2_getChar_3b067_41 : decode cJ2_getChar_3b067 41 = .ok (.iand, 1) := by decide +kernel
theorem dJ2_getChar_3b067_42 : decode cJ2_getChar_3b067 42 = .ok (.getstatic 59, 3) := by decide +kernel
theorem dJ2_getChar_3b067_45 : decode cJ2_getChar_3b067 45 = .ok (.ishl, 1) := by decide +kernel
theorem dJ2_getChar_3b067_46 : decode cJ2_getChar_3b067 46 = .ok (.aload_n 0, 1) := by decide +kernel
theorem dJ2_getChar_3b067_47 : decode cJ2_getChar_3b067 47 = .ok (.iload_n 1, 1) := by decide +kernel
theorem dJ2_getChar_3b067_48 : decode cJ2_getChar_3b067 48 = .ok (.baload, 1) := by decide +kernel
theorem dJ2_getChar_3b067_49 : decode cJ2_getChar_3b067 49 = .ok (.sipush 255, 3) := by decide +kernel
theorem dJ2_getChar_3b067_52 : decode cJ2_getChar_3b067 52 = .ok (.iand, 1) := by decide +kernel
theorem dJ2_getChar_3b067_53 : decode cJ2_getChar_3b067 53 = .ok (.getstatic 63, 3) := by decide +kernel
theorem dJ2_getChar_3b067_56 : decode cJ2_getChar_3b067 56 = .ok (.ishl, 1) := by decide +kernel
theorem dJ2_getChar_3b067_57 : decode cJ2_getChar_3b067 57 = .ok (.ior, 1) := by decide +kernel
theorem dJ2_getChar_3b067_58 : decode cJ2_getChar_3b067 58 = .ok (.i2c, 1) := by decide +kernel
theorem dJ2_getChar_3b067_59 : decode cJ2_getChar_3b067 59 = .ok (.ireturn, 1) := by decide +kernel
theorem dJ2_length_9d52b_0 : decode cJ2_length_9d52b 0 = .ok (.aload_n 0, 1) := by decide +kernel
theorem dJ2_length_9d52b_1 : decode cJ2_length_9d52b 1 = .ok (.arraylength, 1) := by decide +kernel
theorem dJ2_length_9d52b_2 : decode cJ2_length_9d52b 2 = .ok (.iconst 1, 1) := by decide +kernel
theorem dJ2_length_9d52b_3 : decode cJ2_length_9d52b 3 = .ok (.ishr, 1) := by decide +kernel
theorem dJ2_length_9d52b_4 : decode cJ2_length_9d52b 4 = .ok (.ireturn, 1) := by decide +kernel
theorem dJ2_charAt_3b067_0 : decode cJ2_charAt_3b067 0 = .ok (.iload_n 1, 1) := by decide +kernel
theorem dJ2_charAt_3b067_1 : decode cJ2_charAt_3b067 1 = .ok (.aload_n 0, 1) := by decide +kernel
theorem dJ2_charAt_3b067_2 : decode cJ2_charAt_3b067 2 = .ok (.invokestatic 67, 3) := by decide +kernel
theorem dJ2_charAt_3b067_5 : decode cJ2_charAt_3b067 5 = .ok (.aload_n 0, 1) := by decide +kernel
theorem dJ2_charAt_3b067_6 : decode cJ2_charAt_3b067 6 = .ok (.iload_n 1, 1) := by decide +kernel
theorem dJ2_charAt_3b067_7 : decode cJ2_charAt_3b067 7 = .ok (.invokestatic 71, 3) := by decide +kernel
theorem dJ2_charAt_3b067_10 : decode cJ2_charAt_3b067 10 = .ok (.ireturn, 1) := by decide +kernel
theorem dJ2_checkIndex_2214a_0 : decode cJ2_checkIndex_2214a 0 = .ok (.iload_n 0, 1) := by decide +kernel
theorem dJ2_checkIndex_2214a_1 : decode cJ2_checkIndex_2214a 1 = .ok (.aload_n 1, 1) := by decide +kernel
theorem dJ2_checkIndex_2214a_2 : decode cJ2_checkIndex_2214a 2 = .ok (.invokestatic 48, 3) := by decide +kernel
theorem dJ2_checkIndex_2214a_5 : decode cJ2_checkIndex_2214a 5 = .ok (.invokestatic 414, 3) := by decide +kernel
theorem dJ2_checkIndex_2214a_8 : decode cJ2_checkIndex_2214a 8 = .ok (.return_, 1) := by decide +kernel
theorem dJ7_fill_53178_0 : decode cJ7_fill_53178 0 = .ok (.iconst 0, 1) := by decide +kernel
theorem dJ7_fill_53178_1 : decode cJ7_fill_53178 1 = .ok (.istore_n 2, 1) := by decide +kernel
theorem dJ7_fill_53178_2 : decode cJ7_fill_53178 2 = .ok (.aload_n 0, 1) := by decide +kernel
theorem dJ7_fill_53178_3 : decode cJ7_fill_53178 3 = .ok (.arraylength, 1) := by decide +kernel
theorem dJ7_fill_53178_4 : decode cJ7_fill_53178 4 = .ok (.istore_n 3, 1) := by decide +kernel
theorem dJ7_fill_53178_5 : decode cJ7_fill_53178 5 = .ok (.iload_n 2, 1) := by decide +kernel
theorem dJ7_fill_53178_6 : decode cJ7_fill_53178 6 = .ok (.iload_n 3, 1) := by decide +kernel
theorem dJ7_fill_53178_7 : decode cJ7_fill_53178 7 = .ok (.if_icmp .ge 13, 3) := by decide +kernel
theorem dJ7_fill_53178_10 : decode cJ7_fill_53178 10 = .ok (.aload_n 0, 1) := by decide +kernel
theorem dJ7_fill_53178_11 : decode cJ7_fill_53178 11 = .ok (.iload_n 2, 1) := by decide +kernel
theorem dJ7_fill_53178_12 : decode cJ7_fill_53178 12 = .ok (.iload_n 1, 1) := by decide +kernel
theorem dJ7_fill_53178_13 : decode cJ7_fill_53178 13 = .ok (.iastore, 1) := by decide +kernel
theorem dJ7_fill_53178_14 : decode cJ7_fill_53178 14 = .ok (.iinc 2 1, 3) := by decide +kernel
theorem dJ7_fill_53178_17 : decode cJ7_fill_53178 17 = .ok (.goto (-12), 3) := by decide +kernel
theorem dJ7_fill_53178_20 : decode cJ7_fill_53178 20 = .ok (.return_, 1) := by decide +kernel
theorem dJ3_checkIndex_8e157_0 : decode cJ3_checkIndex_8e157 0 = .ok (.iload_n 0, 1) := by decide +kernel
theorem dJ3_checkIndex_8e157_1 : decode cJ3_checkIndex_8e157 1 = .ok (.ifCond .lt 8, 3) := by decide +kernel
theorem dJ3_checkIndex_8e157_4 : decode cJ3_checkIndex_8e157 4 = .ok (.iload_n 0, 1) := by decide +kernel
theorem dJ3_checkIndex_8e157_5 : decode cJ3_checkIndex_8e157 5 = .ok (.iload_n 1, 1) := by decide +kernel
theorem dJ3_checkIndex_8e157_6 : decode cJ3_checkIndex_8e157 6 = .ok (.if_icmp .lt 10, 3) := by decide +kernel
theorem dJ3_checkIndex_8e157_9 : decode cJ3_checkIndex_8e157 9 = .ok (.aload_n 2, 1) := by decide +kernel
theorem dJ3_checkIndex_8e157_10 : decode cJ3_checkIndex_8e157 10 = .ok (.iload_n 0, 1) := by decide +kernel
theorem dJ3_checkIndex_8e157_11 : decode cJ3_checkIndex_8e157 11 = .ok (.iload_n 1, 1) := by decide +kernel
theorem dJ3_checkIndex_8e157_12 : decode cJ3_checkIndex_8e157 12 = .ok (.invokestatic 95, 3) := by decide +kernel
theorem dJ3_checkIndex_8e157_15 : decode cJ3_checkIndex_8e157 15 = .ok (.athrow, 1) := by decide +kernel
theorem dJ3_checkIndex_8e157_16 : decode cJ3_checkIndex_8e157 16 = .ok (.iload_n 0, 1) := by decide +kernel
theorem dJ3_checkIndex_8e157_17 : decode cJ3_checkIndex_8e157 17 = .ok (.ireturn, 1) := by decide +kernel
theorem dL_addClass_0 : decode cL_addClass 0 = .ok (.aload 4, 2) := by decide +kernel
theorem dL_addClass_2 : decode cL_addClass 2 = .ok (.iconst 0, 1) := by decide +kernel
theorem dL_addClass_3 : decode cL_addClass 3 = .ok (.aload_n 0, 1) := by decide +kernel
theorem dL_addClass_4 : decode cL_addClass 4 = .ok (.iload_n 1, 1) := by decide +kernel
theorem dL_addClass_5 : decode cL_addClass 5 = .ok (.iload_n 2, 1) := by decide +kernel
theorem dL_addClass_6 : decode cL_addClass 6 = .ok (.iload_n 3, 1) := by decide +kernel
theorem dL_addClass_7 : decode cL_addClass 7 = .ok (.invokevirtual 7, 3) := by decide +kernel
theorem dL_addClass_10 : decode cL_addClass 10 = .ok (.i2l, 1) := by decide +kernel
theorem dL_addClass_11 : decode cL_addClass 11 = .ok (.lastore, 1) := by decide +kernel
theorem dL_addClass_12 : decode cL_addClass 12 = .ok (.goto 11, 3) := by decide +kernel
theorem dL_addClass_15 : decode cL_addClass 15 = .ok (.astore 5, 2) := by decide +kernel
theorem dL_addClass_17 : decode cL_addClass 17 = .ok (.iconst 1, 1) := by decide +kernel
theorem dL_addClass_18 : decode cL_addClass 18 = .ok (.ireturn, 1) := by decide +kernel
theorem dL_addClass_19 : decode cL_addClass 19 = .ok (.astore 5, 2) := by decide +kernel
theorem dL_addClass_21 : decode cL_addClass 21 = .ok (.iconst 2, 1) := by decide +kernel
theorem dL_addClass_22 : decode cL_addClass 22 = .ok (.ireturn, 1) := by decide +kernel
theorem dL_addClass_23 : decode cL_addClass 23 = .ok (.iconst 0, 1) := by decide +kernel
theorem dL_addClass_24 : decode cL_addClass 24 = .ok (.ireturn, 1) := by decide +kernel
theorem dL_addSite_0 : decode cL_addSite 0 = .ok (.aload_n 2, 1) := by decide +kernel
theorem dL_addSite_1 : decode cL_addSite 1 = .ok (.iconst 0, 1) := by decide +kernel
theorem dL_addSite_2 : decode cL_addSite 2 = .ok (.aload_n 0, 1) := by decide +kernel
theorem dL_addSite_3 : decode cL_addSite 3 = .ok (.iload_n 1, 1) := by decide +kernel
theorem dL_addSite_4 : decode cL_addSite 4 = .ok (.invokevirtual 17, 3) := by decide +kernel
theorem dL_addSite_7 : decode cL_addSite 7 = .ok (.i2l, 1) := by decide +kernel
theorem dL_addSite_8 : decode cL_addSite 8 = .ok (.lastore, 1) := by decide +kernel
theorem dL_addSite_9 : decode cL_addSite 9 = .ok (.goto 9, 3) := by decide +kernel
theorem dL_addSite_12 : decode cL_addSite 12 = .ok (.astore_n 3, 1) := by decide +kernel
theorem dL_addSite_13 : decode cL_addSite 13 = .ok (.iconst 1, 1) := by decide +kernel
theorem dL_addSite_14 : decode cL_addSite 14 = .ok (.ireturn, 1) := by decide +kernel
theorem dL_addSite_15 : decode cL_addSite 15 = .ok (.astore_n 3, 1) := by decide +kernel
theorem dL_addSite_16 : decode cL_addSite 16 = .ok (.iconst 2, 1) := by decide +kernel
theorem dL_addSite_17 : decode cL_addSite 17 = .ok (.ireturn, 1) := by decide +kernel
theorem dL_addSite_18 : decode cL_addSite 18 = .ok (.iconst 0, 1) := by decide +kernel
theorem dL_addSite_19 : decode cL_addSite 19 = .ok (.ireturn, 1) := by decide +kernel
theorem dL_addSeason_0 : decode cL_addSeason 0 = .ok (.aload 6, 2) := by decide +kernel
theorem dL_addSeason_2 : decode cL_addSeason 2 = .ok (.iconst 0, 1) := by decide +kernel
theorem dL_addSeason_3 : decode cL_addSeason 3 = .ok (.aload_n 0, 1) := by decide +kernel
theorem dL_addSeason_4 : decode cL_addSeason 4 = .ok (.iload_n 1, 1) := by decide +kernel
theorem dL_addSeason_5 : decode cL_addSeason 5 = .ok (.iload_n 2, 1) := by decide +kernel
theorem dL_addSeason_6 : decode cL_addSeason 6 = .ok (.iload_n 3, 1) := by decide +kernel
theorem dL_addSeason_7 : decode cL_addSeason 7 = .ok (.iload 4, 2) := by decide +kernel
theorem dL_addSeason_9 : decode cL_addSeason 9 = .ok (.iload 5, 2) := by decide +kernel
theorem dL_addSeason_11 : decode cL_addSeason 11 = .ok (.invokevirtual 23, 3) := by decide +kernel
theorem dL_addSeason_14 : decode cL_addSeason 14 = .ok (.i2l, 1) := by decide +kernel
theorem dL_addSeason_15 : decode cL_addSeason 15 = .ok (.lastore, 1) := by decide +kernel
theorem dL_addSeason_16 : decode cL_addSeason 16 = .ok (.goto 15, 3) := by decide +kernel
theorem dL_addSeason_19 : decode cL_addSeason 19 = .ok (.astore 7, 2) := by decide +kernel
theorem dL_addSeason_21 : decode cL_addSeason 21 = .ok (.iconst 1, 1) := by decide +kernel
theorem dL_addSeason_22 : decode cL_addSeason 22 = .ok (.ireturn, 1) := by decide +kernel
theorem dL_addSeason_23 : decode cL_addSeason 23 = .ok (.astore 7, 2) := by decide +kernel
theorem dL_addSeason_25 : decode cL_addSeason 25 = .ok (.iconst 2, 1) := by decide +kernel
theorem dL_addSeason_26 : decode cL_addSeason 26 = .ok (.ireturn, 1) := by decide +kernel
theorem dL_addSeason_27 : decode cL_addSeason 27 = .ok (.astore 7, 2) := by decide +kernel
theorem dL_addSeason_29 : decode cL_addSeason 29 = .ok (.iconst 3, 1) := by decide +kernel
theorem dL_addSeason_30 : decode cL_addSeason 30 = .ok (.ireturn, 1) := by decide +kernel
theorem dL_addSeason_31 : decode cL_addSeason 31 = .ok (.iconst 0, 1) := by decide +kernel
theorem dL_addSeason_32 : decode cL_addSeason 32 = .ok (.ireturn, 1) := by decide +kernel
theorem dL_classOf_0 : decode cL_classOf 0 = .ok (.aload_n 2, 1) := by decide +kernel
theorem dL_classOf_1 : decode cL_classOf 1 = .ok (.iconst 0, 1) := by decide +kernel
theorem dL_classOf_2 : decode cL_classOf 2 = .ok (.aload_n 0, 1) := by decide +kernel
theorem dL_classOf_3 : decode cL_classOf 3 = .ok (.iload_n 1, 1) := by decide +kernel
theorem dL_classOf_4 : decode cL_classOf 4 = .ok (.invokevirtual 27, 3) := by decide +kernel
theorem dL_classOf_7 : decode cL_classOf 7 = .ok (.i2l, 1) := by decide +kernel
theorem dL_classOf_8 : decode cL_classOf 8 = .ok (.lastore, 1) := by decide +kernel
theorem dL_classOf_9 : decode cL_classOf 9 = .ok (.goto 6, 3) := by decide +kernel
theorem dL_classOf_12 : decode cL_classOf 12 = .ok (.astore_n 3, 1) := by decide +kernel
theorem dL_classOf_13 : decode cL_classOf 13 = .ok (.iconst 1, 1) := by decide +kernel
theorem dL_classOf_14 : decode cL_classOf 14 = .ok (.ireturn, 1) := by decide +kernel
theorem dL_classOf_15 : decode cL_classOf 15 = .ok (.iconst 0, 1) := by decide +kernel
theorem dL_classOf_16 : decode cL_classOf 16 = .ok (.ireturn, 1) := by decide +kernel
theorem dL_minimum_0 : decode cL_minimum 0 = .ok (.aload_n 3, 1) := by decide +kernel
theorem dL_minimum_1 : decode cL_minimum 1 = .ok (.iconst 0, 1) := by decide +kernel
theorem dL_minimum_2 : decode cL_minimum 2 = .ok (.aload_n 0, 1) := by decide +kernel
theorem dL_minimum_3 : decode cL_minimum 3 = .ok (.iload_n 1, 1) := by decide +kernel
theorem dL_minimum_4 : decode cL_minimum 4 = .ok (.iload_n 2, 1) := by decide +kernel
theorem dL_minimum_5 : decode cL_minimum 5 = .ok (.invokevirtual 30, 3) := by decide +kernel
theorem dL_minimum_8 : decode cL_minimum 8 = .ok (.i2l, 1) := by decide +kernel
theorem dL_minimum_9 : decode cL_minimum 9 = .ok (.lastore, 1) := by decide +kernel
theorem dL_minimum_10 : decode cL_minimum 10 = .ok (.goto 11, 3) := by decide +kernel
theorem dL_minimum_13 : decode cL_minimum 13 = .ok (.astore 4, 2) := by decide +kernel
theorem dL_minimum_15 : decode cL_minimum 15 = .ok (.iconst 1, 1) := by decide +kernel
theorem dL_minimum_16 : decode cL_minimum 16 = .ok (.ireturn, 1) := by decide +kernel
theorem dL_minimum_17 : decode cL_minimum 17 = .ok (.astore 4, 2) := by decide +kernel
theorem dL_minimum_19 : decode cL_minimum 19 = .ok (.iconst 2, 1) := by decide +kernel
theorem dL_minimum_20 : decode cL_minimum 20 = .ok (.ireturn, 1) := by decide +kernel
theorem dL_minimum_21 : decode cL_minimum 21 = .ok (.iconst 0, 1) := by decide +kernel
theorem dL_minimum_22 : decode cL_minimum 22 = .ok (.ireturn, 1) := by decide +kernel
theorem dL_price_0 : decode cL_price 0 = .ok (.aload_n 3, 1) := by decide +kernel
theorem dL_price_1 : decode cL_price 1 = .ok (.iconst 0, 1) := by decide +kernel
theorem dL_price_2 : decode cL_price 2 = .ok (.aload_n 0, 1) := by decide +kernel
theorem dL_price_3 : decode cL_price 3 = .ok (.iload_n 1, 1) := by decide +kernel
theorem dL_price_4 : decode cL_price 4 = .ok (.iload_n 2, 1) := by decide +kernel
theorem dL_price_5 : decode cL_price 5 = .ok (.invokevirtual 34, 3) := by decide +kernel
theorem dL_price_8 : decode cL_price 8 = .ok (.i2l, 1) := by decide +kernel
theorem dL_price_9 : decode cL_price 9 = .ok (.lastore, 1) := by decide +kernel
theorem dL_price_10 : decode cL_price 10 = .ok (.goto 11, 3) := by decide +kernel
theorem dL_price_13 : decode cL_price 13 = .ok (.astore 4, 2) := by decide +kernel
theorem dL_price_15 : decode cL_price 15 = .ok (.iconst 1, 1) := by decide +kernel
theorem dL_price_16 : decode cL_price 16 = .ok (.ireturn, 1) := by decide +kernel
theorem dL_price_17 : decode cL_price 17 = .ok (.astore 4, 2) := by decide +kernel
theorem dL_price_19 : decode cL_price 19 = .ok (.iconst 2, 1) := by decide +kernel
theorem dL_price_20 : decode cL_price 20 = .ok (.ireturn, 1) := by decide +kernel
theorem dL_price_21 : decode cL_price 21 = .ok (.iconst 0, 1) := by decide +kernel
theorem dL_price_22 : decode cL_price 22 = .ok (.ireturn, 1) := by decide +kernel
theorem dL_capacity_0 : decode cL_capacity 0 = .ok (.aload_n 3, 1) := by decide +kernel
theorem dL_capacity_1 : decode cL_capacity 1 = .ok (.iconst 0, 1) := by decide +kernel
theorem dL_capacity_2 : decode cL_capacity 2 = .ok (.aload_n 0, 1) := by decide +kernel
theorem dL_capacity_3 : decode cL_capacity 3 = .ok (.iload_n 1, 1) := by decide +kernel
theorem dL_capacity_4 : decode cL_capacity 4 = .ok (.iload_n 2, 1) := by decide +kernel
theorem dL_capacity_5 : decode cL_capacity 5 = .ok (.invokevirtual 37, 3) := by decide +kernel
theorem dL_capacity_8 : decode cL_capacity 8 = .ok (.i2l, 1) := by decide +kernel
theorem dL_capacity_9 : decode cL_capacity 9 = .ok (.lastore, 1) := by decide +kernel
theorem dL_capacity_10 : decode cL_capacity 10 = .ok (.goto 7, 3) := by decide +kernel
theorem dL_capacity_13 : decode cL_capacity 13 = .ok (.astore 4, 2) := by decide +kernel
theorem dL_capacity_15 : decode cL_capacity 15 = .ok (.iconst 1, 1) := by decide +kernel
theorem dL_capacity_16 : decode cL_capacity 16 = .ok (.ireturn, 1) := by decide +kernel
theorem dL_capacity_17 : decode cL_capacity 17 = .ok (.iconst 0, 1) := by decide +kernel
theorem dL_capacity_18 : decode cL_capacity 18 = .ok (.ireturn, 1) := by decide +kernel
theorem dL_released_0 : decode cL_released 0 = .ok (.aload_n 3, 1) := by decide +kernel
theorem dL_released_1 : decode cL_released 1 = .ok (.iconst 0, 1) := by decide +kernel
theorem dL_released_2 : decode cL_released 2 = .ok (.aload_n 0, 1) := by decide +kernel
theorem dL_released_3 : decode cL_released 3 = .ok (.iload_n 1, 1) := by decide +kernel
theorem dL_released_4 : decode cL_released 4 = .ok (.iload_n 2, 1) := by decide +kernel
theorem dL_released_5 : decode cL_released 5 = .ok (.invokevirtual 40, 3) := by decide +kernel
theorem dL_released_8 : decode cL_released 8 = .ok (.i2l, 1) := by decide +kernel
theorem dL_released_9 : decode cL_released 9 = .ok (.lastore, 1) := by decide +kernel
theorem dL_released_10 : decode cL_released 10 = .ok (.goto 7, 3) := by decide +kernel
theorem dL_released_13 : decode cL_released 13 = .ok (.astore 4, 2) := by decide +kernel
theorem dL_released_15 : decode cL_released 15 = .ok (.iconst 1, 1) := by decide +kernel
theorem dL_released_16 : decode cL_released 16 = .ok (.ireturn, 1) := by decide +kernel
theorem dL_released_17 : decode cL_released 17 = .ok (.iconst 0, 1) := by decide +kernel
theorem dL_released_18 : decode cL_released 18 = .ok (.ireturn, 1) := by decide +kernel
theorem dL_taken_0 : decode cL_taken 0 = .ok (.aload_n 3, 1) := by decide +kernel
theorem dL_taken_1 : decode cL_taken 1 = .ok (.iconst 0, 1) := by decide +kernel
theorem dL_taken_2 : decode cL_taken 2 = .ok (.aload_n 0, 1) := by decide +kernel
theorem dL_taken_3 : decode cL_taken 3 = .ok (.iload_n 1, 1) := by decide +kernel
theorem dL_taken_4 : decode cL_taken 4 = .ok (.iload_n 2, 1) := by decide +kernel
theorem dL_taken_5 : decode cL_taken 5 = .ok (.invokevirtual 43, 3) := by decide +kernel
theorem dL_taken_8 : decode cL_taken 8 = .ok (.i2l, 1) := by decide +kernel
theorem dL_taken_9 : decode cL_taken 9 = .ok (.lastore, 1) := by decide +kernel
theorem dL_taken_10 : decode cL_taken 10 = .ok (.goto 7, 3) := by decide +kernel
theorem dL_taken_13 : decode cL_taken 13 = .ok (.astore 4, 2) := by decide +kernel
theorem dL_taken_15 : decode cL_taken 15 = .ok (.iconst 1, 1) := by decide +kernel
theorem dL_taken_16 : decode cL_taken 16 = .ok (.ireturn, 1) := by decide +kernel
theorem dL_taken_17 : decode cL_taken 17 = .ok (.iconst 0, 1) := by decide +kernel
theorem dL_taken_18 : decode cL_taken 18 = .ok (.ireturn, 1) := by decide +kernel
theorem dL_available_0 : decode cL_available 0 = .ok (.aload_n 3, 1) := by decide +kernel
theorem dL_available_1 : decode cL_available 1 = .ok (.iconst 0, 1) := by decide +kernel
theorem dL_available_2 : decode cL_available 2 = .ok (.aload_n 0, 1) := by decide +kernel
theorem dL_available_3 : decode cL_available 3 = .ok (.iload_n 1, 1) := by decide +kernel
theorem dL_available_4 : decode cL_available 4 = .ok (.iload_n 2, 1) := by decide +kernel
theorem dL_available_5 : decode cL_available 5 = .ok (.invokevirtual 46, 3) := by decide +kernel
theorem dL_available_8 : decode cL_available 8 = .ok (.i2l, 1) := by decide +kernel
theorem dL_available_9 : decode cL_available 9 = .ok (.lastore, 1) := by decide +kernel
theorem dL_available_10 : decode cL_available 10 = .ok (.goto 7, 3) := by decide +kernel
theorem dL_available_13 : decode cL_available 13 = .ok (.astore 4, 2) := by decide +kernel
theorem dL_available_15 : decode cL_available 15 = .ok (.iconst 1, 1) := by decide +kernel
theorem dL_available_16 : decode cL_available 16 = .ok (.ireturn, 1) := by decide +kernel
theorem dL_available_17 : decode cL_available 17 = .ok (.iconst 0, 1) := by decide +kernel
theorem dL_available_18 : decode cL_available 18 = .ok (.ireturn, 1) := by decide +kernel
theorem dL_obstacle_0 : decode cL_obstacle 0 = .ok (.aload 4, 2) := by decide +kernel
theorem dL_obstacle_2 : decode cL_obstacle 2 = .ok (.iconst 0, 1) := by decide +kernel
theorem dL_obstacle_3 : decode cL_obstacle 3 = .ok (.aload_n 0, 1) := by decide +kernel
theorem dL_obstacle_4 : decode cL_obstacle 4 = .ok (.iload_n 1, 1) := by decide +kernel
theorem dL_obstacle_5 : decode cL_obstacle 5 = .ok (.iload_n 2, 1) := by decide +kernel
theorem dL_obstacle_6 : decode cL_obstacle 6 = .ok (.iload_n 3, 1) := by decide +kernel
theorem dL_obstacle_7 : decode cL_obstacle 7 = .ok (.invokevirtual 49, 3) := by decide +kernel
theorem dL_obstacle_10 : decode cL_obstacle 10 = .ok (.i2l, 1) := by decide +kernel
theorem dL_obstacle_11 : decode cL_obstacle 11 = .ok (.lastore, 1) := by decide +kernel
theorem dL_obstacle_12 : decode cL_obstacle 12 = .ok (.goto 11, 3) := by decide +kernel
theorem dL_obstacle_15 : decode cL_obstacle 15 = .ok (.astore 5, 2) := by decide +kernel
theorem dL_obstacle_17 : decode cL_obstacle 17 = .ok (.iconst 1, 1) := by decide +kernel
theorem dL_obstacle_18 : decode cL_obstacle 18 = .ok (.ireturn, 1) := by decide +kernel
theorem dL_obstacle_19 : decode cL_obstacle 19 = .ok (.astore 5, 2) := by decide +kernel
theorem dL_obstacle_21 : decode cL_obstacle 21 = .ok (.iconst 2, 1) := by decide +kernel
theorem dL_obstacle_22 : decode cL_obstacle 22 = .ok (.ireturn, 1) := by decide +kernel
theorem dL_obstacle_23 : decode cL_obstacle 23 = .ok (.iconst 0, 1) := by decide +kernel
theorem dL_obstacle_24 : decode cL_obstacle 24 = .ok (.ireturn, 1) := by decide +kernel
theorem dL_longestStay_0 : decode cL_longestStay 0 = .ok (.aload_n 3, 1) := by decide +kernel
theorem dL_longestStay_1 : decode cL_longestStay 1 = .ok (.iconst 0, 1) := by decide +kernel
theorem dL_longestStay_2 : decode cL_longestStay 2 = .ok (.aload_n 0, 1) := by decide +kernel
theorem dL_longestStay_3 : decode cL_longestStay 3 = .ok (.iload_n 1, 1) := by decide +kernel
theorem dL_longestStay_4 : decode cL_longestStay 4 = .ok (.iload_n 2, 1) := by decide +kernel
theorem dL_longestStay_5 : decode cL_longestStay 5 = .ok (.invokevirtual 52, 3) := by decide +kernel
theorem dL_longestStay_8 : decode cL_longestStay 8 = .ok (.i2l, 1) := by decide +kernel
theorem dL_longestStay_9 : decode cL_longestStay 9 = .ok (.lastore, 1) := by decide +kernel
theorem dL_longestStay_10 : decode cL_longestStay 10 = .ok (.goto 7, 3) := by decide +kernel
theorem dL_longestStay_13 : decode cL_longestStay 13 = .ok (.astore 4, 2) := by decide +kernel
theorem dL_longestStay_15 : decode cL_longestStay 15 = .ok (.iconst 1, 1) := by decide +kernel
theorem dL_longestStay_16 : decode cL_longestStay 16 = .ok (.ireturn, 1) := by decide +kernel
theorem dL_longestStay_17 : decode cL_longestStay 17 = .ok (.iconst 0, 1) := by decide +kernel
theorem dL_longestStay_18 : decode cL_longestStay 18 = .ok (.ireturn, 1) := by decide +kernel
theorem dL_cheapestArrival_0 : decode cL_cheapestArrival 0 = .ok (.aload 5, 2) := by decide +kernel
theorem dL_cheapestArrival_2 : decode cL_cheapestArrival 2 = .ok (.iconst 0, 1) := by decide +kernel
theorem dL_cheapestArrival_3 : decode cL_cheapestArrival 3 = .ok (.aload_n 0, 1) := by decide +kernel
theorem dL_cheapestArrival_4 : decode cL_cheapestArrival 4 = .ok (.iload_n 1, 1) := by decide +kernel
theorem dL_cheapestArrival_5 : decode cL_cheapestArrival 5 = .ok (.iload_n 2, 1) := by decide +kernel
theorem dL_cheapestArrival_6 : decode cL_cheapestArrival 6 = .ok (.iload_n 3, 1) := by decide +kernel
theorem dL_cheapestArrival_7 : decode cL_cheapestArrival 7 = .ok (.iload 4, 2) := by decide +kernel
theorem dL_cheapestArrival_9 : decode cL_cheapestArrival 9 = .ok (.invokevirtual 55, 3) := by decide +kernel
theorem dL_cheapestArrival_12 : decode cL_cheapestArrival 12 = .ok (.i2l, 1) := by decide +kernel
theorem dL_cheapestArrival_13 : decode cL_cheapestArrival 13 = .ok (.lastore, 1) := by decide +kernel
theorem dL_cheapestArrival_14 : decode cL_cheapestArrival 14 = .ok (.goto 11, 3) := by decide +kernel
theorem dL_cheapestArrival_17 : decode cL_cheapestArrival 17 = .ok (.astore 6, 2) := by decide +kernel
theorem dL_cheapestArrival_19 : decode cL_cheapestArrival 19 = .ok (.iconst 1, 1) := by decide +kernel
theorem dL_cheapestArrival_20 : decode cL_cheapestArrival 20 = .ok (.ireturn, 1) := by decide +kernel
theorem dL_cheapestArrival_21 : decode cL_cheapestArrival 21 = .ok (.astore 6, 2) := by decide +kernel
theorem dL_cheapestArrival_23 : decode cL_cheapestArrival 23 = .ok (.iconst 2, 1) := by decide +kernel
theorem dL_cheapestArrival_24 : decode cL_cheapestArrival 24 = .ok (.ireturn, 1) := by decide +kernel
theorem dL_cheapestArrival_25 : decode cL_cheapestArrival 25 = .ok (.iconst 0, 1) := by decide +kernel
theorem dL_cheapestArrival_26 : decode cL_cheapestArrival 26 = .ok (.ireturn, 1) := by decide +kernel
theorem dL_nextGap_0 : decode cL_nextGap 0 = .ok (.aload_n 3, 1) := by decide +kernel
theorem dL_nextGap_1 : decode cL_nextGap 1 = .ok (.iconst 0, 1) := by decide +kernel
theorem dL_nextGap_2 : decode cL_nextGap 2 = .ok (.aload_n 0, 1) := by decide +kernel
theorem dL_nextGap_3 : decode cL_nextGap 3 = .ok (.iload_n 1, 1) := by decide +kernel
theorem dL_nextGap_4 : decode cL_nextGap 4 = .ok (.iload_n 2, 1) := by decide +kernel
theorem dL_nextGap_5 : decode cL_nextGap 5 = .ok (.invokevirtual 59, 3) := by decide +kernel
theorem dL_nextGap_8 : decode cL_nextGap 8 = .ok (.i2l, 1) := by decide +kernel
theorem dL_nextGap_9 : decode cL_nextGap 9 = .ok (.lastore, 1) := by decide +kernel
theorem dL_nextGap_10 : decode cL_nextGap 10 = .ok (.goto 11, 3) := by decide +kernel
theorem dL_nextGap_13 : decode cL_nextGap 13 = .ok (.astore 4, 2) := by decide +kernel
theorem dL_nextGap_15 : decode cL_nextGap 15 = .ok (.iconst 1, 1) := by decide +kernel
theorem dL_nextGap_16 : decode cL_nextGap 16 = .ok (.ireturn, 1) := by decide +kernel
theorem dL_nextGap_17 : decode cL_nextGap 17 = .ok (.astore 4, 2) := by decide +kernel
theorem dL_nextGap_19 : decode cL_nextGap 19 = .ok (.iconst 2, 1) := by decide +kernel
theorem dL_nextGap_20 : decode cL_nextGap 20 = .ok (.ireturn, 1) := by decide +kernel
theorem dL_nextGap_21 : decode cL_nextGap 21 = .ok (.iconst 0, 1) := by decide +kernel
theorem dL_nextGap_22 : decode cL_nextGap 22 = .ok (.ireturn, 1) := by decide +kernel
theorem dL_book_0 : decode cL_book 0 = .ok (.aload 4, 2) := by decide +kernel
theorem dL_book_2 : decode cL_book 2 = .ok (.iconst 0, 1) := by decide +kernel
theorem dL_book_3 : decode cL_book 3 = .ok (.aload_n 0, 1) := by decide +kernel
theorem dL_book_4 : decode cL_book 4 = .ok (.iload_n 1, 1) := by decide +kernel
theorem dL_book_5 : decode cL_book 5 = .ok (.iload_n 2, 1) := by decide +kernel
theorem dL_book_6 : decode cL_book 6 = .ok (.iload_n 3, 1) := by decide +kernel
theorem dL_book_7 : decode cL_book 7 = .ok (.invokevirtual 62, 3) := by decide +kernel
theorem dL_book_10 : decode cL_book 10 = .ok (.i2l, 1) := by decide +kernel
theorem dL_book_11 : decode cL_book 11 = .ok (.lastore, 1) := by decide +kernel
theorem dL_book_12 : decode cL_book 12 = .ok (.goto 15, 3) := by decide +kernel
theorem dL_book_15 : decode cL_book 15 = .ok (.astore 5, 2) := by decide +kernel
theorem dL_book_17 : decode cL_book 17 = .ok (.iconst 1, 1) := by decide +kernel
theorem dL_book_18 : decode cL_book 18 = .ok (.ireturn, 1) := by decide +kernel
theorem dL_book_19 : decode cL_book 19 = .ok (.astore 5, 2) := by decide +kernel
theorem dL_book_21 : decode cL_book 21 = .ok (.iconst 2, 1) := by decide +kernel
theorem dL_book_22 : decode cL_book 22 = .ok (.ireturn, 1) := by decide +kernel
theorem dL_book_23 : decode cL_book 23 = .ok (.astore 5, 2) := by decide +kernel
theorem dL_book_25 : decode cL_book 25 = .ok (.iconst 3, 1) := by decide +kernel
theorem dL_book_26 : decode cL_book 26 = .ok (.ireturn, 1) := by decide +kernel
theorem dL_book_27 : decode cL_book 27 = .ok (.iconst 0, 1) := by decide +kernel
theorem dL_book_28 : decode cL_book 28 = .ok (.ireturn, 1) := by decide +kernel
theorem dL_bookingState_0 : decode cL_bookingState 0 = .ok (.aload_n 2, 1) := by decide +kernel
theorem dL_bookingState_1 : decode cL_bookingState 1 = .ok (.iconst 0, 1) := by decide +kernel
theorem dL_bookingState_2 : decode cL_bookingState 2 = .ok (.aload_n 0, 1) := by decide +kernel
theorem dL_bookingState_3 : decode cL_bookingState 3 = .ok (.iload_n 1, 1) := by decide +kernel
theorem dL_bookingState_4 : decode cL_bookingState 4 = .ok (.invokevirtual 65, 3) := by decide +kernel
theorem dL_bookingState_7 : decode cL_bookingState 7 = .ok (.i2l, 1) := by decide +kernel
theorem dL_bookingState_8 : decode cL_bookingState 8 = .ok (.lastore, 1) := by decide +kernel
theorem dL_bookingState_9 : decode cL_bookingState 9 = .ok (.goto 6, 3) := by decide +kernel
theorem dL_bookingState_12 : decode cL_bookingState 12 = .ok (.astore_n 3, 1) := by decide +kernel
theorem dL_bookingState_13 : decode cL_bookingState 13 = .ok (.iconst 1, 1) := by decide +kernel
theorem dL_bookingState_14 : decode cL_bookingState 14 = .ok (.ireturn, 1) := by decide +kernel
theorem dL_bookingState_15 : decode cL_bookingState 15 = .ok (.iconst 0, 1) := by decide +kernel
theorem dL_bookingState_16 : decode cL_bookingState 16 = .ok (.ireturn, 1) := by decide +kernel
theorem dL_bookingClass_0 : decode cL_bookingClass 0 = .ok (.aload_n 2, 1) := by decide +kernel
theorem dL_bookingClass_1 : decode cL_bookingClass 1 = .ok (.iconst 0, 1) := by decide +kernel
theorem dL_bookingClass_2 : decode cL_bookingClass 2 = .ok (.aload_n 0, 1) := by decide +kernel
theorem dL_bookingClass_3 : decode cL_bookingClass 3 = .ok (.iload_n 1, 1) := by decide +kernel
theorem dL_bookingClass_4 : decode cL_bookingClass 4 = .ok (.invokevirtual 68, 3) := by decide +kernel
theorem dL_bookingClass_7 : decode cL_bookingClass 7 = .ok (.i2l, 1) := by decide +kernel
theorem dL_bookingClass_8 : decode cL_bookingClass 8 = .ok (.lastore, 1) := by decide +kernel
theorem dL_bookingClass_9 : decode cL_bookingClass 9 = .ok (.goto 6, 3) := by decide +kernel
theorem dL_bookingClass_12 : decode cL_bookingClass 12 = .ok (.astore_n 3, 1) := by decide +kernel
theorem dL_bookingClass_13 : decode cL_bookingClass 13 = .ok (.iconst 1, 1) := by decide +kernel
theorem dL_bookingClass_14 : decode cL_bookingClass 14 = .ok (.ireturn, 1) := by decide +kernel
theorem dL_bookingClass_15 : decode cL_bookingClass 15 = .ok (.iconst 0, 1) := by decide +kernel
theorem dL_bookingClass_16 : decode cL_bookingClass 16 = .ok (.ireturn, 1) := by decide +kernel
theorem dL_arrival_0 : decode cL_arrival 0 = .ok (.aload_n 2, 1) := by decide +kernel
theorem dL_arrival_1 : decode cL_arrival 1 = .ok (.iconst 0, 1) := by decide +kernel
theorem dL_arrival_2 : decode cL_arrival 2 = .ok (.aload_n 0, 1) := by decide +kernel
theorem dL_arrival_3 : decode cL_arrival 3 = .ok (.iload_n 1, 1) := by decide +kernel
theorem dL_arrival_4 : decode cL_arrival 4 = .ok (.invokevirtual 71, 3) := by decide +kernel
theorem dL_arrival_7 : decode cL_arrival 7 = .ok (.i2l, 1) := by decide +kernel
theorem dL_arrival_8 : decode cL_arrival 8 = .ok (.lastore, 1) := by decide +kernel
theorem dL_arrival_9 : decode cL_arrival 9 = .ok (.goto 6, 3) := by decide +kernel
theorem dL_arrival_12 : decode cL_arrival 12 = .ok (.astore_n 3, 1) := by decide +kernel
theorem dL_arrival_13 : decode cL_arrival 13 = .ok (.iconst 1, 1) := by decide +kernel
theorem dL_arrival_14 : decode cL_arrival 14 = .ok (.ireturn, 1) := by decide +kernel
theorem dL_arrival_15 : decode cL_arrival 15 = .ok (.iconst 0, 1) := by decide +kernel
theorem dL_arrival_16 : decode cL_arrival 16 = .ok (.ireturn, 1) := by decide +kernel
theorem dL_departure_0 : decode cL_departure 0 = .ok (.aload_n 2, 1) := by decide +kernel
theorem dL_departure_1 : decode cL_departure 1 = .ok (.iconst 0, 1) := by decide +kernel
theorem dL_departure_2 : decode cL_departure 2 = .ok (.aload_n 0, 1) := by decide +kernel
theorem dL_departure_3 : decode cL_departure 3 = .ok (.iload_n 1, 1) := by decide +kernel
theorem dL_departure_4 : decode cL_departure 4 = .ok (.invokevirtual 74, 3) := by decide +kernel
theorem dL_departure_7 : decode cL_departure 7 = .ok (.i2l, 1) := by decide +kernel
theorem dL_departure_8 : decode cL_departure 8 = .ok (.lastore, 1) := by decide +kernel
theorem dL_departure_9 : decode cL_departure 9 = .ok (.goto 6, 3) := by decide +kernel
theorem dL_departure_12 : decode cL_departure 12 = .ok (.astore_n 3, 1) := by decide +kernel
theorem dL_departure_13 : decode cL_departure 13 = .ok (.iconst 1, 1) := by decide +kernel
theorem dL_departure_14 : decode cL_departure 14 = .ok (.ireturn, 1) := by decide +kernel
theorem dL_departure_15 : decode cL_departure 15 = .ok (.iconst 0, 1) := by decide +kernel
theorem dL_departure_16 : decode cL_departure 16 = .ok (.ireturn, 1) := by decide +kernel
theorem dL_cost_0 : decode cL_cost 0 = .ok (.aload_n 2, 1) := by decide +kernel
theorem dL_cost_1 : decode cL_cost 1 = .ok (.iconst 0, 1) := by decide +kernel
theorem dL_cost_2 : decode cL_cost 2 = .ok (.aload_n 0, 1) := by decide +kernel
theorem dL_cost_3 : decode cL_cost 3 = .ok (.iload_n 1, 1) := by decide +kernel
theorem dL_cost_4 : decode cL_cost 4 = .ok (.invokevirtual 77, 3) := by decide +kernel
theorem dL_cost_7 : decode cL_cost 7 = .ok (.i2l, 1) := by decide +kernel
theorem dL_cost_8 : decode cL_cost 8 = .ok (.lastore, 1) := by decide +kernel
theorem dL_cost_9 : decode cL_cost 9 = .ok (.goto 6, 3) := by decide +kernel
theorem dL_cost_12 : decode cL_cost 12 = .ok (.astore_n 3, 1) := by decide +kernel
theorem dL_cost_13 : decode cL_cost 13 = .ok (.iconst 1, 1) := by decide +kernel
theorem dL_cost_14 : decode cL_cost 14 = .ok (.ireturn, 1) := by decide +kernel
theorem dL_cost_15 : decode cL_cost 15 = .ok (.iconst 0, 1) := by decide +kernel
theorem dL_cost_16 : decode cL_cost 16 = .ok (.ireturn, 1) := by decide +kernel
theorem dL_siteOf_0 : decode cL_siteOf 0 = .ok (.aload_n 2, 1) := by decide +kernel
theorem dL_siteOf_1 : decode cL_siteOf 1 = .ok (.iconst 0, 1) := by decide +kernel
theorem dL_siteOf_2 : decode cL_siteOf 2 = .ok (.aload_n 0, 1) := by decide +kernel
theorem dL_siteOf_3 : decode cL_siteOf 3 = .ok (.iload_n 1, 1) := by decide +kernel
theorem dL_siteOf_4 : decode cL_siteOf 4 = .ok (.invokevirtual 80, 3) := by decide +kernel
theorem dL_siteOf_7 : decode cL_siteOf 7 = .ok (.i2l, 1) := by decide +kernel
theorem dL_siteOf_8 : decode cL_siteOf 8 = .ok (.lastore, 1) := by decide +kernel
theorem dL_siteOf_9 : decode cL_siteOf 9 = .ok (.goto 6, 3) := by decide +kernel
theorem dL_siteOf_12 : decode cL_siteOf 12 = .ok (.astore_n 3, 1) := by decide +kernel
theorem dL_siteOf_13 : decode cL_siteOf 13 = .ok (.iconst 1, 1) := by decide +kernel
theorem dL_siteOf_14 : decode cL_siteOf 14 = .ok (.ireturn, 1) := by decide +kernel
theorem dL_siteOf_15 : decode cL_siteOf 15 = .ok (.iconst 0, 1) := by decide +kernel
theorem dL_siteOf_16 : decode cL_siteOf 16 = .ok (.ireturn, 1) := by decide +kernel
theorem dL_cancel_0 : decode cL_cancel 0 = .ok (.aload_n 2, 1) := by decide +kernel
theorem dL_cancel_1 : decode cL_cancel 1 = .ok (.iconst 0, 1) := by decide +kernel
theorem dL_cancel_2 : decode cL_cancel 2 = .ok (.aload_n 0, 1) := by decide +kernel
theorem dL_cancel_3 : decode cL_cancel 3 = .ok (.iload_n 1, 1) := by decide +kernel
theorem dL_cancel_4 : decode cL_cancel 4 = .ok (.invokevirtual 83, 3) := by decide +kernel
theorem dL_cancel_7 : decode cL_cancel 7 = .ok (.i2l, 1) := by decide +kernel
theorem dL_cancel_8 : decode cL_cancel 8 = .ok (.lastore, 1) := by decide +kernel
theorem dL_cancel_9 : decode cL_cancel 9 = .ok (.goto 9, 3) := by decide +kernel
theorem dL_cancel_12 : decode cL_cancel 12 = .ok (.astore_n 3, 1) := by decide +kernel
theorem dL_cancel_13 : decode cL_cancel 13 = .ok (.iconst 1, 1) := by decide +kernel
theorem dL_cancel_14 : decode cL_cancel 14 = .ok (.ireturn, 1) := by decide +kernel
theorem dL_cancel_15 : decode cL_cancel 15 = .ok (.astore_n 3, 1) := by decide +kernel
theorem dL_cancel_16 : decode cL_cancel 16 = .ok (.iconst 2, 1) := by decide +kernel
theorem dL_cancel_17 : decode cL_cancel 17 = .ok (.ireturn, 1) := by decide +kernel
theorem dL_cancel_18 : decode cL_cancel 18 = .ok (.iconst 0, 1) := by decide +kernel
theorem dL_cancel_19 : decode cL_cancel 19 = .ok (.ireturn, 1) := by decide +kernel
theorem dL_vacantSite_0 : decode cL_vacantSite 0 = .ok (.aload_n 2, 1) := by decide +kernel
theorem dL_vacantSite_1 : decode cL_vacantSite 1 = .ok (.iconst 0, 1) := by decide +kernel
theorem dL_vacantSite_2 : decode cL_vacantSite 2 = .ok (.aload_n 0, 1) := by decide +kernel
theorem dL_vacantSite_3 : decode cL_vacantSite 3 = .ok (.iload_n 1, 1) := by decide +kernel
theorem dL_vacantSite_4 : decode cL_vacantSite 4 = .ok (.invokevirtual 86, 3) := by decide +kernel
theorem dL_vacantSite_7 : decode cL_vacantSite 7 = .ok (.i2l, 1) := by decide +kernel
theorem dL_vacantSite_8 : decode cL_vacantSite 8 = .ok (.lastore, 1) := by decide +kernel
theorem dL_vacantSite_9 : decode cL_vacantSite 9 = .ok (.goto 6, 3) := by decide +kernel
theorem dL_vacantSite_12 : decode cL_vacantSite 12 = .ok (.astore_n 3, 1) := by decide +kernel
theorem dL_vacantSite_13 : decode cL_vacantSite 13 = .ok (.iconst 1, 1) := by decide +kernel
theorem dL_vacantSite_14 : decode cL_vacantSite 14 = .ok (.ireturn, 1) := by decide +kernel
theorem dL_vacantSite_15 : decode cL_vacantSite 15 = .ok (.iconst 0, 1) := by decide +kernel
theorem dL_vacantSite_16 : decode cL_vacantSite 16 = .ok (.ireturn, 1) := by decide +kernel
theorem dL_checkIn_0 : decode cL_checkIn 0 = .ok (.aload_n 3, 1) := by decide +kernel
theorem dL_checkIn_1 : decode cL_checkIn 1 = .ok (.iconst 0, 1) := by decide +kernel
theorem dL_checkIn_2 : decode cL_checkIn 2 = .ok (.aload_n 0, 1) := by decide +kernel
theorem dL_checkIn_3 : decode cL_checkIn 3 = .ok (.iload_n 1, 1) := by decide +kernel
theorem dL_checkIn_4 : decode cL_checkIn 4 = .ok (.iload_n 2, 1) := by decide +kernel
theorem dL_checkIn_5 : decode cL_checkIn 5 = .ok (.invokevirtual 89, 3) := by decide +kernel
theorem dL_checkIn_8 : decode cL_checkIn 8 = .ok (.i2l, 1) := by decide +kernel
theorem dL_checkIn_9 : decode cL_checkIn 9 = .ok (.lastore, 1) := by decide +kernel
theorem dL_checkIn_10 : decode cL_checkIn 10 = .ok (.goto 15, 3) := by decide +kernel
theorem dL_checkIn_13 : decode cL_checkIn 13 = .ok (.astore 4, 2) := by decide +kernel
theorem dL_checkIn_15 : decode cL_checkIn 15 = .ok (.iconst 1, 1) := by decide +kernel
theorem dL_checkIn_16 : decode cL_checkIn 16 = .ok (.ireturn, 1) := by decide +kernel
theorem dL_checkIn_17 : decode cL_checkIn 17 = .ok (.astore 4, 2) := by decide +kernel
theorem dL_checkIn_19 : decode cL_checkIn 19 = .ok (.iconst 2, 1) := by decide +kernel
theorem dL_checkIn_20 : decode cL_checkIn 20 = .ok (.ireturn, 1) := by decide +kernel
theorem dL_checkIn_21 : decode cL_checkIn 21 = .ok (.astore 4, 2) := by decide +kernel
theorem dL_checkIn_23 : decode cL_checkIn 23 = .ok (.iconst 3, 1) := by decide +kernel
theorem dL_checkIn_24 : decode cL_checkIn 24 = .ok (.ireturn, 1) := by decide +kernel
theorem dL_checkIn_25 : decode cL_checkIn 25 = .ok (.iconst 0, 1) := by decide +kernel
theorem dL_checkIn_26 : decode cL_checkIn 26 = .ok (.ireturn, 1) := by decide +kernel
theorem dL_move_0 : decode cL_move 0 = .ok (.aload_n 3, 1) := by decide +kernel
theorem dL_move_1 : decode cL_move 1 = .ok (.iconst 0, 1) := by decide +kernel
theorem dL_move_2 : decode cL_move 2 = .ok (.aload_n 0, 1) := by decide +kernel
theorem dL_move_3 : decode cL_move 3 = .ok (.iload_n 1, 1) := by decide +kernel
theorem dL_move_4 : decode cL_move 4 = .ok (.iload_n 2, 1) := by decide +kernel
theorem dL_move_5 : decode cL_move 5 = .ok (.invokevirtual 92, 3) := by decide +kernel
theorem dL_move_8 : decode cL_move 8 = .ok (.i2l, 1) := by decide +kernel
theorem dL_move_9 : decode cL_move 9 = .ok (.lastore, 1) := by decide +kernel
theorem dL_move_10 : decode cL_move 10 = .ok (.goto 15, 3) := by decide +kernel
theorem dL_move_13 : decode cL_move 13 = .ok (.astore 4, 2) := by decide +kernel
theorem dL_move_15 : decode cL_move 15 = .ok (.iconst 1, 1) := by decide +kernel
theorem dL_move_16 : decode cL_move 16 = .ok (.ireturn, 1) := by decide +kernel
theorem dL_move_17 : decode cL_move 17 = .ok (.astore 4, 2) := by decide +kernel
theorem dL_move_19 : decode cL_move 19 = .ok (.iconst 2, 1) := by decide +kernel
theorem dL_move_20 : decode cL_move 20 = .ok (.ireturn, 1) := by decide +kernel
theorem dL_move_21 : decode cL_move 21 = .ok (.astore 4, 2) := by decide +kernel
theorem dL_move_23 : decode cL_move 23 = .ok (.iconst 3, 1) := by decide +kernel
theorem dL_move_24 : decode cL_move 24 = .ok (.ireturn, 1) := by decide +kernel
theorem dL_move_25 : decode cL_move 25 = .ok (.iconst 0, 1) := by decide +kernel
theorem dL_move_26 : decode cL_move 26 = .ok (.ireturn, 1) := by decide +kernel
theorem dL_departEarly_0 : decode cL_departEarly 0 = .ok (.aload_n 2, 1) := by decide +kernel
theorem dL_departEarly_1 : decode cL_departEarly 1 = .ok (.iconst 0, 1) := by decide +kernel
theorem dL_departEarly_2 : decode cL_departEarly 2 = .ok (.aload_n 0, 1) := by decide +kernel
theorem dL_departEarly_3 : decode cL_departEarly 3 = .ok (.iload_n 1, 1) := by decide +kernel
theorem dL_departEarly_4 : decode cL_departEarly 4 = .ok (.invokevirtual 95, 3) := by decide +kernel
theorem dL_departEarly_7 : decode cL_departEarly 7 = .ok (.i2l, 1) := by decide +kernel
theorem dL_departEarly_8 : decode cL_departEarly 8 = .ok (.lastore, 1) := by decide +kernel
theorem dL_departEarly_9 : decode cL_departEarly 9 = .ok (.goto 9, 3) := by decide +kernel
theorem dL_departEarly_12 : decode cL_departEarly 12 = .ok (.astore_n 3, 1) := by decide +kernel
theorem dL_departEarly_13 : decode cL_departEarly 13 = .ok (.iconst 1, 1) := by decide +kernel
theorem dL_departEarly_14 : decode cL_departEarly 14 = .ok (.ireturn, 1) := by decide +kernel
theorem dL_departEarly_15 : decode cL_departEarly 15 = .ok (.astore_n 3, 1) := by decide +kernel
theorem dL_departEarly_16 : decode cL_departEarly 16 = .ok (.iconst 2, 1) := by decide +kernel
theorem dL_departEarly_17 : decode cL_departEarly 17 = .ok (.ireturn, 1) := by decide +kernel
theorem dL_departEarly_18 : decode cL_departEarly 18 = .ok (.iconst 0, 1) := by decide +kernel
theorem dL_departEarly_19 : decode cL_departEarly 19 = .ok (.ireturn, 1) := by decide +kernel
theorem dL_extend_0 : decode cL_extend 0 = .ok (.aload_n 3, 1) := by decide +kernel
theorem dL_extend_1 : decode cL_extend 1 = .ok (.iconst 0, 1) := by decide +kernel
theorem dL_extend_2 : decode cL_extend 2 = .ok (.aload_n 0, 1) := by decide +kernel
theorem dL_extend_3 : decode cL_extend 3 = .ok (.iload_n 1, 1) := by decide +kernel
theorem dL_extend_4 : decode cL_extend 4 = .ok (.iload_n 2, 1) := by decide +kernel
theorem dL_extend_5 : decode cL_extend 5 = .ok (.invokevirtual 98, 3) := by decide +kernel
theorem dL_extend_8 : decode cL_extend 8 = .ok (.i2l, 1) := by decide +kernel
theorem dL_extend_9 : decode cL_extend 9 = .ok (.lastore, 1) := by decide +kernel
theorem dL_extend_10 : decode cL_extend 10 = .ok (.goto 15, 3) := by decide +kernel
theorem dL_extend_13 : decode cL_extend 13 = .ok (.astore 4, 2) := by decide +kernel
theorem dL_extend_15 : decode cL_extend 15 = .ok (.iconst 1, 1) := by decide +kernel
theorem dL_extend_16 : decode cL_extend 16 = .ok (.ireturn, 1) := by decide +kernel
theorem dL_extend_17 : decode cL_extend 17 = .ok (.astore 4, 2) := by decide +kernel
theorem dL_extend_19 : decode cL_extend 19 = .ok (.iconst 2, 1) := by decide +kernel
theorem dL_extend_20 : decode cL_extend 20 = .ok (.ireturn, 1) := by decide +kernel
theorem dL_extend_21 : decode cL_extend 21 = .ok (.astore 4, 2) := by decide +kernel
theorem dL_extend_23 : decode cL_extend 23 = .ok (.iconst 3, 1) := by decide +kernel
theorem dL_extend_24 : decode cL_extend 24 = .ok (.ireturn, 1) := by decide +kernel
theorem dL_extend_25 : decode cL_extend 25 = .ok (.iconst 0, 1) := by decide +kernel
theorem dL_extend_26 : decode cL_extend 26 = .ok (.ireturn, 1) := by decide +kernel
theorem dL_endDays_0 : decode cL_endDays 0 = .ok (.aload_n 2, 1) := by decide +kernel
theorem dL_endDays_1 : decode cL_endDays 1 = .ok (.iconst 0, 1) := by decide +kernel
theorem dL_endDays_2 : decode cL_endDays 2 = .ok (.aload_n 0, 1) := by decide +kernel
theorem dL_endDays_3 : decode cL_endDays 3 = .ok (.iload_n 1, 1) := by decide +kernel
theorem dL_endDays_4 : decode cL_endDays 4 = .ok (.invokevirtual 101, 3) := by decide +kernel
theorem dL_endDays_7 : decode cL_endDays 7 = .ok (.i2l, 1) := by decide +kernel
theorem dL_endDays_8 : decode cL_endDays 8 = .ok (.lastore, 1) := by decide +kernel
theorem dL_endDays_9 : decode cL_endDays 9 = .ok (.goto 9, 3) := by decide +kernel
theorem dL_endDays_12 : decode cL_endDays 12 = .ok (.astore_n 3, 1) := by decide +kernel
theorem dL_endDays_13 : decode cL_endDays 13 = .ok (.iconst 1, 1) := by decide +kernel
theorem dL_endDays_14 : decode cL_endDays 14 = .ok (.ireturn, 1) := by decide +kernel
theorem dL_endDays_15 : decode cL_endDays 15 = .ok (.astore_n 3, 1) := by decide +kernel
theorem dL_endDays_16 : decode cL_endDays 16 = .ok (.iconst 2, 1) := by decide +kernel
theorem dL_endDays_17 : decode cL_endDays 17 = .ok (.ireturn, 1) := by decide +kernel
theorem dL_endDays_18 : decode cL_endDays 18 = .ok (.iconst 0, 1) := by decide +kernel
theorem dL_endDays_19 : decode cL_endDays 19 = .ok (.ireturn, 1) := by decide +kernel
theorem dL_close_0 : decode cL_close 0 = .ok (.aload_n 0, 1) := by decide +kernel
theorem dL_close_1 : decode cL_close 1 = .ok (.iload_n 1, 1) := by decide +kernel
theorem dL_close_2 : decode cL_close 2 = .ok (.iload_n 2, 1) := by decide +kernel
theorem dL_close_3 : decode cL_close 3 = .ok (.invokevirtual 104, 3) := by decide +kernel
theorem dL_close_6 : decode cL_close 6 = .ok (.goto 12, 3) := by decide +kernel
theorem dL_close_9 : decode cL_close 9 = .ok (.astore_n 3, 1) := by decide +kernel
theorem dL_close_10 : decode cL_close 10 = .ok (.iconst 1, 1) := by decide +kernel
theorem dL_close_11 : decode cL_close 11 = .ok (.ireturn, 1) := by decide +kernel
theorem dL_close_12 : decode cL_close 12 = .ok (.astore_n 3, 1) := by decide +kernel
theorem dL_close_13 : decode cL_close 13 = .ok (.iconst 2, 1) := by decide +kernel
theorem dL_close_14 : decode cL_close 14 = .ok (.ireturn, 1) := by decide +kernel
theorem dL_close_15 : decode cL_close 15 = .ok (.astore_n 3, 1) := by decide +kernel
theorem dL_close_16 : decode cL_close 16 = .ok (.iconst 3, 1) := by decide +kernel
theorem dL_close_17 : decode cL_close 17 = .ok (.ireturn, 1) := by decide +kernel
theorem dL_close_18 : decode cL_close 18 = .ok (.iconst 0, 1) := by decide +kernel
theorem dL_close_19 : decode cL_close 19 = .ok (.ireturn, 1) := by decide +kernel
theorem dL_open_0 : decode cL_open 0 = .ok (.aload_n 2, 1) := by decide +kernel
theorem dL_open_1 : decode cL_open 1 = .ok (.iconst 0, 1) := by decide +kernel
theorem dL_open_2 : decode cL_open 2 = .ok (.aload_n 0, 1) := by decide +kernel
theorem dL_open_3 : decode cL_open 3 = .ok (.iload_n 1, 1) := by decide +kernel
theorem dL_open_4 : decode cL_open 4 = .ok (.invokevirtual 108, 3) := by decide +kernel
theorem dL_open_7 : decode cL_open 7 = .ok (.i2l, 1) := by decide +kernel
theorem dL_open_8 : decode cL_open 8 = .ok (.lastore, 1) := by decide +kernel
theorem dL_open_9 : decode cL_open 9 = .ok (.goto 9, 3) := by decide +kernel
theorem dL_open_12 : decode cL_open 12 = .ok (.astore_n 3, 1) := by decide +kernel
theorem dL_open_13 : decode cL_open 13 = .ok (.iconst 1, 1) := by decide +kernel
theorem dL_open_14 : decode cL_open 14 = .ok (.ireturn, 1) := by decide +kernel
theorem dL_open_15 : decode cL_open 15 = .ok (.astore_n 3, 1) := by decide +kernel
theorem dL_open_16 : decode cL_open 16 = .ok (.iconst 2, 1) := by decide +kernel
theorem dL_open_17 : decode cL_open 17 = .ok (.ireturn, 1) := by decide +kernel
theorem dL_open_18 : decode cL_open 18 = .ok (.iconst 0, 1) := by decide +kernel
theorem dL_open_19 : decode cL_open 19 = .ok (.ireturn, 1) := by decide +kernel
theorem dL_request_0 : decode cL_request 0 = .ok (.aload 4, 2) := by decide +kernel
theorem dL_request_2 : decode cL_request 2 = .ok (.iconst 0, 1) := by decide +kernel
theorem dL_request_3 : decode cL_request 3 = .ok (.aload_n 0, 1) := by decide +kernel
theorem dL_request_4 : decode cL_request 4 = .ok (.iload_n 1, 1) := by decide +kernel
theorem dL_request_5 : decode cL_request 5 = .ok (.iload_n 2, 1) := by decide +kernel
theorem dL_request_6 : decode cL_request 6 = .ok (.iload_n 3, 1) := by decide +kernel
theorem dL_request_7 : decode cL_request 7 = .ok (.invokevirtual 111, 3) := by decide +kernel
theorem dL_request_10 : decode cL_request 10 = .ok (.i2l, 1) := by decide +kernel
theorem dL_request_11 : decode cL_request 11 = .ok (.lastore, 1) := by decide +kernel
theorem dL_request_12 : decode cL_request 12 = .ok (.goto 15, 3) := by decide +kernel
theorem dL_request_15 : decode cL_request 15 = .ok (.astore 5, 2) := by decide +kernel
theorem dL_request_17 : decode cL_request 17 = .ok (.iconst 1, 1) := by decide +kernel
theorem dL_request_18 : decode cL_request 18 = .ok (.ireturn, 1) := by decide +kernel
theorem dL_request_19 : decode cL_request 19 = .ok (.astore 5, 2) := by decide +kernel
theorem dL_request_21 : decode cL_request 21 = .ok (.iconst 2, 1) := by decide +kernel
theorem dL_request_22 : decode cL_request 22 = .ok (.ireturn, 1) := by decide +kernel
theorem dL_request_23 : decode cL_request 23 = .ok (.astore 5, 2) := by decide +kernel
theorem dL_request_25 : decode cL_request 25 = .ok (.iconst 3, 1) := by decide +kernel
theorem dL_request_26 : decode cL_request 26 = .ok (.ireturn, 1) := by decide +kernel
theorem dL_request_27 : decode cL_request 27 = .ok (.iconst 0, 1) := by decide +kernel
theorem dL_request_28 : decode cL_request 28 = .ok (.ireturn, 1) := by decide +kernel
theorem dL_requestState_0 : decode cL_requestState 0 = .ok (.aload_n 2, 1) := by decide +kernel
theorem dL_requestState_1 : decode cL_requestState 1 = .ok (.iconst 0, 1) := by decide +kernel
theorem dL_requestState_2 : decode cL_requestState 2 = .ok (.aload_n 0, 1) := by decide +kernel
theorem dL_requestState_3 : decode cL_requestState 3 = .ok (.iload_n 1, 1) := by decide +kernel
theorem dL_requestState_4 : decode cL_requestState 4 = .ok (.invokevirtual 114, 3) := by decide +kernel
theorem dL_requestState_7 : decode cL_requestState 7 = .ok (.i2l, 1) := by decide +kernel
theorem dL_requestState_8 : decode cL_requestState 8 = .ok (.lastore, 1) := by decide +kernel
theorem dL_requestState_9 : decode cL_requestState 9 = .ok (.goto 6, 3) := by decide +kernel
theorem dL_requestState_12 : decode cL_requestState 12 = .ok (.astore_n 3, 1) := by decide +kernel
theorem dL_requestState_13 : decode cL_requestState 13 = .ok (.iconst 1, 1) := by decide +kernel
theorem dL_requestState_14 : decode cL_requestState 14 = .ok (.ireturn, 1) := by decide +kernel
theorem dL_requestState_15 : decode cL_requestState 15 = .ok (.iconst 0, 1) := by decide +kernel
theorem dL_requestState_16 : decode cL_requestState 16 = .ok (.ireturn, 1) := by decide +kernel
theorem dL_bookingOf_0 : decode cL_bookingOf 0 = .ok (.aload_n 2, 1) := by decide +kernel
theorem dL_bookingOf_1 : decode cL_bookingOf 1 = .ok (.iconst 0, 1) := by decide +kernel
theorem dL_bookingOf_2 : decode cL_bookingOf 2 = .ok (.aload_n 0, 1) := by decide +kernel
theorem dL_bookingOf_3 : decode cL_bookingOf 3 = .ok (.iload_n 1, 1) := by decide +kernel
theorem dL_bookingOf_4 : decode cL_bookingOf 4 = .ok (.invokevirtual 117, 3) := by decide +kernel
theorem dL_bookingOf_7 : decode cL_bookingOf 7 = .ok (.i2l, 1) := by decide +kernel
theorem dL_bookingOf_8 : decode cL_bookingOf 8 = .ok (.lastore, 1) := by decide +kernel
theorem dL_bookingOf_9 : decode cL_bookingOf 9 = .ok (.goto 6, 3) := by decide +kernel
theorem dL_bookingOf_12 : decode cL_bookingOf 12 = .ok (.astore_n 3, 1) := by decide +kernel
theorem dL_bookingOf_13 : decode cL_bookingOf 13 = .ok (.iconst 1, 1) := by decide +kernel
theorem dL_bookingOf_14 : decode cL_bookingOf 14 = .ok (.ireturn, 1) := by decide +kernel
theorem dL_bookingOf_15 : decode cL_bookingOf 15 = .ok (.iconst 0, 1) := by decide +kernel
theorem dL_bookingOf_16 : decode cL_bookingOf 16 = .ok (.ireturn, 1) := by decide +kernel
theorem dL_withdraw_0 : decode cL_withdraw 0 = .ok (.aload_n 0, 1) := by decide +kernel
theorem dL_withdraw_1 : decode cL_withdraw 1 = .ok (.iload_n 1, 1) := by decide +kernel
theorem dL_withdraw_2 : decode cL_withdraw 2 = .ok (.invokevirtual 120, 3) := by decide +kernel
theorem dL_withdraw_5 : decode cL_withdraw 5 = .ok (.goto 9, 3) := by decide +kernel
theorem dL_withdraw_8 : decode cL_withdraw 8 = .ok (.astore_n 2, 1) := by decide +kernel
theorem dL_withdraw_9 : decode cL_withdraw 9 = .ok (.iconst 1, 1) := by decide +kernel
theorem dL_withdraw_10 : decode cL_withdraw 10 = .ok (.ireturn, 1) := by decide +kernel
theorem dL_withdraw_11 : decode cL_withdraw 11 = .ok (.astore_n 2, 1) := by decide +kernel
theorem dL_withdraw_12 : decode cL_withdraw 12 = .ok (.iconst 2, 1) := by decide +kernel
theorem dL_withdraw_13 : decode cL_withdraw 13 = .ok (.ireturn, 1) := by decide +kernel
theorem dL_withdraw_14 : decode cL_withdraw 14 = .ok (.iconst 0, 1) := by decide +kernel
theorem dL_withdraw_15 : decode cL_withdraw 15 = .ok (.ireturn, 1) := by decide +kernel
theorem dL_fill_0 : decode cL_fill 0 = .ok (.aload_n 2, 1) := by decide +kernel
theorem dL_fill_1 : decode cL_fill 1 = .ok (.iconst 0, 1) := by decide +kernel
theorem dL_fill_2 : decode cL_fill 2 = .ok (.aload_n 0, 1) := by decide +kernel
theorem dL_fill_3 : decode cL_fill 3 = .ok (.iload_n 1, 1) := by decide +kernel
theorem dL_fill_4 : decode cL_fill 4 = .ok (.invokevirtual 124, 3) := by decide +kernel
theorem dL_fill_7 : decode cL_fill 7 = .ok (.i2l, 1) := by decide +kernel
theorem dL_fill_8 : decode cL_fill 8 = .ok (.lastore, 1) := by decide +kernel
theorem dL_fill_9 : decode cL_fill 9 = .ok (.goto 6, 3) := by decide +kernel
theorem dL_fill_12 : decode cL_fill 12 = .ok (.astore_n 3, 1) := by decide +kernel
theorem dL_fill_13 : decode cL_fill 13 = .ok (.iconst 1, 1) := by decide +kernel
theorem dL_fill_14 : decode cL_fill 14 = .ok (.ireturn, 1) := by decide +kernel
theorem dL_fill_15 : decode cL_fill 15 = .ok (.iconst 0, 1) := by decide +kernel
theorem dL_fill_16 : decode cL_fill 16 = .ok (.ireturn, 1) := by decide +kernel
theorem dL_planSite_0 : decode cL_planSite 0 = .ok (.aload_n 3, 1) := by decide +kernel
theorem dL_planSite_1 : decode cL_planSite 1 = .ok (.iconst 0, 1) := by decide +kernel
theorem dL_planSite_2 : decode cL_planSite 2 = .ok (.aload_n 0, 1) := by decide +kernel
theorem dL_planSite_3 : decode cL_planSite 3 = .ok (.iload_n 1, 1) := by decide +kernel
theorem dL_planSite_4 : decode cL_planSite 4 = .ok (.iload_n 2, 1) := by decide +kernel
theorem dL_planSite_5 : decode cL_planSite 5 = .ok (.invokevirtual 127, 3) := by decide +kernel
theorem dL_planSite_8 : decode cL_planSite 8 = .ok (.i2l, 1) := by decide +kernel
theorem dL_planSite_9 : decode cL_planSite 9 = .ok (.lastore, 1) := by decide +kernel
theorem dL_planSite_10 : decode cL_planSite 10 = .ok (.goto 15, 3) := by decide +kernel
theorem dL_planSite_13 : decode cL_planSite 13 = .ok (.astore 4, 2) := by decide +kernel
theorem dL_planSite_15 : decode cL_planSite 15 = .ok (.iconst 1, 1) := by decide +kernel
theorem dL_planSite_16 : decode cL_planSite 16 = .ok (.ireturn, 1) := by decide +kernel
theorem dL_planSite_17 : decode cL_planSite 17 = .ok (.astore 4, 2) := by decide +kernel
theorem dL_planSite_19 : decode cL_planSite 19 = .ok (.iconst 2, 1) := by decide +kernel
theorem dL_planSite_20 : decode cL_planSite 20 = .ok (.ireturn, 1) := by decide +kernel
theorem dL_planSite_21 : decode cL_planSite 21 = .ok (.astore 4, 2) := by decide +kernel
theorem dL_planSite_23 : decode cL_planSite 23 = .ok (.iconst 3, 1) := by decide +kernel
theorem dL_planSite_24 : decode cL_planSite 24 = .ok (.ireturn, 1) := by decide +kernel
theorem dL_planSite_25 : decode cL_planSite 25 = .ok (.iconst 0, 1) := by decide +kernel
theorem dL_planSite_26 : decode cL_planSite 26 = .ok (.ireturn, 1) := by decide +kernel
theorem dL_gapNights_0 : decode cL_gapNights 0 = .ok (.aload_n 3, 1) := by decide +kernel
theorem dL_gapNights_1 : decode cL_gapNights 1 = .ok (.iconst 0, 1) := by decide +kernel
theorem dL_gapNights_2 : decode cL_gapNights 2 = .ok (.aload_n 0, 1) := by decide +kernel
theorem dL_gapNights_3 : decode cL_gapNights 3 = .ok (.iload_n 1, 1) := by decide +kernel
theorem dL_gapNights_4 : decode cL_gapNights 4 = .ok (.iload_n 2, 1) := by decide +kernel
theorem dL_gapNights_5 : decode cL_gapNights 5 = .ok (.invokevirtual 130, 3) := by decide +kernel
theorem dL_gapNights_8 : decode cL_gapNights 8 = .ok (.i2l, 1) := by decide +kernel
theorem dL_gapNights_9 : decode cL_gapNights 9 = .ok (.lastore, 1) := by decide +kernel
theorem dL_gapNights_10 : decode cL_gapNights 10 = .ok (.goto 11, 3) := by decide +kernel
theorem dL_gapNights_13 : decode cL_gapNights 13 = .ok (.astore 4, 2) := by decide +kernel
theorem dL_gapNights_15 : decode cL_gapNights 15 = .ok (.iconst 1, 1) := by decide +kernel
theorem dL_gapNights_16 : decode cL_gapNights 16 = .ok (.ireturn, 1) := by decide +kernel
theorem dL_gapNights_17 : decode cL_gapNights 17 = .ok (.astore 4, 2) := by decide +kernel
theorem dL_gapNights_19 : decode cL_gapNights 19 = .ok (.iconst 2, 1) := by decide +kernel
theorem dL_gapNights_20 : decode cL_gapNights 20 = .ok (.ireturn, 1) := by decide +kernel
theorem dL_gapNights_21 : decode cL_gapNights 21 = .ok (.iconst 0, 1) := by decide +kernel
theorem dL_gapNights_22 : decode cL_gapNights 22 = .ok (.ireturn, 1) := by decide +kernel
theorem dL_orphanNights_0 : decode cL_orphanNights 0 = .ok (.aload_n 3, 1) := by decide +kernel
theorem dL_orphanNights_1 : decode cL_orphanNights 1 = .ok (.iconst 0, 1) := by decide +kernel
theorem dL_orphanNights_2 : decode cL_orphanNights 2 = .ok (.aload_n 0, 1) := by decide +kernel
theorem dL_orphanNights_3 : decode cL_orphanNights 3 = .ok (.iload_n 1, 1) := by decide +kernel
theorem dL_orphanNights_4 : decode cL_orphanNights 4 = .ok (.iload_n 2, 1) := by decide +kernel
theorem dL_orphanNights_5 : decode cL_orphanNights 5 = .ok (.invokevirtual 133, 3) := by decide +kernel
theorem dL_orphanNights_8 : decode cL_orphanNights 8 = .ok (.i2l, 1) := by decide +kernel
theorem dL_orphanNights_9 : decode cL_orphanNights 9 = .ok (.lastore, 1) := by decide +kernel
theorem dL_orphanNights_10 : decode cL_orphanNights 10 = .ok (.goto 11, 3) := by decide +kernel
theorem dL_orphanNights_13 : decode cL_orphanNights 13 = .ok (.astore 4, 2) := by decide +kernel
theorem dL_orphanNights_15 : decode cL_orphanNights 15 = .ok (.iconst 1, 1) := by decide +kernel
theorem dL_orphanNights_16 : decode cL_orphanNights 16 = .ok (.ireturn, 1) := by decide +kernel
theorem dL_orphanNights_17 : decode cL_orphanNights 17 = .ok (.astore 4, 2) := by decide +kernel
theorem dL_orphanNights_19 : decode cL_orphanNights 19 = .ok (.iconst 2, 1) := by decide +kernel
theorem dL_orphanNights_20 : decode cL_orphanNights 20 = .ok (.ireturn, 1) := by decide +kernel
theorem dL_orphanNights_21 : decode cL_orphanNights 21 = .ok (.iconst 0, 1) := by decide +kernel
theorem dL_orphanNights_22 : decode cL_orphanNights 22 = .ok (.ireturn, 1) := by decide +kernel
theorem dL_occupancyNumerator_0 : decode cL_occupancyNumerator 0 = .ok (.aload 4, 2) := by decide +kernel
theorem dL_occupancyNumerator_2 : decode cL_occupancyNumerator 2 = .ok (.iconst 0, 1) := by decide +kernel
theorem dL_occupancyNumerator_3 : decode cL_occupancyNumerator 3 = .ok (.aload_n 0, 1) := by decide +kernel
theorem dL_occupancyNumerator_4 : decode cL_occupancyNumerator 4 = .ok (.iload_n 1, 1) := by decide +kernel
theorem dL_occupancyNumerator_5 : decode cL_occupancyNumerator 5 = .ok (.iload_n 2, 1) := by decide +kernel
theorem dL_occupancyNumerator_6 : decode cL_occupancyNumerator 6 = .ok (.iload_n 3, 1) := by decide +kernel
theorem dL_occupancyNumerator_7 : decode cL_occupancyNumerator 7 = .ok (.invokevirtual 136, 3) := by decide +kernel
theorem dL_occupancyNumerator_10 : decode cL_occupancyNumerator 10 = .ok (.i2l, 1) := by decide +kernel
theorem dL_occupancyNumerator_11 : decode cL_occupancyNumerator 11 = .ok (.lastore, 1) := by decide +kernel
theorem dL_occupancyNumerator_12 : decode cL_occupancyNumerator 12 = .ok (.goto 11, 3) := by decide +kernel
theorem dL_occupancyNumerator_15 : decode cL_occupancyNumerator 15 = .ok (.astore 5, 2) := by decide +kernel
theorem dL_occupancyNumerator_17 : decode cL_occupancyNumerator 17 = .ok (.iconst 1, 1) := by decide +kernel
theorem dL_occupancyNumerator_18 : decode cL_occupancyNumerator 18 = .ok (.ireturn, 1) := by decide +kernel
theorem dL_occupancyNumerator_19 : decode cL_occupancyNumerator 19 = .ok (.astore 5, 2) := by decide +kernel
theorem dL_occupancyNumerator_21 : decode cL_occupancyNumerator 21 = .ok (.iconst 2, 1) := by decide +kernel
theorem dL_occupancyNumerator_22 : decode cL_occupancyNumerator 22 = .ok (.ireturn, 1) := by decide +kernel
theorem dL_occupancyNumerator_23 : decode cL_occupancyNumerator 23 = .ok (.iconst 0, 1) := by decide +kernel
theorem dL_occupancyNumerator_24 : decode cL_occupancyNumerator 24 = .ok (.ireturn, 1) := by decide +kernel
theorem dL_occupancyDenominator_0 : decode cL_occupancyDenominator 0 = .ok (.aload 4, 2) := by decide +kernel
theorem dL_occupancyDenominator_2 : decode cL_occupancyDenominator 2 = .ok (.iconst 0, 1) := by decide +kernel
theorem dL_occupancyDenominator_3 : decode cL_occupancyDenominator 3 = .ok (.aload_n 0, 1) := by decide +kernel
theorem dL_occupancyDenominator_4 : decode cL_occupancyDenominator 4 = .ok (.iload_n 1, 1) := by decide +kernel
theorem dL_occupancyDenominator_5 : decode cL_occupancyDenominator 5 = .ok (.iload_n 2, 1) := by decide +kernel
theorem dL_occupancyDenominator_6 : decode cL_occupancyDenominator 6 = .ok (.iload_n 3, 1) := by decide +kernel
theorem dL_occupancyDenominator_7 : decode cL_occupancyDenominator 7 = .ok (.invokevirtual 139, 3) := by decide +kernel
theorem dL_occupancyDenominator_10 : decode cL_occupancyDenominator 10 = .ok (.i2l, 1) := by decide +kernel
theorem dL_occupancyDenominator_11 : decode cL_occupancyDenominator 11 = .ok (.lastore, 1) := by decide +kernel
theorem dL_occupancyDenominator_12 : decode cL_occupancyDenominator 12 = .ok (.goto 11, 3) := by decide +kernel
theorem dL_occupancyDenominator_15 : decode cL_occupancyDenominator 15 = .ok (.astore 5, 2) := by decide +kernel
theorem dL_occupancyDenominator_17 : decode cL_occupancyDenominator 17 = .ok (.iconst 1, 1) := by decide +kernel
theorem dL_occupancyDenominator_18 : decode cL_occupancyDenominator 18 = .ok (.ireturn, 1) := by decide +kernel
theorem dL_occupancyDenominator_19 : decode cL_occupancyDenominator 19 = .ok (.astore 5, 2) := by decide +kernel
theorem dL_occupancyDenominator_21 : decode cL_occupancyDenominator 21 = .ok (.iconst 2, 1) := by decide +kernel
theorem dL_occupancyDenominator_22 : decode cL_occupancyDenominator 22 = .ok (.ireturn, 1) := by decide +kernel
theorem dL_occupancyDenominator_23 : decode cL_occupancyDenominator 23 = .ok (.iconst 0, 1) := by decide +kernel
theorem dL_occupancyDenominator_24 : decode cL_occupancyDenominator 24 = .ok (.ireturn, 1) := by decide +kernel
theorem dL_expected_0 : decode cL_expected 0 = .ok (.aload 4, 2) := by decide +kernel
theorem dL_expected_2 : decode cL_expected 2 = .ok (.iconst 0, 1) := by decide +kernel
theorem dL_expected_3 : decode cL_expected 3 = .ok (.aload_n 0, 1) := by decide +kernel
theorem dL_expected_4 : decode cL_expected 4 = .ok (.iload_n 1, 1) := by decide +kernel
theorem dL_expected_5 : decode cL_expected 5 = .ok (.iload_n 2, 1) := by decide +kernel
theorem dL_expected_6 : decode cL_expected 6 = .ok (.iload_n 3, 1) := by decide +kernel
theorem dL_expected_7 : decode cL_expected 7 = .ok (.invokevirtual 142, 3) := by decide +kernel
theorem dL_expected_10 : decode cL_expected 10 = .ok (.i2l, 1) := by decide +kernel
theorem dL_expected_11 : decode cL_expected 11 = .ok (.lastore, 1) := by decide +kernel
theorem dL_expected_12 : decode cL_expected 12 = .ok (.goto 11, 3) := by decide +kernel
theorem dL_expected_15 : decode cL_expected 15 = .ok (.astore 5, 2) := by decide +kernel
theorem dL_expected_17 : decode cL_expected 17 = .ok (.iconst 1, 1) := by decide +kernel
theorem dL_expected_18 : decode cL_expected 18 = .ok (.ireturn, 1) := by decide +kernel
theorem dL_expected_19 : decode cL_expected 19 = .ok (.astore 5, 2) := by decide +kernel
theorem dL_expected_21 : decode cL_expected 21 = .ok (.iconst 2, 1) := by decide +kernel
theorem dL_expected_22 : decode cL_expected 22 = .ok (.ireturn, 1) := by decide +kernel
theorem dL_expected_23 : decode cL_expected 23 = .ok (.iconst 0, 1) := by decide +kernel
theorem dL_expected_24 : decode cL_expected 24 = .ok (.ireturn, 1) := by decide +kernel
theorem dL_dearestBooking_0 : decode cL_dearestBooking 0 = .ok (.aload_n 2, 1) := by decide +kernel
theorem dL_dearestBooking_1 : decode cL_dearestBooking 1 = .ok (.iconst 0, 1) := by decide +kernel
theorem dL_dearestBooking_2 : decode cL_dearestBooking 2 = .ok (.aload_n 0, 1) := by decide +kernel
theorem dL_dearestBooking_3 : decode cL_dearestBooking 3 = .ok (.iload_n 1, 1) := by decide +kernel
theorem dL_dearestBooking_4 : decode cL_dearestBooking 4 = .ok (.invokevirtual 146, 3) := by decide +kernel
theorem dL_dearestBooking_7 : decode cL_dearestBooking 7 = .ok (.i2l, 1) := by decide +kernel
theorem dL_dearestBooking_8 : decode cL_dearestBooking 8 = .ok (.lastore, 1) := by decide +kernel
theorem dL_dearestBooking_9 : decode cL_dearestBooking 9 = .ok (.goto 6, 3) := by decide +kernel
theorem dL_dearestBooking_12 : decode cL_dearestBooking 12 = .ok (.astore_n 3, 1) := by decide +kernel
theorem dL_dearestBooking_13 : decode cL_dearestBooking 13 = .ok (.iconst 1, 1) := by decide +kernel
theorem dL_dearestBooking_14 : decode cL_dearestBooking 14 = .ok (.ireturn, 1) := by decide +kernel
theorem dL_dearestBooking_15 : decode cL_dearestBooking 15 = .ok (.iconst 0, 1) := by decide +kernel
theorem dL_dearestBooking_16 : decode cL_dearestBooking 16 = .ok (.ireturn, 1) := by decide +kernel
theorem dL_busiestNight_0 : decode cL_busiestNight 0 = .ok (.aload 4, 2) := by decide +kernel
theorem dL_busiestNight_2 : decode cL_busiestNight 2 = .ok (.iconst 0, 1) := by decide +kernel
theorem dL_busiestNight_3 : decode cL_busiestNight 3 = .ok (.aload_n 0, 1) := by decide +kernel
theorem dL_busiestNight_4 : decode cL_busiestNight 4 = .ok (.iload_n 1, 1) := by decide +kernel
theorem dL_busiestNight_5 : decode cL_busiestNight 5 = .ok (.iload_n 2, 1) := by decide +kernel
theorem dL_busiestNight_6 : decode cL_busiestNight 6 = .ok (.iload_n 3, 1) := by decide +kernel
theorem dL_busiestNight_7 : decode cL_busiestNight 7 = .ok (.invokevirtual 149, 3) := by decide +kernel
theorem dL_busiestNight_10 : decode cL_busiestNight 10 = .ok (.i2l, 1) := by decide +kernel
theorem dL_busiestNight_11 : decode cL_busiestNight 11 = .ok (.lastore, 1) := by decide +kernel
theorem dL_busiestNight_12 : decode cL_busiestNight 12 = .ok (.goto 11, 3) := by decide +kernel
theorem dL_busiestNight_15 : decode cL_busiestNight 15 = .ok (.astore 5, 2) := by decide +kernel
theorem dL_busiestNight_17 : decode cL_busiestNight 17 = .ok (.iconst 1, 1) := by decide +kernel
theorem dL_busiestNight_18 : decode cL_busiestNight 18 = .ok (.ireturn, 1) := by decide +kernel
theorem dL_busiestNight_19 : decode cL_busiestNight 19 = .ok (.astore 5, 2) := by decide +kernel
theorem dL_busiestNight_21 : decode cL_busiestNight 21 = .ok (.iconst 2, 1) := by decide +kernel
theorem dL_busiestNight_22 : decode cL_busiestNight 22 = .ok (.ireturn, 1) := by decide +kernel
theorem dL_busiestNight_23 : decode cL_busiestNight 23 = .ok (.iconst 0, 1) := by decide +kernel
theorem dL_busiestNight_24 : decode cL_busiestNight 24 = .ok (.ireturn, 1) := by decide +kernel
theorem dL_appendText_0 : decode cL_appendText 0 = .ok (.aload_n 2, 1) := by decide +kernel
theorem dL_appendText_1 : decode cL_appendText 1 = .ok (.iconst 0, 1) := by decide +kernel
theorem dL_appendText_2 : decode cL_appendText 2 = .ok (.aload_n 0, 1) := by decide +kernel
theorem dL_appendText_3 : decode cL_appendText 3 = .ok (.iload_n 1, 1) := by decide +kernel
theorem dL_appendText_4 : decode cL_appendText 4 = .ok (.invokevirtual 152, 3) := by decide +kernel
theorem dL_appendText_7 : decode cL_appendText 7 = .ok (.i2l, 1) := by decide +kernel
theorem dL_appendText_8 : decode cL_appendText 8 = .ok (.lastore, 1) := by decide +kernel
theorem dL_appendText_9 : decode cL_appendText 9 = .ok (.goto 6, 3) := by decide +kernel
theorem dL_appendText_12 : decode cL_appendText 12 = .ok (.astore_n 3, 1) := by decide +kernel
theorem dL_appendText_13 : decode cL_appendText 13 = .ok (.iconst 1, 1) := by decide +kernel
theorem dL_appendText_14 : decode cL_appendText 14 = .ok (.ireturn, 1) := by decide +kernel
theorem dL_appendText_15 : decode cL_appendText 15 = .ok (.iconst 0, 1) := by decide +kernel
theorem dL_appendText_16 : decode cL_appendText 16 = .ok (.ireturn, 1) := by decide +kernel
theorem dL_truncateText_0 : decode cL_truncateText 0 = .ok (.aload_n 2, 1) := by decide +kernel
theorem dL_truncateText_1 : decode cL_truncateText 1 = .ok (.iconst 0, 1) := by decide +kernel
theorem dL_truncateText_2 : decode cL_truncateText 2 = .ok (.aload_n 0, 1) := by decide +kernel
theorem dL_truncateText_3 : decode cL_truncateText 3 = .ok (.iload_n 1, 1) := by decide +kernel
theorem dL_truncateText_4 : decode cL_truncateText 4 = .ok (.invokevirtual 155, 3) := by decide +kernel
theorem dL_truncateText_7 : decode cL_truncateText 7 = .ok (.i2l, 1) := by decide +kernel
theorem dL_truncateText_8 : decode cL_truncateText 8 = .ok (.lastore, 1) := by decide +kernel
theorem dL_truncateText_9 : decode cL_truncateText 9 = .ok (.goto 6, 3) := by decide +kernel
theorem dL_truncateText_12 : decode cL_truncateText 12 = .ok (.astore_n 3, 1) := by decide +kernel
theorem dL_truncateText_13 : decode cL_truncateText 13 = .ok (.iconst 1, 1) := by decide +kernel
theorem dL_truncateText_14 : decode cL_truncateText 14 = .ok (.ireturn, 1) := by decide +kernel
theorem dL_truncateText_15 : decode cL_truncateText 15 = .ok (.iconst 0, 1) := by decide +kernel
theorem dL_truncateText_16 : decode cL_truncateText 16 = .ok (.ireturn, 1) := by decide +kernel
theorem dL_save_0 : decode cL_save 0 = .ok (.aload_n 0, 1) := by decide +kernel
theorem dL_save_1 : decode cL_save 1 = .ok (.iload_n 1, 1) := by decide +kernel
theorem dL_save_2 : decode cL_save 2 = .ok (.invokevirtual 158, 3) := by decide +kernel
theorem dL_save_5 : decode cL_save 5 = .ok (.goto 6, 3) := by decide +kernel
theorem dL_save_8 : decode cL_save 8 = .ok (.astore_n 2, 1) := by decide +kernel
theorem dL_save_9 : decode cL_save 9 = .ok (.iconst 1, 1) := by decide +kernel
theorem dL_save_10 : decode cL_save 10 = .ok (.ireturn, 1) := by decide +kernel
theorem dL_save_11 : decode cL_save 11 = .ok (.iconst 0, 1) := by decide +kernel
theorem dL_save_12 : decode cL_save 12 = .ok (.ireturn, 1) := by decide +kernel
theorem dL_restore_0 : decode cL_restore 0 = .ok (.aload_n 0, 1) := by decide +kernel
theorem dL_restore_1 : decode cL_restore 1 = .ok (.iload_n 1, 1) := by decide +kernel
theorem dL_restore_2 : decode cL_restore 2 = .ok (.invokevirtual 161, 3) := by decide +kernel
theorem dL_restore_5 : decode cL_restore 5 = .ok (.goto 9, 3) := by decide +kernel
theorem dL_restore_8 : decode cL_restore 8 = .ok (.astore_n 2, 1) := by decide +kernel
theorem dL_restore_9 : decode cL_restore 9 = .ok (.iconst 1, 1) := by decide +kernel
theorem dL_restore_10 : decode cL_restore 10 = .ok (.ireturn, 1) := by decide +kernel
theorem dL_restore_11 : decode cL_restore 11 = .ok (.astore_n 2, 1) := by decide +kernel
theorem dL_restore_12 : decode cL_restore 12 = .ok (.iconst 2, 1) := by decide +kernel
theorem dL_restore_13 : decode cL_restore 13 = .ok (.ireturn, 1) := by decide +kernel
theorem dL_restore_14 : decode cL_restore 14 = .ok (.iconst 0, 1) := by decide +kernel
theorem dL_restore_15 : decode cL_restore 15 = .ok (.ireturn, 1) := by decide +kernel
