theorem dX0_init_0 : decode cX0_init 0 = .ok (.aload_n 0, 1) := by decide +kernel
theorem dX0_init_1 : decode cX0_init 1 = .ok (.invokespecial 3, 3) := by decide +kernel
theorem dX0_init_4 : decode cX0_init 4 = .ok (.aload_n 0, 1) := by decide +kernel
theorem dX0_init_5 : decode cX0_init 5 = .ok (.bipush 20, 2) := by decide +kernel
theorem dX0_init_7 : decode cX0_init 7 = .ok (.newarray .int, 2) := by decide +kernel
theorem dX0_init_9 : decode cX0_init 9 = .ok (.putfield 9, 3) := by decide +kernel
theorem dX0_init_12 : decode cX0_init 12 = .ok (.aload_n 0, 1) := by decide +kernel
theorem dX0_init_13 : decode cX0_init 13 = .ok (.bipush 20, 2) := by decide +kernel
theorem dX0_init_15 : decode cX0_init 15 = .ok (.newarray .int, 2) := by decide +kernel
theorem dX0_init_17 : decode cX0_init 17 = .ok (.putfield 15, 3) := by decide +kernel
theorem dX0_init_20 : decode cX0_init 20 = .ok (.aload_n 0, 1) := by decide +kernel
theorem dX0_init_21 : decode cX0_init 21 = .ok (.bipush 20, 2) := by decide +kernel
theorem dX0_init_23 : decode cX0_init 23 = .ok (.newarray .int, 2) := by decide +kernel
theorem dX0_init_25 : decode cX0_init 25 = .ok (.putfield 18, 3) := by decide +kernel
theorem dX0_init_28 : decode cX0_init 28 = .ok (.return_, 1) := by decide +kernel
theorem dX0_count_0 : decode cX0_count 0 = .ok (.aload_n 0, 1) := by decide +kernel
theorem dX0_count_1 : decode cX0_count 1 = .ok (.getfield 21, 3) := by decide +kernel
theorem dX0_count_4 : decode cX0_count 4 = .ok (.ireturn, 1) := by decide +kernel
theorem dX0_spoiltSoFar_0 : decode cX0_spoiltSoFar 0 = .ok (.aload_n 0, 1) := by decide +kernel
theorem dX0_spoiltSoFar_1 : decode cX0_spoiltSoFar 1 = .ok (.getfield 25, 3) := by decide +kernel
theorem dX0_spoiltSoFar_4 : decode cX0_spoiltSoFar 4 = .ok (.ireturn, 1) := by decide +kernel
theorem dX0_firstLast_0 : decode cX0_firstLast 0 = .ok (.aload_n 0, 1) := by decide +kernel
theorem dX0_firstLast_1 : decode cX0_firstLast 1 = .ok (.getfield 21, 3) := by decide +kernel
theorem dX0_firstLast_4 : decode cX0_firstLast 4 = .ok (.ifCond .le 12, 3) := by decide +kernel
theorem dX0_firstLast_7 : decode cX0_firstLast 7 = .ok (.aload_n 0, 1) := by decide +kernel
theorem dX0_firstLast_8 : decode cX0_firstLast 8 = .ok (.getfield 15, 3) := by decide +kernel
theorem dX0_firstLast_11 : decode cX0_firstLast 11 = .ok (.iconst 0, 1) := by decide +kernel
theorem dX0_firstLast_12 : decode cX0_firstLast 12 = .ok (.iaload, 1) := by decide +kernel
theorem dX0_firstLast_13 : decode cX0_firstLast 13 = .ok (.goto 4, 3) := by decide +kernel
theorem dX0_firstLast_16 : decode cX0_firstLast 16 = .ok (.iconst (-1), 1) := by decide +kernel
theorem dX0_firstLast_17 : decode cX0_firstLast 17 = .ok (.ireturn, 1) := by decide +kernel
theorem dX0_total_0 : decode cX0_total 0 = .ok (.iconst 0, 1) := by decide +kernel
theorem dX0_total_1 : decode cX0_total 1 = .ok (.istore_n 1, 1) := by decide +kernel
theorem dX0_total_2 : decode cX0_total 2 = .ok (.iconst 0, 1) := by decide +kernel
theorem dX0_total_3 : decode cX0_total 3 = .ok (.istore_n 2, 1) := by decide +kernel
theorem dX0_total_4 : decode cX0_total 4 = .ok (.iload_n 2, 1) := by decide +kernel
theorem dX0_total_5 : decode cX0_total 5 = .ok (.aload_n 0, 1) := by decide +kernel
theorem dX0_total_6 : decode cX0_total 6 = .ok (.getfield 21, 3) := by decide +kernel
theorem dX0_total_9 : decode cX0_total 9 = .ok (.if_icmp .ge 18, 3) := by decide +kernel
theorem dX0_total_12 : decode cX0_total 12 = .ok (.iload_n 1, 1) := by decide +kernel
theorem dX0_total_13 : decode cX0_total 13 = .ok (.aload_n 0, 1) := by decide +kernel
theorem dX0_total_14 : decode cX0_total 14 = .ok (.getfield 9, 3) := by decide +kernel
theorem dX0_total_17 : decode cX0_total 17 = .ok (.iload_n 2, 1) := by decide +kernel
theorem dX0_total_18 : decode cX0_total 18 = .ok (.iaload, 1) := by decide +kernel
theorem dX0_total_19 : decode cX0_total 19 = .ok (.iadd, 1) := by decide +kernel
theorem dX0_total_20 : decode cX0_total 20 = .ok (.istore_n 1, 1) := by decide +kernel
theorem dX0_total_21 : decode cX0_total 21 = .ok (.iinc 2 1, 3) := by decide +kernel
theorem dX0_total_24 : decode cX0_total 24 = .ok (.goto (-20), 3) := by decide +kernel
theorem dX0_total_27 : decode cX0_total 27 = .ok (.iload_n 1, 1) := by decide +kernel
theorem dX0_total_28 : decode cX0_total 28 = .ok (.ireturn, 1) := by decide +kernel
theorem dX0_add_0 : decode cX0_add 0 = .ok (.aload_n 0, 1) := by decide +kernel
theorem dX0_add_1 : decode cX0_add 1 = .ok (.getfield 21, 3) := by decide +kernel
theorem dX0_add_4 : decode cX0_add 4 = .ok (.bipush 20, 2) := by decide +kernel
theorem dX0_add_6 : decode cX0_add 6 = .ok (.if_icmp .lt 5, 3) := by decide +kernel
theorem dX0_add_9 : decode cX0_add 9 = .ok (.iconst (-1), 1) := by decide +kernel
theorem dX0_add_10 : decode cX0_add 10 = .ok (.ireturn, 1) := by decide +kernel
theorem dX0_add_11 : decode cX0_add 11 = .ok (.aload_n 0, 1) := by decide +kernel
theorem dX0_add_12 : decode cX0_add 12 = .ok (.getfield 21, 3) := by decide +kernel
theorem dX0_add_15 : decode cX0_add 15 = .ok (.istore_n 3, 1) := by decide +kernel
theorem dX0_add_16 : decode cX0_add 16 = .ok (.iload_n 3, 1) := by decide +kernel
theorem dX0_add_17 : decode cX0_add 17 = .ok (.ifCond .le 49, 3) := by decide +kernel
theorem dX0_add_20 : decode cX0_add 20 = .ok (.aload_n 0, 1) := by decide +kernel
theorem dX0_add_21 : decode cX0_add 21 = .ok (.getfield 15, 3) := by decide +kernel
theorem dX0_add_24 : decode cX0_add 24 = .ok (.iload_n 3, 1) := by decide +kernel
theorem dX0_add_25 : decode cX0_add 25 = .ok (.iconst 1, 1) := by decide +kernel
theorem dX0_add_26 : decode cX0_add 26 = .ok (.isub, 1) := by decide +kernel
theorem dX0_add_27 : decode cX0_add 27 = .ok (.iaload, 1) := by decide +kernel
theorem dX0_add_28 : decode cX0_add 28 = .ok (.iload_n 2, 1) := by decide +kernel
theorem dX0_add_29 : decode cX0_add 29 = .ok (.if_icmp .le 37, 3) := by decide +kernel
theorem dX0_add_32 : decode cX0_add 32 = .ok (.aload_n 0, 1) := by decide +kernel
theorem dX0_add_33 : decode cX0_add 33 = .ok (.getfield 9, 3) := by decide +kernel
theorem dX0_add_36 : decode cX0_add 36 = .ok (.iload_n 3, 1) := by decide +kernel
theorem dX0_add_37 : decode cX0_add 37 = .ok (.aload_n 0, 1) := by decide +kernel
theorem dX0_add_38 : decode cX0_add 38 = .ok (.getfield 9, 3) := by decide +kernel
theorem dX0_add_41 : decode cX0_add 41 = .ok (.iload_n 3, 1) := by decide +kernel
theorem dX0_add_42 : decode cX0_add 42 = .ok (.iconst 1, 1) := by decide +kernel
theorem dX0_add_43 : decode cX0_add 43 = .ok (.isub, 1) := by decide +kernel
theorem dX0_add_44 : decode cX0_add 44 = .ok (.iaload, 1) := by decide +kernel
theorem dX0_add_45 : decode cX0_add 45 = .ok (.iastore, 1) := by decide +kernel
theorem dX0_add_46 : decode cX0_add 46 = .ok (.aload_n 0, 1) := by decide +kernel
theorem dX0_add_47 : decode cX0_add 47 = .ok (.getfield 15, 3) := by decide +kernel
theorem dX0_add_50 : decode cX0_add 50 = .ok (.iload_n 3, 1) := by decide +kernel
theorem dX0_add_51 : decode cX0_add 51 = .ok (.aload_n 0, 1) := by decide +kernel
theorem dX0_add_52 : decode cX0_add 52 = .ok (.getfield 15, 3) := by decide +kernel
theorem dX0_add_55 : decode cX0_add 55 = .ok (.iload_n 3, 1) := by decide +kernel
theorem dX0_add_56 : decode cX0_add 56 = .ok (.iconst 1, 1) := by decide +kernel
theorem dX0_add_57 : decode cX0_add 57 = .ok (.isub, 1) := by decide +kernel
theorem dX0_add_58 : decode cX0_add 58 = .ok (.iaload, 1) := by decide +kernel
theorem dX0_add_59 : decode cX0_add 59 = .ok (.iastore, 1) := by decide +kernel
theorem dX0_add_60 : decode cX0_add 60 = .ok (.iinc 3 (-1), 3) := by decide +kernel
theorem dX0_add_63 : decode cX0_add 63 = .ok (.goto (-47), 3) := by decide +kernel
theorem dX0_add_66 : decode cX0_add 66 = .ok (.aload_n 0, 1) := by decide +kernel
theorem dX0_add_67 : decode cX0_add 67 = .ok (.getfield 9, 3) := by decide +kernel
theorem dX0_add_70 : decode cX0_add 70 = .ok (.iload_n 3, 1) := by decide +kernel
theorem dX0_add_71 : decode cX0_add 71 = .ok (.iload_n 1, 1) := by decide +kernel
theorem dX0_add_72 : decode cX0_add 72 = .ok (.iastore, 1) := by decide +kernel
theorem dX0_add_73 : decode cX0_add 73 = .ok (.aload_n 0, 1) := by decide +kernel
theorem dX0_add_74 : decode cX0_add 74 = .ok (.getfield 15, 3) := by decide +kernel
theorem dX0_add_77 : decode cX0_add 77 = .ok (.iload_n 3, 1) := by decide +kernel
theorem dX0_add_78 : decode cX0_add 78 = .ok (.iload_n 2, 1) := by decide +kernel
theorem dX0_add_79 : decode cX0_add 79 = .ok (.iastore, 1) := by decide +kernel
theorem dX0_add_80 : decode cX0_add 80 = .ok (.aload_n 0, 1) := by decide +kernel
theorem dX0_add_81 : decode cX0_add 81 = .ok (.dup, 1) := by decide +kernel
theorem dX0_add_82 : decode cX0_add 82 = .ok (.getfield 21, 3) := by decide +kernel
theorem dX0_add_85 : decode cX0_add 85 = .ok (.iconst 1, 1) := by decide +kernel
theorem dX0_add_86 : decode cX0_add 86 = .ok (.iadd, 1) := by decide +kernel
theorem dX0_add_87 : decode cX0_add 87 = .ok (.putfield 21, 3) := by decide +kernel
theorem dX0_add_90 : decode cX0_add 90 = .ok (.aload_n 0, 1) := by decide +kernel
theorem dX0_add_91 : decode cX0_add 91 = .ok (.getfield 21, 3) := by decide +kernel
theorem dX0_add_94 : decode cX0_add 94 = .ok (.ireturn, 1) := by decide +kernel
theorem dX0_spoil_0 : decode cX0_spoil 0 = .ok (.iconst 0, 1) := by decide +kernel
theorem dX0_spoil_1 : decode cX0_spoil 1 = .ok (.istore_n 2, 1) := by decide +kernel
theorem dX0_spoil_2 : decode cX0_spoil 2 = .ok (.iload_n 2, 1) := by decide +kernel
theorem dX0_spoil_3 : decode cX0_spoil 3 = .ok (.aload_n 0, 1) := by decide +kernel
theorem dX0_spoil_4 : decode cX0_spoil 4 = .ok (.getfield 21, 3) := by decide +kernel
theorem dX0_spoil_7 : decode cX0_spoil 7 = .ok (.if_icmp .ge 34, 3) := by decide +kernel
theorem dX0_spoil_10 : decode cX0_spoil 10 = .ok (.aload_n 0, 1) := by decide +kernel
theorem dX0_spoil_11 : decode cX0_spoil 11 = .ok (.getfield 15, 3) := by decide +kernel
theorem dX0_spoil_14 : decode cX0_spoil 14 = .ok (.iload_n 2, 1) := by decide +kernel
theorem dX0_spoil_15 : decode cX0_spoil 15 = .ok (.iaload, 1) := by decide +kernel
theorem dX0_spoil_16 : decode cX0_spoil 16 = .ok (.iload_n 1, 1) := by decide +kernel
theorem dX0_spoil_17 : decode cX0_spoil 17 = .ok (.if_icmp .ge 24, 3) := by decide +kernel
theorem dX0_spoil_20 : decode cX0_spoil 20 = .ok (.aload_n 0, 1) := by decide +kernel
theorem dX0_spoil_21 : decode cX0_spoil 21 = .ok (.dup, 1) := by decide +kernel
theorem dX0_spoil_22 : decode cX0_spoil 22 = .ok (.getfield 25, 3) := by decide +kernel
theorem dX0_spoil_25 : decode cX0_spoil 25 = .ok (.aload_n 0, 1) := by decide +kernel
theorem dX0_spoil_26 : decode cX0_spoil 26 = .ok (.getfield 9, 3) := by decide +kernel
theorem dX0_spoil_29 : decode cX0_spoil 29 = .ok (.iload_n 2, 1) := by decide +kernel
theorem dX0_spoil_30 : decode cX0_spoil 30 = .ok (.iaload, 1) := by decide +kernel
theorem dX0_spoil_31 : decode cX0_spoil 31 = .ok (.iadd, 1) := by decide +kernel
theorem dX0_spoil_32 : decode cX0_spoil 32 = .ok (.putfield 25, 3) := by decide +kernel
theorem dX0_spoil_35 : decode cX0_spoil 35 = .ok (.iinc 2 1, 3) := by decide +kernel
theorem dX0_spoil_38 : decode cX0_spoil 38 = .ok (.goto (-36), 3) := by decide +kernel
theorem dX0_spoil_41 : decode cX0_spoil 41 = .ok (.aload_n 0, 1) := by decide +kernel
theorem dX0_spoil_42 : decode cX0_spoil 42 = .ok (.iload_n 2, 1) := by decide +kernel
theorem dX0_spoil_43 : decode cX0_spoil 43 = .ok (.invokevirtual 28, 3) := by decide +kernel
theorem dX0_spoil_46 : decode cX0_spoil 46 = .ok (.return_, 1) := by decide +kernel
theorem dX0_take_0 : decode cX0_take 0 = .ok (.iload_n 1, 1) := by decide +kernel
theorem dX0_take_1 : decode cX0_take 1 = .ok (.istore_n 2, 1) := by decide +kernel
theorem dX0_take_2 : decode cX0_take 2 = .ok (.iconst 0, 1) := by decide +kernel
theorem dX0_take_3 : decode cX0_take 3 = .ok (.istore_n 3, 1) := by decide +kernel
theorem dX0_take_4 : decode cX0_take 4 = .ok (.iload_n 3, 1) := by decide +kernel
theorem dX0_take_5 : decode cX0_take 5 = .ok (.aload_n 0, 1) := by decide +kernel
theorem dX0_take_6 : decode cX0_take 6 = .ok (.getfield 21, 3) := by decide +kernel
theorem dX0_take_9 : decode cX0_take 9 = .ok (.if_icmp .ge 28, 3) := by decide +kernel
theorem dX0_take_12 : decode cX0_take 12 = .ok (.aload_n 0, 1) := by decide +kernel
theorem dX0_take_13 : decode cX0_take 13 = .ok (.getfield 9, 3) := by decide +kernel
theorem dX0_take_16 : decode cX0_take 16 = .ok (.iload_n 3, 1) := by decide +kernel
theorem dX0_take_17 : decode cX0_take 17 = .ok (.iaload, 1) := by decide +kernel
theorem dX0_take_18 : decode cX0_take 18 = .ok (.iload_n 2, 1) := by decide +kernel
theorem dX0_take_19 : decode cX0_take 19 = .ok (.if_icmp .gt 18, 3) := by decide +kernel
theorem dX0_take_22 : decode cX0_take 22 = .ok (.iload_n 2, 1) := by decide +kernel
theorem dX0_take_23 : decode cX0_take 23 = .ok (.aload_n 0, 1) := by decide +kernel
theorem dX0_take_24 : decode cX0_take 24 = .ok (.getfield 9, 3) := by decide +kernel
theorem dX0_take_27 : decode cX0_take 27 = .ok (.iload_n 3, 1) := by decide +kernel
theorem dX0_take_28 : decode cX0_take 28 = .ok (.iaload, 1) := by decide +kernel
theorem dX0_take_29 : decode cX0_take 29 = .ok (.isub, 1) := by decide +kernel
theorem dX0_take_30 : decode cX0_take 30 = .ok (.istore_n 2, 1) := by decide +kernel
theorem dX0_take_31 : decode cX0_take 31 = .ok (.iinc 3 1, 3) := by decide +kernel
theorem dX0_take_34 : decode cX0_take 34 = .ok (.goto (-30), 3) := by decide +kernel
theorem dX0_take_37 : decode cX0_take 37 = .ok (.iload_n 3, 1) := by decide +kernel
theorem dX0_take_38 : decode cX0_take 38 = .ok (.aload_n 0, 1) := by decide +kernel
theorem dX0_take_39 : decode cX0_take 39 = .ok (.getfield 21, 3) := by decide +kernel
theorem dX0_take_42 : decode cX0_take 42 = .ok (.if_icmp .ge 15, 3) := by decide +kernel
theorem dX0_take_45 : decode cX0_take 45 = .ok (.aload_n 0, 1) := by decide +kernel
theorem dX0_take_46 : decode cX0_take 46 = .ok (.getfield 9, 3) := by decide +kernel
theorem dX0_take_49 : decode cX0_take 49 = .ok (.iload_n 3, 1) := by decide +kernel
theorem dX0_take_50 : decode cX0_take 50 = .ok (.dup2, 1) := by decide +kernel
theorem dX0_take_51 : decode cX0_take 51 = .ok (.iaload, 1) := by decide +kernel
theorem dX0_take_52 : decode cX0_take 52 = .ok (.iload_n 2, 1) := by decide +kernel
theorem dX0_take_53 : decode cX0_take 53 = .ok (.isub, 1) := by decide +kernel
theorem dX0_take_54 : decode cX0_take 54 = .ok (.iastore, 1) := by decide +kernel
theorem dX0_take_55 : decode cX0_take 55 = .ok (.iconst 0, 1) := by decide +kernel
theorem dX0_take_56 : decode cX0_take 56 = .ok (.istore_n 2, 1) := by decide +kernel
theorem dX0_take_57 : decode cX0_take 57 = .ok (.aload_n 0, 1) := by decide +kernel
theorem dX0_take_58 : decode cX0_take 58 = .ok (.iload_n 3, 1) := by decide +kernel
theorem dX0_take_59 : decode cX0_take 59 = .ok (.invokevirtual 28, 3) := by decide +kernel
theorem dX0_take_62 : decode cX0_take 62 = .ok (.iload_n 1, 1) := by decide +kernel
theorem dX0_take_63 : decode cX0_take 63 = .ok (.iload_n 2, 1) := by decide +kernel
theorem dX0_take_64 : decode cX0_take 64 = .ok (.isub, 1) := by decide +kernel
theorem dX0_take_65 : decode cX0_take 65 = .ok (.ireturn, 1) := by decide +kernel
theorem dX0_nightsFor_0 : decode cX0_nightsFor 0 = .ok (.aload_n 0, 1) := by decide +kernel
theorem dX0_nightsFor_1 : decode cX0_nightsFor 1 = .ok (.getfield 9, 3) := by decide +kernel
theorem dX0_nightsFor_4 : decode cX0_nightsFor 4 = .ok (.iconst 0, 1) := by decide +kernel
theorem dX0_nightsFor_5 : decode cX0_nightsFor 5 = .ok (.aload_n 0, 1) := by decide +kernel
theorem dX0_nightsFor_6 : decode cX0_nightsFor 6 = .ok (.getfield 18, 3) := by decide +kernel
theorem dX0_nightsFor_9 : decode cX0_nightsFor 9 = .ok (.iconst 0, 1) := by decide +kernel
theorem dX0_nightsFor_10 : decode cX0_nightsFor 10 = .ok (.bipush 20, 2) := by decide +kernel
theorem dX0_nightsFor_12 : decode cX0_nightsFor 12 = .ok (.invokestatic 32, 3) := by decide +kernel
theorem dX0_nightsFor_15 : decode cX0_nightsFor 15 = .ok (.iconst 0, 1) := by decide +kernel
theorem dX0_nightsFor_16 : decode cX0_nightsFor 16 = .ok (.istore_n 3, 1) := by decide +kernel
theorem dX0_nightsFor_17 : decode cX0_nightsFor 17 = .ok (.iload_n 3, 1) := by decide +kernel
theorem dX0_nightsFor_18 : decode cX0_nightsFor 18 = .ok (.sipush 400, 3) := by decide +kernel
theorem dX0_nightsFor_21 : decode cX0_nightsFor 21 = .ok (.if_icmp .ge 22, 3) := by decide +kernel
theorem dX0_nightsFor_24 : decode cX0_nightsFor 24 = .ok (.aload_n 0, 1) := by decide +kernel
theorem dX0_nightsFor_25 : decode cX0_nightsFor 25 = .ok (.iload_n 1, 1) := by decide +kernel
theorem dX0_nightsFor_26 : decode cX0_nightsFor 26 = .ok (.iload_n 2, 1) := by decide +kernel
theorem dX0_nightsFor_27 : decode cX0_nightsFor 27 = .ok (.iload_n 3, 1) := by decide +kernel
theorem dX0_nightsFor_28 : decode cX0_nightsFor 28 = .ok (.iadd, 1) := by decide +kernel
theorem dX0_nightsFor_29 : decode cX0_nightsFor 29 = .ok (.invokevirtual 38, 3) := by decide +kernel
theorem dX0_nightsFor_32 : decode cX0_nightsFor 32 = .ok (.ifCond .ne 5, 3) := by decide +kernel
theorem dX0_nightsFor_35 : decode cX0_nightsFor 35 = .ok (.iload_n 3, 1) := by decide +kernel
theorem dX0_nightsFor_36 : decode cX0_nightsFor 36 = .ok (.ireturn, 1) := by decide +kernel
theorem dX0_nightsFor_37 : decode cX0_nightsFor 37 = .ok (.iinc 3 1, 3) := by decide +kernel
theorem dX0_nightsFor_40 : decode cX0_nightsFor 40 = .ok (.goto (-23), 3) := by decide +kernel
theorem dX0_nightsFor_43 : decode cX0_nightsFor 43 = .ok (.sipush 400, 3) := by decide +kernel
theorem dX0_nightsFor_46 : decode cX0_nightsFor 46 = .ok (.ireturn, 1) := by decide +kernel
theorem dX0_suffices_0 : decode cX0_suffices 0 = .ok (.iload_n 1, 1) := by decide +kernel
theorem dX0_suffices_1 : decode cX0_suffices 1 = .ok (.istore_n 3, 1) := by decide +kernel
theorem dX0_suffices_2 : decode cX0_suffices 2 = .ok (.iconst 0, 1) := by decide +kernel
theorem dX0_suffices_3 : decode cX0_suffices 3 = .ok (.istore 4, 2) := by decide +kernel
theorem dX0_suffices_5 : decode cX0_suffices 5 = .ok (.iload 4, 2) := by decide +kernel
theorem dX0_suffices_7 : decode cX0_suffices 7 = .ok (.aload_n 0, 1) := by decide +kernel
theorem dX0_suffices_8 : decode cX0_suffices 8 = .ok (.getfield 21, 3) := by decide +kernel
theorem dX0_suffices_11 : decode cX0_suffices 11 = .ok (.if_icmp .ge 50, 3) := by decide +kernel
theorem dX0_suffices_14 : decode cX0_suffices 14 = .ok (.aload_n 0, 1) := by decide +kernel
theorem dX0_suffices_15 : decode cX0_suffices 15 = .ok (.getfield 15, 3) := by decide +kernel
theorem dX0_suffices_18 : decode cX0_suffices 18 = .ok (.iload 4, 2) := by decide +kernel
theorem dX0_suffices_20 : decode cX0_suffices 20 = .ok (.iaload, 1) := by decide +kernel
theorem dX0_suffices_21 : decode cX0_suffices 21 = .ok (.iload_n 2, 1) := by decide +kernel
theorem dX0_suffices_22 : decode cX0_suffices 22 = .ok (.if_icmp .lt 33, 3) := by decide +kernel
theorem dX0_suffices_25 : decode cX0_suffices 25 = .ok (.aload_n 0, 1) := by decide +kernel
theorem dX0_suffices_26 : decode cX0_suffices 26 = .ok (.getfield 18, 3) := by decide +kernel
theorem dX0_suffices_29 : decode cX0_suffices 29 = .ok (.iload 4, 2) := by decide +kernel
theorem dX0_suffices_31 : decode cX0_suffices 31 = .ok (.iaload, 1) := by decide +kernel
theorem dX0_suffices_32 : decode cX0_suffices 32 = .ok (.iload_n 3, 1) := by decide +kernel
theorem dX0_suffices_33 : decode cX0_suffices 33 = .ok (.invokestatic 42, 3) := by decide +kernel
theorem dX0_suffices_36 : decode cX0_suffices 36 = .ok (.istore 5, 2) := by decide +kernel
theorem dX0_suffices_38 : decode cX0_suffices 38 = .ok (.aload_n 0, 1) := by decide +kernel
theorem dX0_suffices_39 : decode cX0_suffices 39 = .ok (.getfield 18, 3) := by decide +kernel
theorem dX0_suffices_42 : decode cX0_suffices 42 = .ok (.iload 4, 2) := by decide +kernel
theorem dX0_suffices_44 : decode cX0_suffices 44 = .ok (.dup2, 1) := by decide +kernel
theorem dX0_suffices_45 : decode cX0_suffices 45 = .ok (.iaload, 1) := by decide +kernel
theorem dX0_suffices_46 : decode cX0_suffices 46 = .ok (.iload 5, 2) := by decide +kernel
theorem dX0_suffices_48 : decode cX0_suffices 48 = .ok (.isub, 1) := by decide +kernel
theorem dX0_suffices_49 : decode cX0_suffices 49 = .ok (.iastore, 1) := by decide +kernel
theorem dX0_suffices_50 : decode cX0_suffices 50 = .ok (.iload_n 3, 1) := by decide +kernel
theorem dX0_suffices_51 : decode cX0_suffices 51 = .ok (.iload 5, 2) := by decide +kernel
theorem dX0_suffices_53 : decode cX0_suffices 53 = .ok (.isub, 1) := by decide +kernel
theorem dX0_suffices_54 : decode cX0_suffices 54 = .ok (.istore_n 3, 1) := by decide +kernel
theorem dX0_suffices_55 : decode cX0_suffices 55 = .ok (.iinc 4 1, 3) := by decide +kernel
theorem dX0_suffices_58 : decode cX0_suffices 58 = .ok (.goto (-53), 3) := by decide +kernel
theorem dX0_suffices_61 : decode cX0_suffices 61 = .ok (.iload_n 3, 1) := by decide +kernel
theorem dX0_suffices_62 : decode cX0_suffices 62 = .ok (.ifCond .ne 7, 3) := by decide +kernel
theorem dX0_suffices_65 : decode cX0_suffices 65 = .ok (.iconst 1, 1) := by decide +kernel
theorem dX0_suffices_66 : decode cX0_suffices 66 = .ok (.goto 4, 3) := by decide +kernel
theorem dX0_suffices_69 : decode cX0_suffices 69 = .ok (.iconst 0, 1) := by decide +kernel
theorem dX0_suffices_70 : decode cX0_suffices 70 = .ok (.ireturn, 1) := by decide +kernel
theorem dX0_drop_0 : decode cX0_drop 0 = .ok (.iload_n 1, 1) := by decide +kernel
theorem dX0_drop_1 : decode cX0_drop 1 = .ok (.istore_n 2, 1) := by decide +kernel
theorem dX0_drop_2 : decode cX0_drop 2 = .ok (.iload_n 2, 1) := by decide +kernel
theorem dX0_drop_3 : decode cX0_drop 3 = .ok (.aload_n 0, 1) := by decide +kernel
theorem dX0_drop_4 : decode cX0_drop 4 = .ok (.getfield 21, 3) := by decide +kernel
theorem dX0_drop_7 : decode cX0_drop 7 = .ok (.if_icmp .ge 37, 3) := by decide +kernel
theorem dX0_drop_10 : decode cX0_drop 10 = .ok (.aload_n 0, 1) := by decide +kernel
theorem dX0_drop_11 : decode cX0_drop 11 = .ok (.getfield 9, 3) := by decide +kernel
theorem dX0_drop_14 : decode cX0_drop 14 = .ok (.iload_n 2, 1) := by decide +kernel
theorem dX0_drop_15 : decode cX0_drop 15 = .ok (.iload_n 1, 1) := by decide +kernel
theorem dX0_drop_16 : decode cX0_drop 16 = .ok (.isub, 1) := by decide +kernel
theorem dX0_drop_17 : decode cX0_drop 17 = .ok (.aload_n 0, 1) := by decide +kernel
theorem dX0_drop_18 : decode cX0_drop 18 = .ok (.getfield 9, 3) := by decide +kernel
theorem dX0_drop_21 : decode cX0_drop 21 = .ok (.iload_n 2, 1) := by decide +kernel
theorem dX0_drop_22 : decode cX0_drop 22 = .ok (.iaload, 1) := by decide +kernel
theorem dX0_drop_23 : decode cX0_drop 23 = .ok (.iastore, 1) := by decide +kernel
theorem dX0_drop_24 : decode cX0_drop 24 = .ok (.aload_n 0, 1) := by decide +kernel
theorem dX0_drop_25 : decode cX0_drop 25 = .ok (.getfield 15, 3) := by decide +kernel
theorem dX0_drop_28 : decode cX0_drop 28 = .ok (.iload_n 2, 1) := by decide +kernel
theorem dX0_drop_29 : decode cX0_drop 29 = .ok (.iload_n 1, 1) := by decide +kernel
theorem dX0_drop_30 : decode cX0_drop 30 = .ok (.isub, 1) := by decide +kernel
theorem dX0_drop_31 : decode cX0_drop 31 = .ok (.aload_n 0, 1) := by decide +kernel
theorem dX0_drop_32 : decode cX0_drop 32 = .ok (.getfield 15, 3) := by decide +kernel
theorem dX0_drop_35 : decode cX0_drop 35 = .ok (.iload_n 2, 1) := by decide +kernel
theorem dX0_drop_36 : decode cX0_drop 36 = .ok (.iaload, 1) := by decide +kernel
theorem dX0_drop_37 : decode cX0_drop 37 = .ok (.iastore, 1) := by decide +kernel
theorem dX0_drop_38 : decode cX0_drop 38 = .ok (.iinc 2 1, 3) := by decide +kernel
theorem dX0_drop_41 : decode cX0_drop 41 = .ok (.goto (-39), 3) := by decide +kernel
theorem dX0_drop_44 : decode cX0_drop 44 = .ok (.aload_n 0, 1) := by decide +kernel
theorem dX0_drop_45 : decode cX0_drop 45 = .ok (.dup, 1) := by decide +kernel
theorem dX0_drop_46 : decode cX0_drop 46 = .ok (.getfield 21, 3) := by decide +kernel
theorem dX0_drop_49 : decode cX0_drop 49 = .ok (.iload_n 1, 1) := by decide +kernel
theorem dX0_drop_50 : decode cX0_drop 50 = .ok (.isub, 1) := by decide +kernel
theorem dX0_drop_51 : decode cX0_drop 51 = .ok (.putfield 21, 3) := by decide +kernel
theorem dX0_drop_54 : decode cX0_drop 54 = .ok (.return_, 1) := by decide +kernel
theorem dX1_init_0 : decode cX1_init 0 = .ok (.aload_n 0, 1) := by decide +kernel
theorem dX1_init_1 : decode cX1_init 1 = .ok (.invokespecial 3, 3) := by decide +kernel
theorem dX1_init_4 : decode cX1_init 4 = .ok (.aload_n 0, 1) := by decide +kernel
theorem dX1_init_5 : decode cX1_init 5 = .ok (.bipush 12, 2) := by decide +kernel
theorem dX1_init_7 : decode cX1_init 7 = .ok (.newarray .int, 2) := by decide +kernel
theorem dX1_init_9 : decode cX1_init 9 = .ok (.putfield 9, 3) := by decide +kernel
theorem dX1_init_12 : decode cX1_init 12 = .ok (.aload_n 0, 1) := by decide +kernel
theorem dX1_init_13 : decode cX1_init 13 = .ok (.bipush 12, 2) := by decide +kernel
theorem dX1_init_15 : decode cX1_init 15 = .ok (.newarray .int, 2) := by decide +kernel
theorem dX1_init_17 : decode cX1_init 17 = .ok (.putfield 15, 3) := by decide +kernel
theorem dX1_init_20 : decode cX1_init 20 = .ok (.aload_n 0, 1) := by decide +kernel
theorem dX1_init_21 : decode cX1_init 21 = .ok (.bipush 12, 2) := by decide +kernel
theorem dX1_init_23 : decode cX1_init 23 = .ok (.newarray .int, 2) := by decide +kernel
theorem dX1_init_25 : decode cX1_init 25 = .ok (.putfield 18, 3) := by decide +kernel
theorem dX1_init_28 : decode cX1_init 28 = .ok (.aload_n 0, 1) := by decide +kernel
theorem dX1_init_29 : decode cX1_init 29 = .ok (.bipush 12, 2) := by decide +kernel
theorem dX1_init_31 : decode cX1_init 31 = .ok (.newarray .boolean, 2) := by decide +kernel
theorem dX1_init_33 : decode cX1_init 33 = .ok (.putfield 21, 3) := by decide +kernel
theorem dX1_init_36 : decode cX1_init 36 = .ok (.aload_n 0, 1) := by decide +kernel
theorem dX1_init_37 : decode cX1_init 37 = .ok (.bipush 48, 2) := by decide +kernel
theorem dX1_init_39 : decode cX1_init 39 = .ok (.newarray .int, 2) := by decide +kernel
theorem dX1_init_41 : decode cX1_init 41 = .ok (.putfield 25, 3) := by decide +kernel
theorem dX1_init_44 : decode cX1_init 44 = .ok (.aload_n 0, 1) := by decide +kernel
theorem dX1_init_45 : decode cX1_init 45 = .ok (.bipush 12, 2) := by decide +kernel
theorem dX1_init_47 : decode cX1_init 47 = .ok (.newarray .int, 2) := by decide +kernel
theorem dX1_init_49 : decode cX1_init 49 = .ok (.putfield 28, 3) := by decide +kernel
theorem dX1_init_52 : decode cX1_init 52 = .ok (.return_, 1) := by decide +kernel
theorem dX1_count_0 : decode cX1_count 0 = .ok (.aload_n 0, 1) := by decide +kernel
theorem dX1_count_1 : decode cX1_count 1 = .ok (.getfield 31, 3) := by decide +kernel
theorem dX1_count_4 : decode cX1_count 4 = .ok (.ireturn, 1) := by decide +kernel
theorem dX1_has_0 : decode cX1_has 0 = .ok (.iload_n 1, 1) := by decide +kernel
theorem dX1_has_1 : decode cX1_has 1 = .ok (.ifCond .lt 15, 3) := by decide +kernel
theorem dX1_has_4 : decode cX1_has 4 = .ok (.iload_n 1, 1) := by decide +kernel
theorem dX1_has_5 : decode cX1_has 5 = .ok (.aload_n 0, 1) := by decide +kernel
theorem dX1_has_6 : decode cX1_has 6 = .ok (.getfield 31, 3) := by decide +kernel
theorem dX1_has_9 : decode cX1_has 9 = .ok (.if_icmp .ge 7, 3) := by decide +kernel
theorem dX1_has_12 : decode cX1_has 12 = .ok (.iconst 1, 1) := by decide +kernel
theorem dX1_has_13 : decode cX1_has 13 = .ok (.goto 4, 3) := by decide +kernel
theorem dX1_has_16 : decode cX1_has 16 = .ok (.iconst 0, 1) := by decide +kernel
theorem dX1_has_17 : decode cX1_has 17 = .ok (.ireturn, 1) := by decide +kernel
theorem dX1_add_0 : decode cX1_add 0 = .ok (.aload_n 0, 1) := by decide +kernel
theorem dX1_add_1 : decode cX1_add 1 = .ok (.getfield 31, 3) := by decide +kernel
theorem dX1_add_4 : decode cX1_add 4 = .ok (.bipush 12, 2) := by decide +kernel
theorem dX1_add_6 : decode cX1_add 6 = .ok (.if_icmp .lt 5, 3) := by decide +kernel
theorem dX1_add_9 : decode cX1_add 9 = .ok (.iconst (-1), 1) := by decide +kernel
theorem dX1_add_10 : decode cX1_add 10 = .ok (.ireturn, 1) := by decide +kernel
theorem dX1_add_11 : decode cX1_add 11 = .ok (.aload_n 0, 1) := by decide +kernel
theorem dX1_add_12 : decode cX1_add 12 = .ok (.getfield 9, 3) := by decide +kernel
theorem dX1_add_15 : decode cX1_add 15 = .ok (.aload_n 0, 1) := by decide +kernel
theorem dX1_add_16 : decode cX1_add 16 = .ok (.getfield 31, 3) := by decide +kernel
theorem dX1_add_19 : decode cX1_add 19 = .ok (.iload_n 1, 1) := by decide +kernel
theorem dX1_add_20 : decode cX1_add 20 = .ok (.iastore, 1) := by decide +kernel
theorem dX1_add_21 : decode cX1_add 21 = .ok (.aload_n 0, 1) := by decide +kernel
theorem dX1_add_22 : decode cX1_add 22 = .ok (.getfield 15, 3) := by decide +kernel
theorem dX1_add_25 : decode cX1_add 25 = .ok (.aload_n 0, 1) := by decide +kernel
theorem dX1_add_26 : decode cX1_add 26 = .ok (.getfield 31, 3) := by decide +kernel
theorem dX1_add_29 : decode cX1_add 29 = .ok (.iload_n 2, 1) := by decide +kernel
theorem dX1_add_30 : decode cX1_add 30 = .ok (.iastore, 1) := by decide +kernel
theorem dX1_add_31 : decode cX1_add 31 = .ok (.aload_n 0, 1) := by decide +kernel
theorem dX1_add_32 : decode cX1_add 32 = .ok (.getfield 18, 3) := by decide +kernel
theorem dX1_add_35 : decode cX1_add 35 = .ok (.aload_n 0, 1) := by decide +kernel
theorem dX1_add_36 : decode cX1_add 36 = .ok (.getfield 31, 3) := by decide +kernel
theorem dX1_add_39 : decode cX1_add 39 = .ok (.iload_n 3, 1) := by decide +kernel
theorem dX1_add_40 : decode cX1_add 40 = .ok (.iastore, 1) := by decide +kernel
theorem dX1_add_41 : decode cX1_add 41 = .ok (.aload_n 0, 1) := by decide +kernel
theorem dX1_add_42 : decode cX1_add 42 = .ok (.dup, 1) := by decide +kernel
theorem dX1_add_43 : decode cX1_add 43 = .ok (.getfield 31, 3) := by decide +kernel
theorem dX1_add_46 : decode cX1_add 46 = .ok (.iconst 1, 1) := by decide +kernel
theorem dX1_add_47 : decode cX1_add 47 = .ok (.iadd, 1) := by decide +kernel
theorem dX1_add_48 : decode cX1_add 48 = .ok (.putfield 31, 3) := by decide +kernel
theorem dX1_add_51 : decode cX1_add 51 = .ok (.aload_n 0, 1) := by decide +kernel
theorem dX1_add_52 : decode cX1_add 52 = .ok (.getfield 31, 3) := by decide +kernel
theorem dX1_add_55 : decode cX1_add 55 = .ok (.iconst 1, 1) := by decide +kernel
theorem dX1_add_56 : decode cX1_add 56 = .ok (.isub, 1) := by decide +kernel
theorem dX1_add_57 : decode cX1_add 57 = .ok (.ireturn, 1) := by decide +kernel
theorem dX1_kindOf_0 : decode cX1_kindOf 0 = .ok (.aload_n 0, 1) := by decide +kernel
theorem dX1_kindOf_1 : decode cX1_kindOf 1 = .ok (.getfield 9, 3) := by decide +kernel
theorem dX1_kindOf_4 : decode cX1_kindOf 4 = .ok (.iload_n 1, 1) := by decide +kernel
theorem dX1_kindOf_5 : decode cX1_kindOf 5 = .ok (.iaload, 1) := by decide +kernel
theorem dX1_kindOf_6 : decode cX1_kindOf 6 = .ok (.ireturn, 1) := by decide +kernel
theorem dX1_ageOf_0 : decode cX1_ageOf 0 = .ok (.aload_n 0, 1) := by decide +kernel
theorem dX1_ageOf_1 : decode cX1_ageOf 1 = .ok (.getfield 15, 3) := by decide +kernel
theorem dX1_ageOf_4 : decode cX1_ageOf 4 = .ok (.iload_n 1, 1) := by decide +kernel
theorem dX1_ageOf_5 : decode cX1_ageOf 5 = .ok (.iaload, 1) := by decide +kernel
theorem dX1_ageOf_6 : decode cX1_ageOf 6 = .ok (.ireturn, 1) := by decide +kernel
theorem dX1_cameOf_0 : decode cX1_cameOf 0 = .ok (.aload_n 0, 1) := by decide +kernel
theorem dX1_cameOf_1 : decode cX1_cameOf 1 = .ok (.getfield 18, 3) := by decide +kernel
theorem dX1_cameOf_4 : decode cX1_cameOf 4 = .ok (.iload_n 1, 1) := by decide +kernel
theorem dX1_cameOf_5 : decode cX1_cameOf 5 = .ok (.iaload, 1) := by decide +kernel
theorem dX1_cameOf_6 : decode cX1_cameOf 6 = .ok (.ireturn, 1) := by decide +kernel
theorem dX1_isLame_0 : decode cX1_isLame 0 = .ok (.aload_n 0, 1) := by decide +kernel
theorem dX1_isLame_1 : decode cX1_isLame 1 = .ok (.getfield 21, 3) := by decide +kernel
theorem dX1_isLame_4 : decode cX1_isLame 4 = .ok (.iload_n 1, 1) := by decide +kernel
theorem dX1_isLame_5 : decode cX1_isLame 5 = .ok (.baload, 1) := by decide +kernel
theorem dX1_isLame_6 : decode cX1_isLame 6 = .ok (.ireturn, 1) := by decide +kernel
theorem dX1_setLame_0 : decode cX1_setLame 0 = .ok (.aload_n 0, 1) := by decide +kernel
theorem dX1_setLame_1 : decode cX1_setLame 1 = .ok (.getfield 21, 3) := by decide +kernel
theorem dX1_setLame_4 : decode cX1_setLame 4 = .ok (.iload_n 1, 1) := by decide +kernel
theorem dX1_setLame_5 : decode cX1_setLame 5 = .ok (.iload_n 2, 1) := by decide +kernel
theorem dX1_setLame_6 : decode cX1_setLame 6 = .ok (.bastore, 1) := by decide +kernel
theorem dX1_setLame_7 : decode cX1_setLame 7 = .ok (.return_, 1) := by decide +kernel
theorem dX1_wantedOf_0 : decode cX1_wantedOf 0 = .ok (.aload_n 0, 1) := by decide +kernel
theorem dX1_wantedOf_1 : decode cX1_wantedOf 1 = .ok (.getfield 25, 3) := by decide +kernel
theorem dX1_wantedOf_4 : decode cX1_wantedOf 4 = .ok (.iload_n 1, 1) := by decide +kernel
theorem dX1_wantedOf_5 : decode cX1_wantedOf 5 = .ok (.iconst 4, 1) := by decide +kernel
theorem dX1_wantedOf_6 : decode cX1_wantedOf 6 = .ok (.imul, 1) := by decide +kernel
theorem dX1_wantedOf_7 : decode cX1_wantedOf 7 = .ok (.iload_n 2, 1) := by decide +kernel
theorem dX1_wantedOf_8 : decode cX1_wantedOf 8 = .ok (.iadd, 1) := by decide +kernel
theorem dX1_wantedOf_9 : decode cX1_wantedOf 9 = .ok (.iaload, 1) := by decide +kernel
theorem dX1_wantedOf_10 : decode cX1_wantedOf 10 = .ok (.ireturn, 1) := by decide +kernel
theorem dX1_setWanted_0 : decode cX1_setWanted 0 = .ok (.aload_n 0, 1) := by decide +kernel
theorem dX1_setWanted_1 : decode cX1_setWanted 1 = .ok (.getfield 25, 3) := by decide +kernel
theorem dX1_setWanted_4 : decode cX1_setWanted 4 = .ok (.iload_n 1, 1) := by decide +kernel
theorem dX1_setWanted_5 : decode cX1_setWanted 5 = .ok (.iconst 4, 1) := by decide +kernel
theorem dX1_setWanted_6 : decode cX1_setWanted 6 = .ok (.imul, 1) := by decide +kernel
theorem dX1_setWanted_7 : decode cX1_setWanted 7 = .ok (.iload_n 2, 1) := by decide +kernel
theorem dX1_setWanted_8 : decode cX1_setWanted 8 = .ok (.iadd, 1) := by decide +kernel
theorem dX1_setWanted_9 : decode cX1_setWanted 9 = .ok (.iload_n 3, 1) := by decide +kernel
theorem dX1_setWanted_10 : decode cX1_setWanted 10 = .ok (.iastore, 1) := by decide +kernel
theorem dX1_setWanted_11 : decode cX1_setWanted 11 = .ok (.return_, 1) := by decide +kernel
theorem dX1_wantedByAll_0 : decode cX1_wantedByAll 0 = .ok (.iconst 0, 1) := by decide +kernel
theorem dX1_wantedByAll_1 : decode cX1_wantedByAll 1 = .ok (.istore_n 2, 1) := by decide +kernel
theorem dX1_wantedByAll_2 : decode cX1_wantedByAll 2 = .ok (.iconst 0, 1) := by decide +kernel
theorem dX1_wantedByAll_3 : decode cX1_wantedByAll 3 = .ok (.istore_n 3, 1) := by decide +kernel
theorem dX1_wantedByAll_4 : decode cX1_wantedByAll 4 = .ok (.iload_n 3, 1) := by decide +kernel
theorem dX1_wantedByAll_5 : decode cX1_wantedByAll 5 = .ok (.aload_n 0, 1) := by decide +kernel
theorem dX1_wantedByAll_6 : decode cX1_wantedByAll 6 = .ok (.getfield 31, 3) := by decide +kernel
theorem dX1_wantedByAll_9 : decode cX1_wantedByAll 9 = .ok (.if_icmp .ge 18, 3) := by decide +kernel
theorem dX1_wantedByAll_12 : decode cX1_wantedByAll 12 = .ok (.iload_n 2, 1) := by decide +kernel
theorem dX1_wantedByAll_13 : decode cX1_wantedByAll 13 = .ok (.aload_n 0, 1) := by decide +kernel
theorem dX1_wantedByAll_14 : decode cX1_wantedByAll 14 = .ok (.iload_n 3, 1) := by decide +kernel
theorem dX1_wantedByAll_15 : decode cX1_wantedByAll 15 = .ok (.iload_n 1, 1) := by decide +kernel
theorem dX1_wantedByAll_16 : decode cX1_wantedByAll 16 = .ok (.invokevirtual 35, 3) := by decide +kernel
theorem dX1_wantedByAll_19 : decode cX1_wantedByAll 19 = .ok (.iadd, 1) := by decide +kernel
theorem dX1_wantedByAll_20 : decode cX1_wantedByAll 20 = .ok (.istore_n 2, 1) := by decide +kernel
theorem dX1_wantedByAll_21 : decode cX1_wantedByAll 21 = .ok (.iinc 3 1, 3) := by decide +kernel
theorem dX1_wantedByAll_24 : decode cX1_wantedByAll 24 = .ok (.goto (-20), 3) := by decide +kernel
theorem dX1_wantedByAll_27 : decode cX1_wantedByAll 27 = .ok (.iload_n 2, 1) := by decide +kernel
theorem dX1_wantedByAll_28 : decode cX1_wantedByAll 28 = .ok (.ireturn, 1) := by decide +kernel
theorem dX1_lackedOf_0 : decode cX1_lackedOf 0 = .ok (.aload_n 0, 1) := by decide +kernel
theorem dX1_lackedOf_1 : decode cX1_lackedOf 1 = .ok (.getfield 28, 3) := by decide +kernel
theorem dX1_lackedOf_4 : decode cX1_lackedOf 4 = .ok (.iload_n 1, 1) := by decide +kernel
theorem dX1_lackedOf_5 : decode cX1_lackedOf 5 = .ok (.iaload, 1) := by decide +kernel
theorem dX1_lackedOf_6 : decode cX1_lackedOf 6 = .ok (.ireturn, 1) := by decide +kernel
theorem dX1_addLacked_0 : decode cX1_addLacked 0 = .ok (.aload_n 0, 1) := by decide +kernel
theorem dX1_addLacked_1 : decode cX1_addLacked 1 = .ok (.getfield 28, 3) := by decide +kernel
theorem dX1_addLacked_4 : decode cX1_addLacked 4 = .ok (.iload_n 1, 1) := by decide +kernel
theorem dX1_addLacked_5 : decode cX1_addLacked 5 = .ok (.dup2, 1) := by decide +kernel
theorem dX1_addLacked_6 : decode cX1_addLacked 6 = .ok (.iaload, 1) := by decide +kernel
theorem dX1_addLacked_7 : decode cX1_addLacked 7 = .ok (.iload_n 2, 1) := by decide +kernel
theorem dX1_addLacked_8 : decode cX1_addLacked 8 = .ok (.iadd, 1) := by decide +kernel
theorem dX1_addLacked_9 : decode cX1_addLacked 9 = .ok (.iastore, 1) := by decide +kernel
theorem dX1_addLacked_10 : decode cX1_addLacked 10 = .ok (.return_, 1) := by decide +kernel
theorem dX2_init_0 : decode cX2_init 0 = .ok (.aload_n 0, 1) := by decide +kernel
theorem dX2_init_1 : decode cX2_init 1 = .ok (.invokespecial 3, 3) := by decide +kernel
theorem dX2_init_4 : decode cX2_init 4 = .ok (.aload_n 0, 1) := by decide +kernel
theorem dX2_init_5 : decode cX2_init 5 = .ok (.bipush 14, 2) := by decide +kernel
theorem dX2_init_7 : decode cX2_init 7 = .ok (.newarray .int, 2) := by decide +kernel
theorem dX2_init_9 : decode cX2_init 9 = .ok (.putfield 9, 3) := by decide +kernel
theorem dX2_init_12 : decode cX2_init 12 = .ok (.aload_n 0, 1) := by decide +kernel
theorem dX2_init_13 : decode cX2_init 13 = .ok (.aload_n 1, 1) := by decide +kernel
theorem dX2_init_14 : decode cX2_init 14 = .ok (.putfield 15, 3) := by decide +kernel
theorem dX2_init_17 : decode cX2_init 17 = .ok (.aload_n 0, 1) := by decide +kernel
theorem dX2_init_18 : decode cX2_init 18 = .ok (.aload_n 2, 1) := by decide +kernel
theorem dX2_init_19 : decode cX2_init 19 = .ok (.putfield 19, 3) := by decide +kernel
theorem dX2_init_22 : decode cX2_init 22 = .ok (.aload_n 0, 1) := by decide +kernel
theorem dX2_init_23 : decode cX2_init 23 = .ok (.aload_n 3, 1) := by decide +kernel
theorem dX2_init_24 : decode cX2_init 24 = .ok (.putfield 23, 3) := by decide +kernel
theorem dX2_init_27 : decode cX2_init 27 = .ok (.return_, 1) := by decide +kernel
theorem dX2_mayBe_0 : decode cX2_mayBe 0 = .ok (.aload_n 0, 1) := by decide +kernel
theorem dX2_mayBe_1 : decode cX2_mayBe 1 = .ok (.getfield 19, 3) := by decide +kernel
theorem dX2_mayBe_4 : decode cX2_mayBe 4 = .ok (.iload_n 2, 1) := by decide +kernel
theorem dX2_mayBe_5 : decode cX2_mayBe 5 = .ok (.iload 4, 2) := by decide +kernel
theorem dX2_mayBe_7 : decode cX2_mayBe 7 = .ok (.invokevirtual 27, 3) := by decide +kernel
theorem dX2_mayBe_10 : decode cX2_mayBe 10 = .ok (.ifCond .ne 5, 3) := by decide +kernel
theorem dX2_mayBe_13 : decode cX2_mayBe 13 = .ok (.iconst 0, 1) := by decide +kernel
theorem dX2_mayBe_14 : decode cX2_mayBe 14 = .ok (.ireturn, 1) := by decide +kernel
theorem dX2_mayBe_15 : decode cX2_mayBe 15 = .ok (.aload_n 0, 1) := by decide +kernel
theorem dX2_mayBe_16 : decode cX2_mayBe 16 = .ok (.iload_n 1, 1) := by decide +kernel
theorem dX2_mayBe_17 : decode cX2_mayBe 17 = .ok (.iload_n 2, 1) := by decide +kernel
theorem dX2_mayBe_18 : decode cX2_mayBe 18 = .ok (.iload_n 3, 1) := by decide +kernel
theorem dX2_mayBe_19 : decode cX2_mayBe 19 = .ok (.iload 4, 2) := by decide +kernel
theorem dX2_mayBe_21 : decode cX2_mayBe 21 = .ok (.invokevirtual 33, 3) := by decide +kernel
theorem dX2_mayBe_24 : decode cX2_mayBe 24 = .ok (.aload_n 0, 1) := by decide +kernel
theorem dX2_mayBe_25 : decode cX2_mayBe 25 = .ok (.getfield 23, 3) := by decide +kernel
theorem dX2_mayBe_28 : decode cX2_mayBe 28 = .ok (.iconst 0, 1) := by decide +kernel
theorem dX2_mayBe_29 : decode cX2_mayBe 29 = .ok (.aload_n 0, 1) := by decide +kernel
theorem dX2_mayBe_30 : decode cX2_mayBe 30 = .ok (.getfield 9, 3) := by decide +kernel
theorem dX2_mayBe_33 : decode cX2_mayBe 33 = .ok (.invokevirtual 37, 3) := by decide +kernel
theorem dX2_mayBe_36 : decode cX2_mayBe 36 = .ok (.ireturn, 1) := by decide +kernel
theorem dX2_mayMeet_0 : decode cX2_mayMeet 0 = .ok (.aload_n 0, 1) := by decide +kernel
theorem dX2_mayMeet_1 : decode cX2_mayMeet 1 = .ok (.getfield 19, 3) := by decide +kernel
theorem dX2_mayMeet_4 : decode cX2_mayMeet 4 = .ok (.iload_n 2, 1) := by decide +kernel
theorem dX2_mayMeet_5 : decode cX2_mayMeet 5 = .ok (.iload 4, 2) := by decide +kernel
theorem dX2_mayMeet_7 : decode cX2_mayMeet 7 = .ok (.invokevirtual 43, 3) := by decide +kernel
theorem dX2_mayMeet_10 : decode cX2_mayMeet 10 = .ok (.ifCond .ne 5, 3) := by decide +kernel
theorem dX2_mayMeet_13 : decode cX2_mayMeet 13 = .ok (.iconst 1, 1) := by decide +kernel
theorem dX2_mayMeet_14 : decode cX2_mayMeet 14 = .ok (.ireturn, 1) := by decide +kernel
theorem dX2_mayMeet_15 : decode cX2_mayMeet 15 = .ok (.aload_n 0, 1) := by decide +kernel
theorem dX2_mayMeet_16 : decode cX2_mayMeet 16 = .ok (.getfield 9, 3) := by decide +kernel
theorem dX2_mayMeet_19 : decode cX2_mayMeet 19 = .ok (.bipush 8, 2) := by decide +kernel
theorem dX2_mayMeet_21 : decode cX2_mayMeet 21 = .ok (.iload_n 2, 1) := by decide +kernel
theorem dX2_mayMeet_22 : decode cX2_mayMeet 22 = .ok (.iload 4, 2) := by decide +kernel
theorem dX2_mayMeet_24 : decode cX2_mayMeet 24 = .ok (.if_icmp .ne 7, 3) := by decide +kernel
theorem dX2_mayMeet_27 : decode cX2_mayMeet 27 = .ok (.iconst 0, 1) := by decide +kernel
theorem dX2_mayMeet_28 : decode cX2_mayMeet 28 = .ok (.goto 4, 3) := by decide +kernel
theorem dX2_mayMeet_31 : decode cX2_mayMeet 31 = .ok (.iconst 1, 1) := by decide +kernel
theorem dX2_mayMeet_32 : decode cX2_mayMeet 32 = .ok (.iastore, 1) := by decide +kernel
theorem dX2_mayMeet_33 : decode cX2_mayMeet 33 = .ok (.aload_n 0, 1) := by decide +kernel
theorem dX2_mayMeet_34 : decode cX2_mayMeet 34 = .ok (.iload_n 1, 1) := by decide +kernel
theorem dX2_mayMeet_35 : decode cX2_mayMeet 35 = .ok (.iload_n 2, 1) := by decide +kernel
theorem dX2_mayMeet_36 : decode cX2_mayMeet 36 = .ok (.iload 5, 2) := by decide +kernel
theorem dX2_mayMeet_38 : decode cX2_mayMeet 38 = .ok (.iload 6, 2) := by decide +kernel
theorem dX2_mayMeet_40 : decode cX2_mayMeet 40 = .ok (.invokevirtual 33, 3) := by decide +kernel
theorem dX2_mayMeet_43 : decode cX2_mayMeet 43 = .ok (.aload_n 0, 1) := by decide +kernel
theorem dX2_mayMeet_44 : decode cX2_mayMeet 44 = .ok (.iload_n 3, 1) := by decide +kernel
theorem dX2_mayMeet_45 : decode cX2_mayMeet 45 = .ok (.iload 6, 2) := by decide +kernel
theorem dX2_mayMeet_47 : decode cX2_mayMeet 47 = .ok (.invokevirtual 46, 3) := by decide +kernel
theorem dX2_mayMeet_50 : decode cX2_mayMeet 50 = .ok (.aload_n 0, 1) := by decide +kernel
theorem dX2_mayMeet_51 : decode cX2_mayMeet 51 = .ok (.getfield 23, 3) := by decide +kernel
theorem dX2_mayMeet_54 : decode cX2_mayMeet 54 = .ok (.iconst 1, 1) := by decide +kernel
theorem dX2_mayMeet_55 : decode cX2_mayMeet 55 = .ok (.aload_n 0, 1) := by decide +kernel
theorem dX2_mayMeet_56 : decode cX2_mayMeet 56 = .ok (.getfield 9, 3) := by decide +kernel
theorem dX2_mayMeet_59 : decode cX2_mayMeet 59 = .ok (.invokevirtual 37, 3) := by decide +kernel
theorem dX2_mayMeet_62 : decode cX2_mayMeet 62 = .ok (.ifCond .ne 5, 3) := by decide +kernel
theorem dX2_mayMeet_65 : decode cX2_mayMeet 65 = .ok (.iconst 0, 1) := by decide +kernel
theorem dX2_mayMeet_66 : decode cX2_mayMeet 66 = .ok (.ireturn, 1) := by decide +kernel
theorem dX2_mayMeet_67 : decode cX2_mayMeet 67 = .ok (.aload_n 0, 1) := by decide +kernel
theorem dX2_mayMeet_68 : decode cX2_mayMeet 68 = .ok (.iload_n 3, 1) := by decide +kernel
theorem dX2_mayMeet_69 : decode cX2_mayMeet 69 = .ok (.iload 4, 2) := by decide +kernel
theorem dX2_mayMeet_71 : decode cX2_mayMeet 71 = .ok (.iload 5, 2) := by decide +kernel
theorem dX2_mayMeet_73 : decode cX2_mayMeet 73 = .ok (.iload 6, 2) := by decide +kernel
theorem dX2_mayMeet_75 : decode cX2_mayMeet 75 = .ok (.invokevirtual 33, 3) := by decide +kernel
theorem dX2_mayMeet_78 : decode cX2_mayMeet 78 = .ok (.aload_n 0, 1) := by decide +kernel
theorem dX2_mayMeet_79 : decode cX2_mayMeet 79 = .ok (.iload_n 1, 1) := by decide +kernel
theorem dX2_mayMeet_80 : decode cX2_mayMeet 80 = .ok (.iload 6, 2) := by decide +kernel
theorem dX2_mayMeet_82 : decode cX2_mayMeet 82 = .ok (.invokevirtual 46, 3) := by decide +kernel
theorem dX2_mayMeet_85 : decode cX2_mayMeet 85 = .ok (.aload_n 0, 1) := by decide +kernel
theorem dX2_mayMeet_86 : decode cX2_mayMeet 86 = .ok (.getfield 23, 3) := by decide +kernel
theorem dX2_mayMeet_89 : decode cX2_mayMeet 89 = .ok (.iconst 1, 1) := by decide +kernel
theorem dX2_mayMeet_90 : decode cX2_mayMeet 90 = .ok (.aload_n 0, 1) := by decide +kernel
theorem dX2_mayMeet_91 : decode cX2_mayMeet 91 = .ok (.getfield 9, 3) := by decide +kernel
theorem dX2_mayMeet_94 : decode cX2_mayMeet 94 = .ok (.invokevirtual 37, 3) := by decide +kernel
theorem dX2_mayMeet_97 : decode cX2_mayMeet 97 = .ok (.ireturn, 1) := by decide +kernel
theorem dX2_tellOfOne_0 : decode cX2_tellOfOne 0 = .ok (.aload_n 0, 1) := by decide +kernel
theorem dX2_tellOfOne_1 : decode cX2_tellOfOne 1 = .ok (.getfield 9, 3) := by decide +kernel
theorem dX2_tellOfOne_4 : decode cX2_tellOfOne 4 = .ok (.iconst 0, 1) := by decide +kernel
theorem dX2_tellOfOne_5 : decode cX2_tellOfOne 5 = .ok (.iload_n 1, 1) := by decide +kernel
theorem dX2_tellOfOne_6 : decode cX2_tellOfOne 6 = .ok (.iastore, 1) := by decide +kernel
theorem dX2_tellOfOne_7 : decode cX2_tellOfOne 7 = .ok (.aload_n 0, 1) := by decide +kernel
theorem dX2_tellOfOne_8 : decode cX2_tellOfOne 8 = .ok (.getfield 9, 3) := by decide +kernel
theorem dX2_tellOfOne_11 : decode cX2_tellOfOne 11 = .ok (.iconst 1, 1) := by decide +kernel
theorem dX2_tellOfOne_12 : decode cX2_tellOfOne 12 = .ok (.aload_n 0, 1) := by decide +kernel
theorem dX2_tellOfOne_13 : decode cX2_tellOfOne 13 = .ok (.getfield 15, 3) := by decide +kernel
theorem dX2_tellOfOne_16 : decode cX2_tellOfOne 16 = .ok (.iload_n 1, 1) := by decide +kernel
theorem dX2_tellOfOne_17 : decode cX2_tellOfOne 17 = .ok (.invokevirtual 50, 3) := by decide +kernel
theorem dX2_tellOfOne_20 : decode cX2_tellOfOne 20 = .ok (.iastore, 1) := by decide +kernel
theorem dX2_tellOfOne_21 : decode cX2_tellOfOne 21 = .ok (.aload_n 0, 1) := by decide +kernel
theorem dX2_tellOfOne_22 : decode cX2_tellOfOne 22 = .ok (.getfield 9, 3) := by decide +kernel
theorem dX2_tellOfOne_25 : decode cX2_tellOfOne 25 = .ok (.iconst 2, 1) := by decide +kernel
theorem dX2_tellOfOne_26 : decode cX2_tellOfOne 26 = .ok (.aload_n 0, 1) := by decide +kernel
theorem dX2_tellOfOne_27 : decode cX2_tellOfOne 27 = .ok (.getfield 15, 3) := by decide +kernel
theorem dX2_tellOfOne_30 : decode cX2_tellOfOne 30 = .ok (.iload_n 1, 1) := by decide +kernel
theorem dX2_tellOfOne_31 : decode cX2_tellOfOne 31 = .ok (.invokevirtual 56, 3) := by decide +kernel
theorem dX2_tellOfOne_34 : decode cX2_tellOfOne 34 = .ok (.iastore, 1) := by decide +kernel
theorem dX2_tellOfOne_35 : decode cX2_tellOfOne 35 = .ok (.aload_n 0, 1) := by decide +kernel
theorem dX2_tellOfOne_36 : decode cX2_tellOfOne 36 = .ok (.getfield 9, 3) := by decide +kernel
theorem dX2_tellOfOne_39 : decode cX2_tellOfOne 39 = .ok (.iconst 3, 1) := by decide +kernel
theorem dX2_tellOfOne_40 : decode cX2_tellOfOne 40 = .ok (.iload 4, 2) := by decide +kernel
theorem dX2_tellOfOne_42 : decode cX2_tellOfOne 42 = .ok (.aload_n 0, 1) := by decide +kernel
theorem dX2_tellOfOne_43 : decode cX2_tellOfOne 43 = .ok (.getfield 15, 3) := by decide +kernel
theorem dX2_tellOfOne_46 : decode cX2_tellOfOne 46 = .ok (.iload_n 1, 1) := by decide +kernel
theorem dX2_tellOfOne_47 : decode cX2_tellOfOne 47 = .ok (.invokevirtual 59, 3) := by decide +kernel
theorem dX2_tellOfOne_50 : decode cX2_tellOfOne 50 = .ok (.isub, 1) := by decide +kernel
theorem dX2_tellOfOne_51 : decode cX2_tellOfOne 51 = .ok (.iastore, 1) := by decide +kernel
theorem dX2_tellOfOne_52 : decode cX2_tellOfOne 52 = .ok (.aload_n 0, 1) := by decide +kernel
theorem dX2_tellOfOne_53 : decode cX2_tellOfOne 53 = .ok (.getfield 9, 3) := by decide +kernel
theorem dX2_tellOfOne_56 : decode cX2_tellOfOne 56 = .ok (.iconst 4, 1) := by decide +kernel
theorem dX2_tellOfOne_57 : decode cX2_tellOfOne 57 = .ok (.aload_n 0, 1) := by decide +kernel
theorem dX2_tellOfOne_58 : decode cX2_tellOfOne 58 = .ok (.getfield 15, 3) := by decide +kernel
theorem dX2_tellOfOne_61 : decode cX2_tellOfOne 61 = .ok (.iload_n 1, 1) := by decide +kernel
theorem dX2_tellOfOne_62 : decode cX2_tellOfOne 62 = .ok (.invokevirtual 62, 3) := by decide +kernel
theorem dX2_tellOfOne_65 : decode cX2_tellOfOne 65 = .ok (.ifCond .eq 7, 3) := by decide +kernel
theorem dX2_tellOfOne_68 : decode cX2_tellOfOne 68 = .ok (.iconst 1, 1) := by decide +kernel
theorem dX2_tellOfOne_69 : decode cX2_tellOfOne 69 = .ok (.goto 4, 3) := by decide +kernel
theorem dX2_tellOfOne_72 : decode cX2_tellOfOne 72 = .ok (.iconst 0, 1) := by decide +kernel
theorem dX2_tellOfOne_73 : decode cX2_tellOfOne 73 = .ok (.iastore, 1) := by decide +kernel
theorem dX2_tellOfOne_74 : decode cX2_tellOfOne 74 = .ok (.aload_n 0, 1) := by decide +kernel
theorem dX2_tellOfOne_75 : decode cX2_tellOfOne 75 = .ok (.getfield 9, 3) := by decide +kernel
theorem dX2_tellOfOne_78 : decode cX2_tellOfOne 78 = .ok (.iconst 5, 1) := by decide +kernel
theorem dX2_tellOfOne_79 : decode cX2_tellOfOne 79 = .ok (.iload_n 2, 1) := by decide +kernel
theorem dX2_tellOfOne_80 : decode cX2_tellOfOne 80 = .ok (.iastore, 1) := by decide +kernel
theorem dX2_tellOfOne_81 : decode cX2_tellOfOne 81 = .ok (.aload_n 0, 1) := by decide +kernel
theorem dX2_tellOfOne_82 : decode cX2_tellOfOne 82 = .ok (.getfield 9, 3) := by decide +kernel
theorem dX2_tellOfOne_85 : decode cX2_tellOfOne 85 = .ok (.bipush 6, 2) := by decide +kernel
theorem dX2_tellOfOne_87 : decode cX2_tellOfOne 87 = .ok (.aload_n 0, 1) := by decide +kernel
theorem dX2_tellOfOne_88 : decode cX2_tellOfOne 88 = .ok (.getfield 19, 3) := by decide +kernel
theorem dX2_tellOfOne_91 : decode cX2_tellOfOne 91 = .ok (.iload_n 2, 1) := by decide +kernel
theorem dX2_tellOfOne_92 : decode cX2_tellOfOne 92 = .ok (.invokevirtual 66, 3) := by decide +kernel
theorem dX2_tellOfOne_95 : decode cX2_tellOfOne 95 = .ok (.iastore, 1) := by decide +kernel
theorem dX2_tellOfOne_96 : decode cX2_tellOfOne 96 = .ok (.aload_n 0, 1) := by decide +kernel
theorem dX2_tellOfOne_97 : decode cX2_tellOfOne 97 = .ok (.getfield 9, 3) := by decide +kernel
theorem dX2_tellOfOne_100 : decode cX2_tellOfOne 100 = .ok (.bipush 7, 2) := by decide +kernel
theorem dX2_tellOfOne_102 : decode cX2_tellOfOne 102 = .ok (.iload_n 3, 1) := by decide +kernel
theorem dX2_tellOfOne_103 : decode cX2_tellOfOne 103 = .ok (.iastore, 1) := by decide +kernel
theorem dX2_tellOfOne_104 : decode cX2_tellOfOne 104 = .ok (.return_, 1) := by decide +kernel
theorem dX2_tellOfOther_0 : decode cX2_tellOfOther 0 = .ok (.aload_n 0, 1) := by decide +kernel
theorem dX2_tellOfOther_1 : decode cX2_tellOfOther 1 = .ok (.getfield 9, 3) := by decide +kernel
theorem dX2_tellOfOther_4 : decode cX2_tellOfOther 4 = .ok (.bipush 9, 2) := by decide +kernel
theorem dX2_tellOfOther_6 : decode cX2_tellOfOther 6 = .ok (.iload_n 1, 1) := by decide +kernel
theorem dX2_tellOfOther_7 : decode cX2_tellOfOther 7 = .ok (.iastore, 1) := by decide +kernel
theorem dX2_tellOfOther_8 : decode cX2_tellOfOther 8 = .ok (.aload_n 0, 1) := by decide +kernel
theorem dX2_tellOfOther_9 : decode cX2_tellOfOther 9 = .ok (.getfield 9, 3) := by decide +kernel
theorem dX2_tellOfOther_12 : decode cX2_tellOfOther 12 = .ok (.bipush 10, 2) := by decide +kernel
theorem dX2_tellOfOther_14 : decode cX2_tellOfOther 14 = .ok (.aload_n 0, 1) := by decide +kernel
theorem dX2_tellOfOther_15 : decode cX2_tellOfOther 15 = .ok (.getfield 15, 3) := by decide +kernel
theorem dX2_tellOfOther_18 : decode cX2_tellOfOther 18 = .ok (.iload_n 1, 1) := by decide +kernel
theorem dX2_tellOfOther_19 : decode cX2_tellOfOther 19 = .ok (.invokevirtual 50, 3) := by decide +kernel
theorem dX2_tellOfOther_22 : decode cX2_tellOfOther 22 = .ok (.iastore, 1) := by decide +kernel
theorem dX2_tellOfOther_23 : decode cX2_tellOfOther 23 = .ok (.aload_n 0, 1) := by decide +kernel
theorem dX2_tellOfOther_24 : decode cX2_tellOfOther 24 = .ok (.getfield 9, 3) := by decide +kernel
theorem dX2_tellOfOther_27 : decode cX2_tellOfOther 27 = .ok (.bipush 11, 2) := by decide +kernel
theorem dX2_tellOfOther_29 : decode cX2_tellOfOther 29 = .ok (.aload_n 0, 1) := by decide +kernel
theorem dX2_tellOfOther_30 : decode cX2_tellOfOther 30 = .ok (.getfield 15, 3) := by decide +kernel
theorem dX2_tellOfOther_33 : decode cX2_tellOfOther 33 = .ok (.iload_n 1, 1) := by decide +kernel
theorem dX2_tellOfOther_34 : decode cX2_tellOfOther 34 = .ok (.invokevirtual 56, 3) := by decide +kernel
theorem dX2_tellOfOther_37 : decode cX2_tellOfOther 37 = .ok (.iastore, 1) := by decide +kernel
theorem dX2_tellOfOther_38 : decode cX2_tellOfOther 38 = .ok (.aload_n 0, 1) := by decide +kernel
theorem dX2_tellOfOther_39 : decode cX2_tellOfOther 39 = .ok (.getfield 9, 3) := by decide +kernel
theorem dX2_tellOfOther_42 : decode cX2_tellOfOther 42 = .ok (.bipush 12, 2) := by decide +kernel
theorem dX2_tellOfOther_44 : decode cX2_tellOfOther 44 = .ok (.iload_n 2, 1) := by decide +kernel
theorem dX2_tellOfOther_45 : decode cX2_tellOfOther 45 = .ok (.aload_n 0, 1) := by decide +kernel
theorem dX2_tellOfOther_46 : decode cX2_tellOfOther 46 = .ok (.getfield 15, 3) := by decide +kernel
theorem dX2_tellOfOther_49 : decode cX2_tellOfOther 49 = .ok (.iload_n 1, 1) := by decide +kernel
theorem dX2_tellOfOther_50 : decode cX2_tellOfOther 50 = .ok (.invokevirtual 59, 3) := by decide +kernel
theorem dX2_tellOfOther_53 : decode cX2_tellOfOther 53 = .ok (.isub, 1) := by decide +kernel
theorem dX2_tellOfOther_54 : decode cX2_tellOfOther 54 = .ok (.iastore, 1) := by decide +kernel
theorem dX2_tellOfOther_55 : decode cX2_tellOfOther 55 = .ok (.aload_n 0, 1) := by decide +kernel
theorem dX2_tellOfOther_56 : decode cX2_tellOfOther 56 = .ok (.getfield 9, 3) := by decide +kernel
theorem dX2_tellOfOther_59 : decode cX2_tellOfOther 59 = .ok (.bipush 13, 2) := by decide +kernel
theorem dX2_tellOfOther_61 : decode cX2_tellOfOther 61 = .ok (.aload_n 0, 1) := by decide +kernel
theorem dX2_tellOfOther_62 : decode cX2_tellOfOther 62 = .ok (.getfield 15, 3) := by decide +kernel
theorem dX2_tellOfOther_65 : decode cX2_tellOfOther 65 = .ok (.iload_n 1, 1) := by decide +kernel
theorem dX2_tellOfOther_66 : decode cX2_tellOfOther 66 = .ok (.invokevirtual 62, 3) := by decide +kernel
theorem dX2_tellOfOther_69 : decode cX2_tellOfOther 69 = .ok (.ifCond .eq 7, 3) := by decide +kernel
theorem dX2_tellOfOther_72 : decode cX2_tellOfOther 72 = .ok (.iconst 1, 1) := by decide +kernel
theorem dX2_tellOfOther_73 : decode cX2_tellOfOther 73 = .ok (.goto 4, 3) := by decide +kernel
theorem dX2_tellOfOther_76 : decode cX2_tellOfOther 76 = .ok (.iconst 0, 1) := by decide +kernel
theorem dX2_tellOfOther_77 : decode cX2_tellOfOther 77 = .ok (.iastore, 1) := by decide +kernel
theorem dX2_tellOfOther_78 : decode cX2_tellOfOther 78 = .ok (.return_, 1) := by decide +kernel
theorem dX3_init_0 : decode cX3_init 0 = .ok (.aload_n 0, 1) := by decide +kernel
theorem dX3_init_1 : decode cX3_init 1 = .ok (.invokespecial 3, 3) := by decide +kernel
theorem dX3_init_4 : decode cX3_init 4 = .ok (.aload_n 0, 1) := by decide +kernel
theorem dX3_init_5 : decode cX3_init 5 = .ok (.bipush 6, 2) := by decide +kernel
theorem dX3_init_7 : decode cX3_init 7 = .ok (.newarray .int, 2) := by decide +kernel
theorem dX3_init_9 : decode cX3_init 9 = .ok (.putfield 9, 3) := by decide +kernel
theorem dX3_init_12 : decode cX3_init 12 = .ok (.aload_n 0, 1) := by decide +kernel
theorem dX3_init_13 : decode cX3_init 13 = .ok (.bipush 6, 2) := by decide +kernel
theorem dX3_init_15 : decode cX3_init 15 = .ok (.newarray .int, 2) := by decide +kernel
theorem dX3_init_17 : decode cX3_init 17 = .ok (.putfield 15, 3) := by decide +kernel
theorem dX3_init_20 : decode cX3_init 20 = .ok (.aload_n 0, 1) := by decide +kernel
theorem dX3_init_21 : decode cX3_init 21 = .ok (.bipush 6, 2) := by decide +kernel
theorem dX3_init_23 : decode cX3_init 23 = .ok (.newarray .int, 2) := by decide +kernel
theorem dX3_init_25 : decode cX3_init 25 = .ok (.putfield 18, 3) := by decide +kernel
theorem dX3_init_28 : decode cX3_init 28 = .ok (.aload_n 0, 1) := by decide +kernel
theorem dX3_init_29 : decode cX3_init 29 = .ok (.bipush 36, 2) := by decide +kernel
theorem dX3_init_31 : decode cX3_init 31 = .ok (.newarray .boolean, 2) := by decide +kernel
theorem dX3_init_33 : decode cX3_init 33 = .ok (.putfield 21, 3) := by decide +kernel
theorem dX3_init_36 : decode cX3_init 36 = .ok (.return_, 1) := by decide +kernel
theorem dX3_lay_0 : decode cX3_lay 0 = .ok (.aload_n 0, 1) := by decide +kernel
theorem dX3_lay_1 : decode cX3_lay 1 = .ok (.getfield 9, 3) := by decide +kernel
theorem dX3_lay_4 : decode cX3_lay 4 = .ok (.iload_n 1, 1) := by decide +kernel
theorem dX3_lay_5 : decode cX3_lay 5 = .ok (.iload_n 2, 1) := by decide +kernel
theorem dX3_lay_6 : decode cX3_lay 6 = .ok (.iastore, 1) := by decide +kernel
theorem dX3_lay_7 : decode cX3_lay 7 = .ok (.aload_n 0, 1) := by decide +kernel
theorem dX3_lay_8 : decode cX3_lay 8 = .ok (.getfield 15, 3) := by decide +kernel
theorem dX3_lay_11 : decode cX3_lay 11 = .ok (.iload_n 1, 1) := by decide +kernel
theorem dX3_lay_12 : decode cX3_lay 12 = .ok (.iload_n 3, 1) := by decide +kernel
theorem dX3_lay_13 : decode cX3_lay 13 = .ok (.iastore, 1) := by decide +kernel
theorem dX3_lay_14 : decode cX3_lay 14 = .ok (.return_, 1) := by decide +kernel
theorem dX3_close_0 : decode cX3_close 0 = .ok (.aload_n 0, 1) := by decide +kernel
theorem dX3_close_1 : decode cX3_close 1 = .ok (.getfield 18, 3) := by decide +kernel
theorem dX3_close_4 : decode cX3_close 4 = .ok (.iload_n 1, 1) := by decide +kernel
theorem dX3_close_5 : decode cX3_close 5 = .ok (.iload_n 2, 1) := by decide +kernel
theorem dX3_close_6 : decode cX3_close 6 = .ok (.iastore, 1) := by decide +kernel
theorem dX3_close_7 : decode cX3_close 7 = .ok (.return_, 1) := by decide +kernel
theorem dX3_setGate_0 : decode cX3_setGate 0 = .ok (.aload_n 0, 1) := by decide +kernel
theorem dX3_setGate_1 : decode cX3_setGate 1 = .ok (.getfield 21, 3) := by decide +kernel
theorem dX3_setGate_4 : decode cX3_setGate 4 = .ok (.iload_n 1, 1) := by decide +kernel
theorem dX3_setGate_5 : decode cX3_setGate 5 = .ok (.bipush 6, 2) := by decide +kernel
theorem dX3_setGate_7 : decode cX3_setGate 7 = .ok (.imul, 1) := by decide +kernel
theorem dX3_setGate_8 : decode cX3_setGate 8 = .ok (.iload_n 2, 1) := by decide +kernel
theorem dX3_setGate_9 : decode cX3_setGate 9 = .ok (.iadd, 1) := by decide +kernel
theorem dX3_setGate_10 : decode cX3_setGate 10 = .ok (.iload_n 3, 1) := by decide +kernel
theorem dX3_setGate_11 : decode cX3_setGate 11 = .ok (.bastore, 1) := by decide +kernel
theorem dX3_setGate_12 : decode cX3_setGate 12 = .ok (.aload_n 0, 1) := by decide +kernel
theorem dX3_setGate_13 : decode cX3_setGate 13 = .ok (.getfield 21, 3) := by decide +kernel
theorem dX3_setGate_16 : decode cX3_setGate 16 = .ok (.iload_n 2, 1) := by decide +kernel
theorem dX3_setGate_17 : decode cX3_setGate 17 = .ok (.bipush 6, 2) := by decide +kernel
theorem dX3_setGate_19 : decode cX3_setGate 19 = .ok (.imul, 1) := by decide +kernel
theorem dX3_setGate_20 : decode cX3_setGate 20 = .ok (.iload_n 1, 1) := by decide +kernel
theorem dX3_setGate_21 : decode cX3_setGate 21 = .ok (.iadd, 1) := by decide +kernel
theorem dX3_setGate_22 : decode cX3_setGate 22 = .ok (.iload_n 3, 1) := by decide +kernel
theorem dX3_setGate_23 : decode cX3_setGate 23 = .ok (.bastore, 1) := by decide +kernel
theorem dX3_setGate_24 : decode cX3_setGate 24 = .ok (.return_, 1) := by decide +kernel
theorem dX3_roomOf_0 : decode cX3_roomOf 0 = .ok (.aload_n 0, 1) := by decide +kernel
theorem dX3_roomOf_1 : decode cX3_roomOf 1 = .ok (.getfield 9, 3) := by decide +kernel
theorem dX3_roomOf_4 : decode cX3_roomOf 4 = .ok (.iload_n 1, 1) := by decide +kernel
theorem dX3_roomOf_5 : decode cX3_roomOf 5 = .ok (.iaload, 1) := by decide +kernel
theorem dX3_roomOf_6 : decode cX3_roomOf 6 = .ok (.ireturn, 1) := by decide +kernel
theorem dX3_wetOf_0 : decode cX3_wetOf 0 = .ok (.aload_n 0, 1) := by decide +kernel
theorem dX3_wetOf_1 : decode cX3_wetOf 1 = .ok (.getfield 15, 3) := by decide +kernel
theorem dX3_wetOf_4 : decode cX3_wetOf 4 = .ok (.iload_n 1, 1) := by decide +kernel
theorem dX3_wetOf_5 : decode cX3_wetOf 5 = .ok (.iaload, 1) := by decide +kernel
theorem dX3_wetOf_6 : decode cX3_wetOf 6 = .ok (.ireturn, 1) := by decide +kernel
theorem dX3_isOpen_0 : decode cX3_isOpen 0 = .ok (.aload_n 0, 1) := by decide +kernel
theorem dX3_isOpen_1 : decode cX3_isOpen 1 = .ok (.getfield 9, 3) := by decide +kernel
theorem dX3_isOpen_4 : decode cX3_isOpen 4 = .ok (.iload_n 1, 1) := by decide +kernel
theorem dX3_isOpen_5 : decode cX3_isOpen 5 = .ok (.iaload, 1) := by decide +kernel
theorem dX3_isOpen_6 : decode cX3_isOpen 6 = .ok (.ifCond .le 17, 3) := by decide +kernel
theorem dX3_isOpen_9 : decode cX3_isOpen 9 = .ok (.iload_n 2, 1) := by decide +kernel
theorem dX3_isOpen_10 : decode cX3_isOpen 10 = .ok (.aload_n 0, 1) := by decide +kernel
theorem dX3_isOpen_11 : decode cX3_isOpen 11 = .ok (.getfield 18, 3) := by decide +kernel
theorem dX3_isOpen_14 : decode cX3_isOpen 14 = .ok (.iload_n 1, 1) := by decide +kernel
theorem dX3_isOpen_15 : decode cX3_isOpen 15 = .ok (.iaload, 1) := by decide +kernel
theorem dX3_isOpen_16 : decode cX3_isOpen 16 = .ok (.if_icmp .lt 7, 3) := by decide +kernel
theorem dX3_isOpen_19 : decode cX3_isOpen 19 = .ok (.iconst 1, 1) := by decide +kernel
theorem dX3_isOpen_20 : decode cX3_isOpen 20 = .ok (.goto 4, 3) := by decide +kernel
theorem dX3_isOpen_23 : decode cX3_isOpen 23 = .ok (.iconst 0, 1) := by decide +kernel
theorem dX3_isOpen_24 : decode cX3_isOpen 24 = .ok (.ireturn, 1) := by decide +kernel
theorem dX3_touch_0 : decode cX3_touch 0 = .ok (.iload_n 1, 1) := by decide +kernel
theorem dX3_touch_1 : decode cX3_touch 1 = .ok (.iload_n 2, 1) := by decide +kernel
theorem dX3_touch_2 : decode cX3_touch 2 = .ok (.if_icmp .eq 17, 3) := by decide +kernel
theorem dX3_touch_5 : decode cX3_touch 5 = .ok (.aload_n 0, 1) := by decide +kernel
theorem dX3_touch_6 : decode cX3_touch 6 = .ok (.getfield 21, 3) := by decide +kernel
theorem dX3_touch_9 : decode cX3_touch 9 = .ok (.iload_n 1, 1) := by decide +kernel
theorem dX3_touch_10 : decode cX3_touch 10 = .ok (.bipush 6, 2) := by decide +kernel
theorem dX3_touch_12 : decode cX3_touch 12 = .ok (.imul, 1) := by decide +kernel
theorem dX3_touch_13 : decode cX3_touch 13 = .ok (.iload_n 2, 1) := by decide +kernel
theorem dX3_touch_14 : decode cX3_touch 14 = .ok (.iadd, 1) := by decide +kernel
theorem dX3_touch_15 : decode cX3_touch 15 = .ok (.baload, 1) := by decide +kernel
theorem dX3_touch_16 : decode cX3_touch 16 = .ok (.ifCond .eq 7, 3) := by decide +kernel
theorem dX3_touch_19 : decode cX3_touch 19 = .ok (.iconst 1, 1) := by decide +kernel
theorem dX3_touch_20 : decode cX3_touch 20 = .ok (.goto 4, 3) := by decide +kernel
theorem dX3_touch_23 : decode cX3_touch 23 = .ok (.iconst 0, 1) := by decide +kernel
theorem dX3_touch_24 : decode cX3_touch 24 = .ok (.ireturn, 1) := by decide +kernel
theorem dX4_init_0 : decode cX4_init 0 = .ok (.aload_n 0, 1) := by decide +kernel
theorem dX4_init_1 : decode cX4_init 1 = .ok (.invokespecial 3, 3) := by decide +kernel
theorem dX4_init_4 : decode cX4_init 4 = .ok (.aload_n 0, 1) := by decide +kernel
theorem dX4_init_5 : decode cX4_init 5 = .ok (.sipush 2000, 3) := by decide +kernel
theorem dX4_init_8 : decode cX4_init 8 = .ok (.newarray .int, 2) := by decide +kernel
theorem dX4_init_10 : decode cX4_init 10 = .ok (.putfield 9, 3) := by decide +kernel
theorem dX4_init_13 : decode cX4_init 13 = .ok (.aload_n 0, 1) := by decide +kernel
theorem dX4_init_14 : decode cX4_init 14 = .ok (.sipush 2000, 3) := by decide +kernel
theorem dX4_init_17 : decode cX4_init 17 = .ok (.newarray .int, 2) := by decide +kernel
theorem dX4_init_19 : decode cX4_init 19 = .ok (.putfield 15, 3) := by decide +kernel
theorem dX4_init_22 : decode cX4_init 22 = .ok (.aload_n 0, 1) := by decide +kernel
theorem dX4_init_23 : decode cX4_init 23 = .ok (.sipush 2000, 3) := by decide +kernel
theorem dX4_init_26 : decode cX4_init 26 = .ok (.newarray .int, 2) := by decide +kernel
theorem dX4_init_28 : decode cX4_init 28 = .ok (.putfield 18, 3) := by decide +kernel
theorem dX4_init_31 : decode cX4_init 31 = .ok (.return_, 1) := by decide +kernel
theorem dX4_count_0 : decode cX4_count 0 = .ok (.aload_n 0, 1) := by decide +kernel
theorem dX4_count_1 : decode cX4_count 1 = .ok (.getfield 21, 3) := by decide +kernel
theorem dX4_count_4 : decode cX4_count 4 = .ok (.ireturn, 1) := by decide +kernel
theorem dX4_haveRoomFor_0 : decode cX4_haveRoomFor 0 = .ok (.aload_n 0, 1) := by decide +kernel
theorem dX4_haveRoomFor_1 : decode cX4_haveRoomFor 1 = .ok (.getfield 21, 3) := by decide +kernel
theorem dX4_haveRoomFor_4 : decode cX4_haveRoomFor 4 = .ok (.iload_n 1, 1) := by decide +kernel
theorem dX4_haveRoomFor_5 : decode cX4_haveRoomFor 5 = .ok (.iadd, 1) := by decide +kernel
theorem dX4_haveRoomFor_6 : decode cX4_haveRoomFor 6 = .ok (.sipush 2000, 3) := by decide +kernel
theorem dX4_haveRoomFor_9 : decode cX4_haveRoomFor 9 = .ok (.if_icmp .gt 7, 3) := by decide +kernel
theorem dX4_haveRoomFor_12 : decode cX4_haveRoomFor 12 = .ok (.iconst 1, 1) := by decide +kernel
theorem dX4_haveRoomFor_13 : decode cX4_haveRoomFor 13 = .ok (.goto 4, 3) := by decide +kernel
theorem dX4_haveRoomFor_16 : decode cX4_haveRoomFor 16 = .ok (.iconst 0, 1) := by decide +kernel
theorem dX4_haveRoomFor_17 : decode cX4_haveRoomFor 17 = .ok (.ireturn, 1) := by decide +kernel
theorem dX4_add_0 : decode cX4_add 0 = .ok (.aload_n 0, 1) := by decide +kernel
theorem dX4_add_1 : decode cX4_add 1 = .ok (.getfield 21, 3) := by decide +kernel
theorem dX4_add_4 : decode cX4_add 4 = .ok (.sipush 2000, 3) := by decide +kernel
theorem dX4_add_7 : decode cX4_add 7 = .ok (.if_icmp .ge 43, 3) := by decide +kernel
theorem dX4_add_10 : decode cX4_add 10 = .ok (.aload_n 0, 1) := by decide +kernel
theorem dX4_add_11 : decode cX4_add 11 = .ok (.getfield 9, 3) := by decide +kernel
theorem dX4_add_14 : decode cX4_add 14 = .ok (.aload_n 0, 1) := by decide +kernel
theorem dX4_add_15 : decode cX4_add 15 = .ok (.getfield 21, 3) := by decide +kernel
theorem dX4_add_18 : decode cX4_add 18 = .ok (.iload_n 1, 1) := by decide +kernel
theorem dX4_add_19 : decode cX4_add 19 = .ok (.iastore, 1) := by decide +kernel
theorem dX4_add_20 : decode cX4_add 20 = .ok (.aload_n 0, 1) := by decide +kernel
theorem dX4_add_21 : decode cX4_add 21 = .ok (.getfield 15, 3) := by decide +kernel
theorem dX4_add_24 : decode cX4_add 24 = .ok (.aload_n 0, 1) := by decide +kernel
theorem dX4_add_25 : decode cX4_add 25 = .ok (.getfield 21, 3) := by decide +kernel
theorem dX4_add_28 : decode cX4_add 28 = .ok (.iload_n 2, 1) := by decide +kernel
theorem dX4_add_29 : decode cX4_add 29 = .ok (.iastore, 1) := by decide +kernel
theorem dX4_add_30 : decode cX4_add 30 = .ok (.aload_n 0, 1) := by decide +kernel
theorem dX4_add_31 : decode cX4_add 31 = .ok (.getfield 18, 3) := by decide +kernel
theorem dX4_add_34 : decode cX4_add 34 = .ok (.aload_n 0, 1) := by decide +kernel
theorem dX4_add_35 : decode cX4_add 35 = .ok (.getfield 21, 3) := by decide +kernel
theorem dX4_add_38 : decode cX4_add 38 = .ok (.iload_n 3, 1) := by decide +kernel
theorem dX4_add_39 : decode cX4_add 39 = .ok (.iastore, 1) := by decide +kernel
theorem dX4_add_40 : decode cX4_add 40 = .ok (.aload_n 0, 1) := by decide +kernel
theorem dX4_add_41 : decode cX4_add 41 = .ok (.dup, 1) := by decide +kernel
theorem dX4_add_42 : decode cX4_add 42 = .ok (.getfield 21, 3) := by decide +kernel
theorem dX4_add_45 : decode cX4_add 45 = .ok (.iconst 1, 1) := by decide +kernel
theorem dX4_add_46 : decode cX4_add 46 = .ok (.iadd, 1) := by decide +kernel
theorem dX4_add_47 : decode cX4_add 47 = .ok (.putfield 21, 3) := by decide +kernel
theorem dX4_add_50 : decode cX4_add 50 = .ok (.return_, 1) := by decide +kernel
theorem dX4_cost_0 : decode cX4_cost 0 = .ok (.iconst 0, 1) := by decide +kernel
theorem dX4_cost_1 : decode cX4_cost 1 = .ok (.istore 5, 2) := by decide +kernel
theorem dX4_cost_3 : decode cX4_cost 3 = .ok (.iload_n 3, 1) := by decide +kernel
theorem dX4_cost_4 : decode cX4_cost 4 = .ok (.iload 4, 2) := by decide +kernel
theorem dX4_cost_6 : decode cX4_cost 6 = .ok (.invokestatic 25, 3) := by decide +kernel
theorem dX4_cost_9 : decode cX4_cost 9 = .ok (.istore 6, 2) := by decide +kernel
theorem dX4_cost_11 : decode cX4_cost 11 = .ok (.iconst 0, 1) := by decide +kernel
theorem dX4_cost_12 : decode cX4_cost 12 = .ok (.istore 7, 2) := by decide +kernel
theorem dX4_cost_14 : decode cX4_cost 14 = .ok (.iload 7, 2) := by decide +kernel
theorem dX4_cost_16 : decode cX4_cost 16 = .ok (.aload_n 0, 1) := by decide +kernel
theorem dX4_cost_17 : decode cX4_cost 17 = .ok (.getfield 21, 3) := by decide +kernel
theorem dX4_cost_20 : decode cX4_cost 20 = .ok (.if_icmp .ge 55, 3) := by decide +kernel
theorem dX4_cost_23 : decode cX4_cost 23 = .ok (.aload_n 0, 1) := by decide +kernel
theorem dX4_cost_24 : decode cX4_cost 24 = .ok (.getfield 9, 3) := by decide +kernel
theorem dX4_cost_27 : decode cX4_cost 27 = .ok (.iload 7, 2) := by decide +kernel
theorem dX4_cost_29 : decode cX4_cost 29 = .ok (.iaload, 1) := by decide +kernel
theorem dX4_cost_30 : decode cX4_cost 30 = .ok (.iload_n 1, 1) := by decide +kernel
theorem dX4_cost_31 : decode cX4_cost 31 = .ok (.if_icmp .ne 38, 3) := by decide +kernel
theorem dX4_cost_34 : decode cX4_cost 34 = .ok (.aload_n 0, 1) := by decide +kernel
theorem dX4_cost_35 : decode cX4_cost 35 = .ok (.getfield 15, 3) := by decide +kernel
theorem dX4_cost_38 : decode cX4_cost 38 = .ok (.iload 7, 2) := by decide +kernel
theorem dX4_cost_40 : decode cX4_cost 40 = .ok (.iaload, 1) := by decide +kernel
theorem dX4_cost_41 : decode cX4_cost 41 = .ok (.iload_n 2, 1) := by decide +kernel
theorem dX4_cost_42 : decode cX4_cost 42 = .ok (.if_icmp .lt 27, 3) := by decide +kernel
theorem dX4_cost_45 : decode cX4_cost 45 = .ok (.aload_n 0, 1) := by decide +kernel
theorem dX4_cost_46 : decode cX4_cost 46 = .ok (.getfield 15, 3) := by decide +kernel
theorem dX4_cost_49 : decode cX4_cost 49 = .ok (.iload 7, 2) := by decide +kernel
theorem dX4_cost_51 : decode cX4_cost 51 = .ok (.iaload, 1) := by decide +kernel
theorem dX4_cost_52 : decode cX4_cost 52 = .ok (.iload 6, 2) := by decide +kernel
theorem dX4_cost_54 : decode cX4_cost 54 = .ok (.if_icmp .gt 15, 3) := by decide +kernel
theorem dX4_cost_57 : decode cX4_cost 57 = .ok (.iload 5, 2) := by decide +kernel
theorem dX4_cost_59 : decode cX4_cost 59 = .ok (.aload_n 0, 1) := by decide +kernel
theorem dX4_cost_60 : decode cX4_cost 60 = .ok (.getfield 18, 3) := by decide +kernel
theorem dX4_cost_63 : decode cX4_cost 63 = .ok (.iload 7, 2) := by decide +kernel
theorem dX4_cost_65 : decode cX4_cost 65 = .ok (.iaload, 1) := by decide +kernel
theorem dX4_cost_66 : decode cX4_cost 66 = .ok (.iadd, 1) := by decide +kernel
theorem dX4_cost_67 : decode cX4_cost 67 = .ok (.istore 5, 2) := by decide +kernel
theorem dX4_cost_69 : decode cX4_cost 69 = .ok (.iinc 7 1, 3) := by decide +kernel
theorem dX4_cost_72 : decode cX4_cost 72 = .ok (.goto (-58), 3) := by decide +kernel
theorem dX4_cost_75 : decode cX4_cost 75 = .ok (.iload 5, 2) := by decide +kernel
theorem dX4_cost_77 : decode cX4_cost 77 = .ok (.ireturn, 1) := by decide +kernel
theorem dX5_init_0 : decode cX5_init 0 = .ok (.aload_n 0, 1) := by decide +kernel
theorem dX5_init_1 : decode cX5_init 1 = .ok (.invokespecial 3, 3) := by decide +kernel
theorem dX5_init_4 : decode cX5_init 4 = .ok (.aload_n 0, 1) := by decide +kernel
theorem dX5_init_5 : decode cX5_init 5 = .ok (.aload_n 1, 1) := by decide +kernel
theorem dX5_init_6 : decode cX5_init 6 = .ok (.putfield 9, 3) := by decide +kernel
theorem dX5_init_9 : decode cX5_init 9 = .ok (.aload_n 0, 1) := by decide +kernel
theorem dX5_init_10 : decode cX5_init 10 = .ok (.aload_n 2, 1) := by decide +kernel
theorem dX5_init_11 : decode cX5_init 11 = .ok (.putfield 15, 3) := by decide +kernel
theorem dX5_init_14 : decode cX5_init 14 = .ok (.aload_n 0, 1) := by decide +kernel
theorem dX5_init_15 : decode cX5_init 15 = .ok (.iconst (-1), 1) := by decide +kernel
theorem dX5_init_16 : decode cX5_init 16 = .ok (.putfield 19, 3) := by decide +kernel
theorem dX5_init_19 : decode cX5_init 19 = .ok (.return_, 1) := by decide +kernel
theorem dX5_faultFound_0 : decode cX5_faultFound 0 = .ok (.aload_n 0, 1) := by decide +kernel
theorem dX5_faultFound_1 : decode cX5_faultFound 1 = .ok (.getfield 23, 3) := by decide +kernel
theorem dX5_faultFound_4 : decode cX5_faultFound 4 = .ok (.ireturn, 1) := by decide +kernel
theorem dX5_faultPlace_0 : decode cX5_faultPlace 0 = .ok (.aload_n 0, 1) := by decide +kernel
theorem dX5_faultPlace_1 : decode cX5_faultPlace 1 = .ok (.getfield 19, 3) := by decide +kernel
theorem dX5_faultPlace_4 : decode cX5_faultPlace 4 = .ok (.ireturn, 1) := by decide +kernel
theorem dX5_readRules_0 : decode cX5_readRules 0 = .ok (.aload_n 0, 1) := by decide +kernel
theorem dX5_readRules_1 : decode cX5_readRules 1 = .ok (.iconst 0, 1) := by decide +kernel
theorem dX5_readRules_2 : decode cX5_readRules 2 = .ok (.putfield 23, 3) := by decide +kernel
theorem dX5_readRules_5 : decode cX5_readRules 5 = .ok (.aload_n 0, 1) := by decide +kernel
theorem dX5_readRules_6 : decode cX5_readRules 6 = .ok (.iconst (-1), 1) := by decide +kernel
theorem dX5_readRules_7 : decode cX5_readRules 7 = .ok (.putfield 19, 3) := by decide +kernel
theorem dX5_readRules_10 : decode cX5_readRules 10 = .ok (.aload_n 0, 1) := by decide +kernel
theorem dX5_readRules_11 : decode cX5_readRules 11 = .ok (.iconst 0, 1) := by decide +kernel
theorem dX5_readRules_12 : decode cX5_readRules 12 = .ok (.putfield 26, 3) := by decide +kernel
theorem dX5_readRules_15 : decode cX5_readRules 15 = .ok (.aload_n 0, 1) := by decide +kernel
theorem dX5_readRules_16 : decode cX5_readRules 16 = .ok (.getfield 15, 3) := by decide +kernel
theorem dX5_readRules_19 : decode cX5_readRules 19 = .ok (.invokevirtual 29, 3) := by decide +kernel
theorem dX5_readRules_22 : decode cX5_readRules 22 = .ok (.aload_n 0, 1) := by decide +kernel
theorem dX5_readRules_23 : decode cX5_readRules 23 = .ok (.getfield 9, 3) := by decide +kernel
theorem dX5_readRules_26 : decode cX5_readRules 26 = .ok (.invokevirtual 34, 3) := by decide +kernel
theorem dX5_readRules_29 : decode cX5_readRules 29 = .ok (.iconst 0, 1) := by decide +kernel
theorem dX5_readRules_30 : decode cX5_readRules 30 = .ok (.istore_n 1, 1) := by decide +kernel
theorem dX5_readRules_31 : decode cX5_readRules 31 = .ok (.iload_n 1, 1) := by decide +kernel
theorem dX5_readRules_32 : decode cX5_readRules 32 = .ok (.bipush 12, 2) := by decide +kernel
theorem dX5_readRules_34 : decode cX5_readRules 34 = .ok (.if_icmp .ge 113, 3) := by decide +kernel
theorem dX5_readRules_37 : decode cX5_readRules 37 = .ok (.aload_n 0, 1) := by decide +kernel
theorem dX5_readRules_38 : decode cX5_readRules 38 = .ok (.getfield 9, 3) := by decide +kernel
theorem dX5_readRules_41 : decode cX5_readRules 41 = .ok (.invokevirtual 39, 3) := by decide +kernel
theorem dX5_readRules_44 : decode cX5_readRules 44 = .ok (.ifCond .eq 103, 3) := by decide +kernel
theorem dX5_readRules_47 : decode cX5_readRules 47 = .ok (.aload_n 0, 1) := by decide +kernel
theorem dX5_readRules_48 : decode cX5_readRules 48 = .ok (.getfield 9, 3) := by decide +kernel
theorem dX5_readRules_51 : decode cX5_readRules 51 = .ok (.invokevirtual 39, 3) := by decide +kernel
theorem dX5_readRules_54 : decode cX5_readRules 54 = .ok (.istore_n 2, 1) := by decide +kernel
theorem dX5_readRules_55 : decode cX5_readRules 55 = .ok (.iload_n 2, 1) := by decide +kernel
theorem dX5_readRules_56 : decode cX5_readRules 56 = .ok (.bipush 14, 2) := by decide +kernel
theorem dX5_readRules_58 : decode cX5_readRules 58 = .ok (.if_icmp .eq 15, 3) := by decide +kernel
theorem dX5_readRules_61 : decode cX5_readRules 61 = .ok (.iload_n 2, 1) := by decide +kernel
theorem dX5_readRules_62 : decode cX5_readRules 62 = .ok (.bipush 15, 2) := by decide +kernel
theorem dX5_readRules_64 : decode cX5_readRules 64 = .ok (.if_icmp .eq 9, 3) := by decide +kernel
theorem dX5_readRules_67 : decode cX5_readRules 67 = .ok (.aload_n 0, 1) := by decide +kernel
theorem dX5_readRules_68 : decode cX5_readRules 68 = .ok (.iconst 2, 1) := by decide +kernel
theorem dX5_readRules_69 : decode cX5_readRules 69 = .ok (.invokevirtual 43, 3) := by decide +kernel
theorem dX5_readRules_72 : decode cX5_readRules 72 = .ok (.ireturn, 1) := by decide +kernel
theorem dX5_readRules_73 : decode cX5_readRules 73 = .ok (.aload_n 0, 1) := by decide +kernel
theorem dX5_readRules_74 : decode cX5_readRules 74 = .ok (.iload_n 2, 1) := by decide +kernel
theorem dX5_readRules_75 : decode cX5_readRules 75 = .ok (.bipush 15, 2) := by decide +kernel
theorem dX5_readRules_77 : decode cX5_readRules 77 = .ok (.if_icmp .ne 7, 3) := by decide +kernel
theorem dX5_readRules_80 : decode cX5_readRules 80 = .ok (.iconst 1, 1) := by decide +kernel
theorem dX5_readRules_81 : decode cX5_readRules 81 = .ok (.goto 4, 3) := by decide +kernel
theorem dX5_readRules_84 : decode cX5_readRules 84 = .ok (.iconst 0, 1) := by decide +kernel
theorem dX5_readRules_85 : decode cX5_readRules 85 = .ok (.putfield 47, 3) := by decide +kernel
theorem dX5_readRules_88 : decode cX5_readRules 88 = .ok (.aload_n 0, 1) := by decide +kernel
theorem dX5_readRules_89 : decode cX5_readRules 89 = .ok (.getfield 9, 3) := by decide +kernel
theorem dX5_readRules_92 : decode cX5_readRules 92 = .ok (.invokevirtual 51, 3) := by decide +kernel
theorem dX5_readRules_95 : decode cX5_readRules 95 = .ok (.aload_n 0, 1) := by decide +kernel
theorem dX5_readRules_96 : decode cX5_readRules 96 = .ok (.iconst 0, 1) := by decide +kernel
theorem dX5_readRules_97 : decode cX5_readRules 97 = .ok (.invokevirtual 54, 3) := by decide +kernel
theorem dX5_readRules_100 : decode cX5_readRules 100 = .ok (.ifCond .ne 5, 3) := by decide +kernel
theorem dX5_readRules_103 : decode cX5_readRules 103 = .ok (.iconst 0, 1) := by decide +kernel
theorem dX5_readRules_104 : decode cX5_readRules 104 = .ok (.ireturn, 1) := by decide +kernel
theorem dX5_readRules_105 : decode cX5_readRules 105 = .ok (.aload_n 0, 1) := by decide +kernel
theorem dX5_readRules_106 : decode cX5_readRules 106 = .ok (.getfield 9, 3) := by decide +kernel
theorem dX5_readRules_109 : decode cX5_readRules 109 = .ok (.invokevirtual 39, 3) := by decide +kernel
theorem dX5_readRules_112 : decode cX5_readRules 112 = .ok (.bipush 59, 2) := by decide +kernel
theorem dX5_readRules_114 : decode cX5_readRules 114 = .ok (.if_icmp .eq 9, 3) := by decide +kernel
theorem dX5_readRules_117 : decode cX5_readRules 117 = .ok (.aload_n 0, 1) := by decide +kernel
theorem dX5_readRules_118 : decode cX5_readRules 118 = .ok (.iconst 2, 1) := by decide +kernel
theorem dX5_readRules_119 : decode cX5_readRules 119 = .ok (.invokevirtual 43, 3) := by decide +kernel
theorem dX5_readRules_122 : decode cX5_readRules 122 = .ok (.ireturn, 1) := by decide +kernel
theorem dX5_readRules_123 : decode cX5_readRules 123 = .ok (.aload_n 0, 1) := by decide +kernel
theorem dX5_readRules_124 : decode cX5_readRules 124 = .ok (.getfield 9, 3) := by decide +kernel
theorem dX5_readRules_127 : decode cX5_readRules 127 = .ok (.invokevirtual 51, 3) := by decide +kernel
theorem dX5_readRules_130 : decode cX5_readRules 130 = .ok (.aload_n 0, 1) := by decide +kernel
theorem dX5_readRules_131 : decode cX5_readRules 131 = .ok (.getfield 15, 3) := by decide +kernel
theorem dX5_readRules_134 : decode cX5_readRules 134 = .ok (.aload_n 0, 1) := by decide +kernel
theorem dX5_readRules_135 : decode cX5_readRules 135 = .ok (.getfield 47, 3) := by decide +kernel
theorem dX5_readRules_138 : decode cX5_readRules 138 = .ok (.invokevirtual 57, 3) := by decide +kernel
theorem dX5_readRules_141 : decode cX5_readRules 141 = .ok (.iinc 1 1, 3) := by decide +kernel
theorem dX5_readRules_144 : decode cX5_readRules 144 = .ok (.goto (-113), 3) := by decide +kernel
theorem dX5_readRules_147 : decode cX5_readRules 147 = .ok (.aload_n 0, 1) := by decide +kernel
theorem dX5_readRules_148 : decode cX5_readRules 148 = .ok (.getfield 9, 3) := by decide +kernel
theorem dX5_readRules_151 : decode cX5_readRules 151 = .ok (.invokevirtual 39, 3) := by decide +kernel
theorem dX5_readRules_154 : decode cX5_readRules 154 = .ok (.ifCond .eq 11, 3) := by decide +kernel
theorem dX5_readRules_157 : decode cX5_readRules 157 = .ok (.aload_n 0, 1) := by decide +kernel
theorem dX5_readRules_158 : decode cX5_readRules 158 = .ok (.iconst 2, 1) := by decide +kernel
theorem dX5_readRules_159 : decode cX5_readRules 159 = .ok (.invokevirtual 43, 3) := by decide +kernel
theorem dX5_readRules_162 : decode cX5_readRules 162 = .ok (.ifCond .eq 7, 3) := by decide +kernel
theorem dX5_readRules_165 : decode cX5_readRules 165 = .ok (.iconst 1, 1) := by decide +kernel
theorem dX5_readRules_166 : decode cX5_readRules 166 = .ok (.goto 4, 3) := by decide +kernel
theorem dX5_readRules_169 : decode cX5_readRules 169 = .ok (.iconst 0, 1) := by decide +kernel
theorem dX5_readRules_170 : decode cX5_readRules 170 = .ok (.ireturn, 1) := by decide +kernel
theorem dX5_readEither_0 : decode cX5_readEither 0 = .ok (.aload_n 0, 1) := by decide +kernel
theorem dX5_readEither_1 : decode cX5_readEither 1 = .ok (.iload_n 1, 1) := by decide +kernel
theorem dX5_readEither_2 : decode cX5_readEither 2 = .ok (.invokevirtual 61, 3) := by decide +kernel
theorem dX5_readEither_5 : decode cX5_readEither 5 = .ok (.ifCond .ne 5, 3) := by decide +kernel
theorem dX5_readEither_8 : decode cX5_readEither 8 = .ok (.iconst 0, 1) := by decide +kernel
theorem dX5_readEither_9 : decode cX5_readEither 9 = .ok (.ireturn, 1) := by decide +kernel
theorem dX5_readEither_10 : decode cX5_readEither 10 = .ok (.iconst 0, 1) := by decide +kernel
theorem dX5_readEither_11 : decode cX5_readEither 11 = .ok (.istore_n 2, 1) := by decide +kernel
theorem dX5_readEither_12 : decode cX5_readEither 12 = .ok (.iload_n 2, 1) := by decide +kernel
theorem dX5_readEither_13 : decode cX5_readEither 13 = .ok (.sipush 1000, 3) := by decide +kernel
theorem dX5_readEither_16 : decode cX5_readEither 16 = .ok (.if_icmp .ge 47, 3) := by decide +kernel
theorem dX5_readEither_19 : decode cX5_readEither 19 = .ok (.aload_n 0, 1) := by decide +kernel
theorem dX5_readEither_20 : decode cX5_readEither 20 = .ok (.getfield 9, 3) := by decide +kernel
theorem dX5_readEither_23 : decode cX5_readEither 23 = .ok (.invokevirtual 39, 3) := by decide +kernel
theorem dX5_readEither_26 : decode cX5_readEither 26 = .ok (.bipush 16, 2) := by decide +kernel
theorem dX5_readEither_28 : decode cX5_readEither 28 = .ok (.if_icmp .ne 35, 3) := by decide +kernel
theorem dX5_readEither_31 : decode cX5_readEither 31 = .ok (.aload_n 0, 1) := by decide +kernel
theorem dX5_readEither_32 : decode cX5_readEither 32 = .ok (.getfield 9, 3) := by decide +kernel
theorem dX5_readEither_35 : decode cX5_readEither 35 = .ok (.invokevirtual 51, 3) := by decide +kernel
theorem dX5_readEither_38 : decode cX5_readEither 38 = .ok (.aload_n 0, 1) := by decide +kernel
theorem dX5_readEither_39 : decode cX5_readEither 39 = .ok (.iload_n 1, 1) := by decide +kernel
theorem dX5_readEither_40 : decode cX5_readEither 40 = .ok (.invokevirtual 61, 3) := by decide +kernel
theorem dX5_readEither_43 : decode cX5_readEither 43 = .ok (.ifCond .ne 5, 3) := by decide +kernel
theorem dX5_readEither_46 : decode cX5_readEither 46 = .ok (.iconst 0, 1) := by decide +kernel
theorem dX5_readEither_47 : decode cX5_readEither 47 = .ok (.ireturn, 1) := by decide +kernel
theorem dX5_readEither_48 : decode cX5_readEither 48 = .ok (.aload_n 0, 1) := by decide +kernel
theorem dX5_readEither_49 : decode cX5_readEither 49 = .ok (.getfield 15, 3) := by decide +kernel
theorem dX5_readEither_52 : decode cX5_readEither 52 = .ok (.bipush 16, 2) := by decide +kernel
theorem dX5_readEither_54 : decode cX5_readEither 54 = .ok (.invokevirtual 64, 3) := by decide +kernel
theorem dX5_readEither_57 : decode cX5_readEither 57 = .ok (.iinc 2 1, 3) := by decide +kernel
theorem dX5_readEither_60 : decode cX5_readEither 60 = .ok (.goto (-48), 3) := by decide +kernel
theorem dX5_readEither_63 : decode cX5_readEither 63 = .ok (.iconst 1, 1) := by decide +kernel
theorem dX5_readEither_64 : decode cX5_readEither 64 = .ok (.ireturn, 1) := by decide +kernel
theorem dX5_readBoth_0 : decode cX5_readBoth 0 = .ok (.aload_n 0, 1) := by decide +kernel
theorem dX5_readBoth_1 : decode cX5_readBoth 1 = .ok (.iload_n 1, 1) := by decide +kernel
theorem dX5_readBoth_2 : decode cX5_readBoth 2 = .ok (.invokevirtual 68, 3) := by decide +kernel
theorem dX5_readBoth_5 : decode cX5_readBoth 5 = .ok (.ifCond .ne 5, 3) := by decide +kernel
theorem dX5_readBoth_8 : decode cX5_readBoth 8 = .ok (.iconst 0, 1) := by decide +kernel
theorem dX5_readBoth_9 : decode cX5_readBoth 9 = .ok (.ireturn, 1) := by decide +kernel
theorem dX5_readBoth_10 : decode cX5_readBoth 10 = .ok (.iconst 0, 1) := by decide +kernel
theorem dX5_readBoth_11 : decode cX5_readBoth 11 = .ok (.istore_n 2, 1) := by decide +kernel
theorem dX5_readBoth_12 : decode cX5_readBoth 12 = .ok (.iload_n 2, 1) := by decide +kernel
theorem dX5_readBoth_13 : decode cX5_readBoth 13 = .ok (.sipush 1000, 3) := by decide +kernel
theorem dX5_readBoth_16 : decode cX5_readBoth 16 = .ok (.if_icmp .ge 47, 3) := by decide +kernel
theorem dX5_readBoth_19 : decode cX5_readBoth 19 = .ok (.aload_n 0, 1) := by decide +kernel
theorem dX5_readBoth_20 : decode cX5_readBoth 20 = .ok (.getfield 9, 3) := by decide +kernel
theorem dX5_readBoth_23 : decode cX5_readBoth 23 = .ok (.invokevirtual 39, 3) := by decide +kernel
theorem dX5_readBoth_26 : decode cX5_readBoth 26 = .ok (.bipush 17, 2) := by decide +kernel
theorem dX5_readBoth_28 : decode cX5_readBoth 28 = .ok (.if_icmp .ne 35, 3) := by decide +kernel
theorem dX5_readBoth_31 : decode cX5_readBoth 31 = .ok (.aload_n 0, 1) := by decide +kernel
theorem dX5_readBoth_32 : decode cX5_readBoth 32 = .ok (.getfield 9, 3) := by decide +kernel
theorem dX5_readBoth_35 : decode cX5_readBoth 35 = .ok (.invokevirtual 51, 3) := by decide +kernel
theorem dX5_readBoth_38 : decode cX5_readBoth 38 = .ok (.aload_n 0, 1) := by decide +kernel
theorem dX5_readBoth_39 : decode cX5_readBoth 39 = .ok (.iload_n 1, 1) := by decide +kernel
theorem dX5_readBoth_40 : decode cX5_readBoth 40 = .ok (.invokevirtual 68, 3) := by decide +kernel
theorem dX5_readBoth_43 : decode cX5_readBoth 43 = .ok (.ifCond .ne 5, 3) := by decide +kernel
theorem dX5_readBoth_46 : decode cX5_readBoth 46 = .ok (.iconst 0, 1) := by decide +kernel
theorem dX5_readBoth_47 : decode cX5_readBoth 47 = .ok (.ireturn, 1) := by decide +kernel
theorem dX5_readBoth_48 : decode cX5_readBoth 48 = .ok (.aload_n 0, 1) := by decide +kernel
theorem dX5_readBoth_49 : decode cX5_readBoth 49 = .ok (.getfield 15, 3) := by decide +kernel
theorem dX5_readBoth_52 : decode cX5_readBoth 52 = .ok (.bipush 17, 2) := by decide +kernel
theorem dX5_readBoth_54 : decode cX5_readBoth 54 = .ok (.invokevirtual 64, 3) := by decide +kernel
theorem dX5_readBoth_57 : decode cX5_readBoth 57 = .ok (.iinc 2 1, 3) := by decide +kernel
theorem dX5_readBoth_60 : decode cX5_readBoth 60 = .ok (.goto (-48), 3) := by decide +kernel
theorem dX5_readBoth_63 : decode cX5_readBoth 63 = .ok (.iconst 1, 1) := by decide +kernel
theorem dX5_readBoth_64 : decode cX5_readBoth 64 = .ok (.ireturn, 1) := by decide +kernel
theorem dX5_readOne_0 : decode cX5_readOne 0 = .ok (.iload_n 1, 1) := by decide +kernel
theorem dX5_readOne_1 : decode cX5_readOne 1 = .ok (.bipush 8, 2) := by decide +kernel
theorem dX5_readOne_3 : decode cX5_readOne 3 = .ok (.if_icmp .lt 9, 3) := by decide +kernel
theorem dX5_readOne_6 : decode cX5_readOne 6 = .ok (.aload_n 0, 1) := by decide +kernel
theorem dX5_readOne_7 : decode cX5_readOne 7 = .ok (.iconst 2, 1) := by decide +kernel
theorem dX5_readOne_8 : decode cX5_readOne 8 = .ok (.invokevirtual 43, 3) := by decide +kernel
theorem dX5_readOne_11 : decode cX5_readOne 11 = .ok (.ireturn, 1) := by decide +kernel
theorem dX5_readOne_12 : decode cX5_readOne 12 = .ok (.aload_n 0, 1) := by decide +kernel
theorem dX5_readOne_13 : decode cX5_readOne 13 = .ok (.getfield 9, 3) := by decide +kernel
theorem dX5_readOne_16 : decode cX5_readOne 16 = .ok (.invokevirtual 39, 3) := by decide +kernel
theorem dX5_readOne_19 : decode cX5_readOne 19 = .ok (.bipush 18, 2) := by decide +kernel
theorem dX5_readOne_21 : decode cX5_readOne 21 = .ok (.if_icmp .eq 9, 3) := by decide +kernel
theorem dX5_readOne_24 : decode cX5_readOne 24 = .ok (.aload_n 0, 1) := by decide +kernel
theorem dX5_readOne_25 : decode cX5_readOne 25 = .ok (.iload_n 1, 1) := by decide +kernel
theorem dX5_readOne_26 : decode cX5_readOne 26 = .ok (.invokevirtual 71, 3) := by decide +kernel
theorem dX5_readOne_29 : decode cX5_readOne 29 = .ok (.ireturn, 1) := by decide +kernel
theorem dX5_readOne_30 : decode cX5_readOne 30 = .ok (.aload_n 0, 1) := by decide +kernel
theorem dX5_readOne_31 : decode cX5_readOne 31 = .ok (.getfield 9, 3) := by decide +kernel
theorem dX5_readOne_34 : decode cX5_readOne 34 = .ok (.invokevirtual 51, 3) := by decide +kernel
theorem dX5_readOne_37 : decode cX5_readOne 37 = .ok (.aload_n 0, 1) := by decide +kernel
theorem dX5_readOne_38 : decode cX5_readOne 38 = .ok (.iload_n 1, 1) := by decide +kernel
theorem dX5_readOne_39 : decode cX5_readOne 39 = .ok (.iconst 1, 1) := by decide +kernel
theorem dX5_readOne_40 : decode cX5_readOne 40 = .ok (.iadd, 1) := by decide +kernel
theorem dX5_readOne_41 : decode cX5_readOne 41 = .ok (.invokevirtual 68, 3) := by decide +kernel
theorem dX5_readOne_44 : decode cX5_readOne 44 = .ok (.ifCond .ne 5, 3) := by decide +kernel
theorem dX5_readOne_47 : decode cX5_readOne 47 = .ok (.iconst 0, 1) := by decide +kernel
theorem dX5_readOne_48 : decode cX5_readOne 48 = .ok (.ireturn, 1) := by decide +kernel
theorem dX5_readOne_49 : decode cX5_readOne 49 = .ok (.aload_n 0, 1) := by decide +kernel
theorem dX5_readOne_50 : decode cX5_readOne 50 = .ok (.getfield 15, 3) := by decide +kernel
theorem dX5_readOne_53 : decode cX5_readOne 53 = .ok (.bipush 18, 2) := by decide +kernel
theorem dX5_readOne_55 : decode cX5_readOne 55 = .ok (.invokevirtual 64, 3) := by decide +kernel
theorem dX5_readOne_58 : decode cX5_readOne 58 = .ok (.iconst 1, 1) := by decide +kernel
theorem dX5_readOne_59 : decode cX5_readOne 59 = .ok (.ireturn, 1) := by decide +kernel
theorem dX5_readComparison_0 : decode cX5_readComparison 0 = .ok (.aload_n 0, 1) := by decide +kernel
theorem dX5_readComparison_1 : decode cX5_readComparison 1 = .ok (.iload_n 1, 1) := by decide +kernel
theorem dX5_readComparison_2 : decode cX5_readComparison 2 = .ok (.invokevirtual 74, 3) := by decide +kernel
theorem dX5_readComparison_5 : decode cX5_readComparison 5 = .ok (.ifCond .ne 5, 3) := by decide +kernel
theorem dX5_readComparison_8 : decode cX5_readComparison 8 = .ok (.iconst 0, 1) := by decide +kernel
theorem dX5_readComparison_9 : decode cX5_readComparison 9 = .ok (.ireturn, 1) := by decide +kernel
theorem dX5_readComparison_10 : decode cX5_readComparison 10 = .ok (.aload_n 0, 1) := by decide +kernel
theorem dX5_readComparison_11 : decode cX5_readComparison 11 = .ok (.getfield 9, 3) := by decide +kernel
theorem dX5_readComparison_14 : decode cX5_readComparison 14 = .ok (.invokevirtual 39, 3) := by decide +kernel
theorem dX5_readComparison_17 : decode cX5_readComparison 17 = .ok (.istore_n 2, 1) := by decide +kernel
theorem dX5_readComparison_18 : decode cX5_readComparison 18 = .ok (.iload_n 2, 1) := by decide +kernel
theorem dX5_readComparison_19 : decode cX5_readComparison 19 = .ok (.bipush 61, 2) := by decide +kernel
theorem dX5_readComparison_21 : decode cX5_readComparison 21 = .ok (.if_icmp .eq 17, 3) := by decide +kernel
theorem dX5_readComparison_24 : decode cX5_readComparison 24 = .ok (.iload_n 2, 1) := by decide +kernel
theorem dX5_readComparison_25 : decode cX5_readComparison 25 = .ok (.bipush 60, 2) := by decide +kernel
theorem dX5_readComparison_27 : decode cX5_readComparison 27 = .ok (.if_icmp .eq 11, 3) := by decide +kernel
theorem dX5_readComparison_30 : decode cX5_readComparison 30 = .ok (.iload_n 2, 1) := by decide +kernel
theorem dX5_readComparison_31 : decode cX5_readComparison 31 = .ok (.bipush 62, 2) := by decide +kernel
theorem dX5_readComparison_33 : decode cX5_readComparison 33 = .ok (.if_icmp .eq 5, 3) := by decide +kernel
theorem dX5_readComparison_36 : decode cX5_readComparison 36 = .ok (.iconst 1, 1) := by decide +kernel
theorem dX5_readComparison_37 : decode cX5_readComparison 37 = .ok (.ireturn, 1) := by decide +kernel
theorem dX5_readComparison_38 : decode cX5_readComparison 38 = .ok (.aload_n 0, 1) := by decide +kernel
theorem dX5_readComparison_39 : decode cX5_readComparison 39 = .ok (.getfield 9, 3) := by decide +kernel
theorem dX5_readComparison_42 : decode cX5_readComparison 42 = .ok (.invokevirtual 51, 3) := by decide +kernel
theorem dX5_readComparison_45 : decode cX5_readComparison 45 = .ok (.aload_n 0, 1) := by decide +kernel
theorem dX5_readComparison_46 : decode cX5_readComparison 46 = .ok (.iload_n 1, 1) := by decide +kernel
theorem dX5_readComparison_47 : decode cX5_readComparison 47 = .ok (.invokevirtual 74, 3) := by decide +kernel
theorem dX5_readComparison_50 : decode cX5_readComparison 50 = .ok (.ifCond .ne 5, 3) := by decide +kernel
theorem dX5_readComparison_53 : decode cX5_readComparison 53 = .ok (.iconst 0, 1) := by decide +kernel
theorem dX5_readComparison_54 : decode cX5_readComparison 54 = .ok (.ireturn, 1) := by decide +kernel
theorem dX5_readComparison_55 : decode cX5_readComparison 55 = .ok (.aload_n 0, 1) := by decide +kernel
theorem dX5_readComparison_56 : decode cX5_readComparison 56 = .ok (.getfield 15, 3) := by decide +kernel
theorem dX5_readComparison_59 : decode cX5_readComparison 59 = .ok (.iload_n 2, 1) := by decide +kernel
theorem dX5_readComparison_60 : decode cX5_readComparison 60 = .ok (.invokevirtual 64, 3) := by decide +kernel
theorem dX5_readComparison_63 : decode cX5_readComparison 63 = .ok (.iconst 1, 1) := by decide +kernel
theorem dX5_readComparison_64 : decode cX5_readComparison 64 = .ok (.ireturn, 1) := by decide +kernel
theorem dX5_readSum_0 : decode cX5_readSum 0 = .ok (.aload_n 0, 1) := by decide +kernel
theorem dX5_readSum_1 : decode cX5_readSum 1 = .ok (.iload_n 1, 1) := by decide +kernel
theorem dX5_readSum_2 : decode cX5_readSum 2 = .ok (.invokevirtual 77, 3) := by decide +kernel
theorem dX5_readSum_5 : decode cX5_readSum 5 = .ok (.ifCond .ne 5, 3) := by decide +kernel
theorem dX5_readSum_8 : decode cX5_readSum 8 = .ok (.iconst 0, 1) := by decide +kernel
theorem dX5_readSum_9 : decode cX5_readSum 9 = .ok (.ireturn, 1) := by decide +kernel
theorem dX5_readSum_10 : decode cX5_readSum 10 = .ok (.iconst 0, 1) := by decide +kernel
theorem dX5_readSum_11 : decode cX5_readSum 11 = .ok (.istore_n 2, 1) := by decide +kernel
theorem dX5_readSum_12 : decode cX5_readSum 12 = .ok (.iload_n 2, 1) := by decide +kernel
theorem dX5_readSum_13 : decode cX5_readSum 13 = .ok (.sipush 1000, 3) := by decide +kernel
theorem dX5_readSum_16 : decode cX5_readSum 16 = .ok (.if_icmp .ge 66, 3) := by decide +kernel
theorem dX5_readSum_19 : decode cX5_readSum 19 = .ok (.aload_n 0, 1) := by decide +kernel
theorem dX5_readSum_20 : decode cX5_readSum 20 = .ok (.getfield 9, 3) := by decide +kernel
theorem dX5_readSum_23 : decode cX5_readSum 23 = .ok (.invokevirtual 39, 3) := by decide +kernel
theorem dX5_readSum_26 : decode cX5_readSum 26 = .ok (.bipush 43, 2) := by decide +kernel
theorem dX5_readSum_28 : decode cX5_readSum 28 = .ok (.if_icmp .eq 15, 3) := by decide +kernel
theorem dX5_readSum_31 : decode cX5_readSum 31 = .ok (.aload_n 0, 1) := by decide +kernel
theorem dX5_readSum_32 : decode cX5_readSum 32 = .ok (.getfield 9, 3) := by decide +kernel
theorem dX5_readSum_35 : decode cX5_readSum 35 = .ok (.invokevirtual 39, 3) := by decide +kernel
theorem dX5_readSum_38 : decode cX5_readSum 38 = .ok (.bipush 45, 2) := by decide +kernel
theorem dX5_readSum_40 : decode cX5_readSum 40 = .ok (.if_icmp .ne 42, 3) := by decide +kernel
theorem dX5_readSum_43 : decode cX5_readSum 43 = .ok (.aload_n 0, 1) := by decide +kernel
theorem dX5_readSum_44 : decode cX5_readSum 44 = .ok (.getfield 9, 3) := by decide +kernel
theorem dX5_readSum_47 : decode cX5_readSum 47 = .ok (.invokevirtual 39, 3) := by decide +kernel
theorem dX5_readSum_50 : decode cX5_readSum 50 = .ok (.istore_n 3, 1) := by decide +kernel
theorem dX5_readSum_51 : decode cX5_readSum 51 = .ok (.aload_n 0, 1) := by decide +kernel
theorem dX5_readSum_52 : decode cX5_readSum 52 = .ok (.getfield 9, 3) := by decide +kernel
theorem dX5_readSum_55 : decode cX5_readSum 55 = .ok (.invokevirtual 51, 3) := by decide +kernel
theorem dX5_readSum_58 : decode cX5_readSum 58 = .ok (.aload_n 0, 1) := by decide +kernel
theorem dX5_readSum_59 : decode cX5_readSum 59 = .ok (.iload_n 1, 1) := by decide +kernel
theorem dX5_readSum_60 : decode cX5_readSum 60 = .ok (.invokevirtual 77, 3) := by decide +kernel
theorem dX5_readSum_63 : decode cX5_readSum 63 = .ok (.ifCond .ne 5, 3) := by decide +kernel
theorem dX5_readSum_66 : decode cX5_readSum 66 = .ok (.iconst 0, 1) := by decide +kernel
theorem dX5_readSum_67 : decode cX5_readSum 67 = .ok (.ireturn, 1) := by decide +kernel
theorem dX5_readSum_68 : decode cX5_readSum 68 = .ok (.aload_n 0, 1) := by decide +kernel
theorem dX5_readSum_69 : decode cX5_readSum 69 = .ok (.getfield 15, 3) := by decide +kernel
theorem dX5_readSum_72 : decode cX5_readSum 72 = .ok (.iload_n 3, 1) := by decide +kernel
theorem dX5_readSum_73 : decode cX5_readSum 73 = .ok (.invokevirtual 64, 3) := by decide +kernel
theorem dX5_readSum_76 : decode cX5_readSum 76 = .ok (.iinc 2 1, 3) := by decide +kernel
theorem dX5_readSum_79 : decode cX5_readSum 79 = .ok (.goto (-67), 3) := by decide +kernel
theorem dX5_readSum_82 : decode cX5_readSum 82 = .ok (.iconst 1, 1) := by decide +kernel
theorem dX5_readSum_83 : decode cX5_readSum 83 = .ok (.ireturn, 1) := by decide +kernel
theorem dX5_readTerm_0 : decode cX5_readTerm 0 = .ok (.aload_n 0, 1) := by decide +kernel
theorem dX5_readTerm_1 : decode cX5_readTerm 1 = .ok (.getfield 9, 3) := by decide +kernel
theorem dX5_readTerm_4 : decode cX5_readTerm 4 = .ok (.invokevirtual 39, 3) := by decide +kernel
theorem dX5_readTerm_7 : decode cX5_readTerm 7 = .ok (.istore_n 2, 1) := by decide +kernel
theorem dX5_readTerm_8 : decode cX5_readTerm 8 = .ok (.iload_n 2, 1) := by decide +kernel
theorem dX5_readTerm_9 : decode cX5_readTerm 9 = .ok (.iconst 2, 1) := by decide +kernel
theorem dX5_readTerm_10 : decode cX5_readTerm 10 = .ok (.if_icmp .eq 8, 3) := by decide +kernel
theorem dX5_readTerm_13 : decode cX5_readTerm 13 = .ok (.iload_n 2, 1) := by decide +kernel
theorem dX5_readTerm_14 : decode cX5_readTerm 14 = .ok (.iconst 3, 1) := by decide +kernel
theorem dX5_readTerm_15 : decode cX5_readTerm 15 = .ok (.if_icmp .ne 12, 3) := by decide +kernel
theorem dX5_readTerm_18 : decode cX5_readTerm 18 = .ok (.aload_n 0, 1) := by decide +kernel
theorem dX5_readTerm_19 : decode cX5_readTerm 19 = .ok (.invokevirtual 80, 3) := by decide +kernel
theorem dX5_readTerm_22 : decode cX5_readTerm 22 = .ok (.ifCond .ne 54, 3) := by decide +kernel
theorem dX5_readTerm_25 : decode cX5_readTerm 25 = .ok (.iconst 0, 1) := by decide +kernel
theorem dX5_readTerm_26 : decode cX5_readTerm 26 = .ok (.ireturn, 1) := by decide +kernel
theorem dX5_readTerm_27 : decode cX5_readTerm 27 = .ok (.iload_n 2, 1) := by decide +kernel
theorem dX5_readTerm_28 : decode cX5_readTerm 28 = .ok (.bipush 40, 2) := by decide +kernel
theorem dX5_readTerm_30 : decode cX5_readTerm 30 = .ok (.if_icmp .ne 40, 3) := by decide +kernel
theorem dX5_readTerm_33 : decode cX5_readTerm 33 = .ok (.aload_n 0, 1) := by decide +kernel
theorem dX5_readTerm_34 : decode cX5_readTerm 34 = .ok (.getfield 9, 3) := by decide +kernel
theorem dX5_readTerm_37 : decode cX5_readTerm 37 = .ok (.invokevirtual 51, 3) := by decide +kernel
theorem dX5_readTerm_40 : decode cX5_readTerm 40 = .ok (.aload_n 0, 1) := by decide +kernel
theorem dX5_readTerm_41 : decode cX5_readTerm 41 = .ok (.iload_n 1, 1) := by decide +kernel
theorem dX5_readTerm_42 : decode cX5_readTerm 42 = .ok (.iconst 1, 1) := by decide +kernel
theorem dX5_readTerm_43 : decode cX5_readTerm 43 = .ok (.iadd, 1) := by decide +kernel
theorem dX5_readTerm_44 : decode cX5_readTerm 44 = .ok (.invokevirtual 54, 3) := by decide +kernel
theorem dX5_readTerm_47 : decode cX5_readTerm 47 = .ok (.ifCond .ne 5, 3) := by decide +kernel
theorem dX5_readTerm_50 : decode cX5_readTerm 50 = .ok (.iconst 0, 1) := by decide +kernel
theorem dX5_readTerm_51 : decode cX5_readTerm 51 = .ok (.ireturn, 1) := by decide +kernel
theorem dX5_readTerm_52 : decode cX5_readTerm 52 = .ok (.aload_n 0, 1) := by decide +kernel
theorem dX5_readTerm_53 : decode cX5_readTerm 53 = .ok (.getfield 9, 3) := by decide +kernel
theorem dX5_readTerm_56 : decode cX5_readTerm 56 = .ok (.invokevirtual 39, 3) := by decide +kernel
theorem dX5_readTerm_59 : decode cX5_readTerm 59 = .ok (.bipush 41, 2) := by decide +kernel
theorem dX5_readTerm_61 : decode cX5_readTerm 61 = .ok (.if_icmp .eq 15, 3) := by decide +kernel
theorem dX5_readTerm_64 : decode cX5_readTerm 64 = .ok (.aload_n 0, 1) := by decide +kernel
theorem dX5_readTerm_65 : decode cX5_readTerm 65 = .ok (.iconst 2, 1) := by decide +kernel
theorem dX5_readTerm_66 : decode cX5_readTerm 66 = .ok (.invokevirtual 43, 3) := by decide +kernel
theorem dX5_readTerm_69 : decode cX5_readTerm 69 = .ok (.ireturn, 1) := by decide +kernel
theorem dX5_readTerm_70 : decode cX5_readTerm 70 = .ok (.aload_n 0, 1) := by decide +kernel
theorem dX5_readTerm_71 : decode cX5_readTerm 71 = .ok (.iconst 2, 1) := by decide +kernel
theorem dX5_readTerm_72 : decode cX5_readTerm 72 = .ok (.invokevirtual 43, 3) := by decide +kernel
theorem dX5_readTerm_75 : decode cX5_readTerm 75 = .ok (.ireturn, 1) := by decide +kernel
theorem dX5_readTerm_76 : decode cX5_readTerm 76 = .ok (.aload_n 0, 1) := by decide +kernel
theorem dX5_readTerm_77 : decode cX5_readTerm 77 = .ok (.getfield 9, 3) := by decide +kernel
theorem dX5_readTerm_80 : decode cX5_readTerm 80 = .ok (.invokevirtual 51, 3) := by decide +kernel
theorem dX5_readTerm_83 : decode cX5_readTerm 83 = .ok (.iconst 1, 1) := by decide +kernel
theorem dX5_readTerm_84 : decode cX5_readTerm 84 = .ok (.ireturn, 1) := by decide +kernel
theorem dX5_takeOperand_0 : decode cX5_takeOperand 0 = .ok (.aload_n 0, 1) := by decide +kernel
theorem dX5_takeOperand_1 : decode cX5_takeOperand 1 = .ok (.getfield 26, 3) := by decide +kernel
theorem dX5_takeOperand_4 : decode cX5_takeOperand 4 = .ok (.bipush 120, 2) := by decide +kernel
theorem dX5_takeOperand_6 : decode cX5_takeOperand 6 = .ok (.if_icmp .lt 9, 3) := by decide +kernel
theorem dX5_takeOperand_9 : decode cX5_takeOperand 9 = .ok (.aload_n 0, 1) := by decide +kernel
theorem dX5_takeOperand_10 : decode cX5_takeOperand 10 = .ok (.iconst 2, 1) := by decide +kernel
theorem dX5_takeOperand_11 : decode cX5_takeOperand 11 = .ok (.invokevirtual 43, 3) := by decide +kernel
theorem dX5_takeOperand_14 : decode cX5_takeOperand 14 = .ok (.ireturn, 1) := by decide +kernel
theorem dX5_takeOperand_15 : decode cX5_takeOperand 15 = .ok (.aload_n 0, 1) := by decide +kernel
theorem dX5_takeOperand_16 : decode cX5_takeOperand 16 = .ok (.dup, 1) := by decide +kernel
theorem dX5_takeOperand_17 : decode cX5_takeOperand 17 = .ok (.getfield 26, 3) := by decide +kernel
theorem dX5_takeOperand_20 : decode cX5_takeOperand 20 = .ok (.iconst 1, 1) := by decide +kernel
theorem dX5_takeOperand_21 : decode cX5_takeOperand 21 = .ok (.iadd, 1) := by decide +kernel
theorem dX5_takeOperand_22 : decode cX5_takeOperand 22 = .ok (.putfield 26, 3) := by decide +kernel
theorem dX5_takeOperand_25 : decode cX5_takeOperand 25 = .ok (.aload_n 0, 1) := by decide +kernel
theorem dX5_takeOperand_26 : decode cX5_takeOperand 26 = .ok (.getfield 9, 3) := by decide +kernel
theorem dX5_takeOperand_29 : decode cX5_takeOperand 29 = .ok (.invokevirtual 84, 3) := by decide +kernel
theorem dX5_takeOperand_32 : decode cX5_takeOperand 32 = .ok (.istore_n 1, 1) := by decide +kernel
theorem dX5_takeOperand_33 : decode cX5_takeOperand 33 = .ok (.aload_n 0, 1) := by decide +kernel
theorem dX5_takeOperand_34 : decode cX5_takeOperand 34 = .ok (.getfield 9, 3) := by decide +kernel
theorem dX5_takeOperand_37 : decode cX5_takeOperand 37 = .ok (.invokevirtual 39, 3) := by decide +kernel
theorem dX5_takeOperand_40 : decode cX5_takeOperand 40 = .ok (.iconst 2, 1) := by decide +kernel
theorem dX5_takeOperand_41 : decode cX5_takeOperand 41 = .ok (.if_icmp .ne 16, 3) := by decide +kernel
theorem dX5_takeOperand_44 : decode cX5_takeOperand 44 = .ok (.aload_n 0, 1) := by decide +kernel
theorem dX5_takeOperand_45 : decode cX5_takeOperand 45 = .ok (.getfield 15, 3) := by decide +kernel
theorem dX5_takeOperand_48 : decode cX5_takeOperand 48 = .ok (.bipush 100, 2) := by decide +kernel
theorem dX5_takeOperand_50 : decode cX5_takeOperand 50 = .ok (.iload_n 1, 1) := by decide +kernel
theorem dX5_takeOperand_51 : decode cX5_takeOperand 51 = .ok (.iadd, 1) := by decide +kernel
theorem dX5_takeOperand_52 : decode cX5_takeOperand 52 = .ok (.invokevirtual 64, 3) := by decide +kernel
theorem dX5_takeOperand_55 : decode cX5_takeOperand 55 = .ok (.iconst 1, 1) := by decide +kernel
theorem dX5_takeOperand_56 : decode cX5_takeOperand 56 = .ok (.ireturn, 1) := by decide +kernel
theorem dX5_takeOperand_57 : decode cX5_takeOperand 57 = .ok (.iload_n 1, 1) := by decide +kernel
theorem dX5_takeOperand_58 : decode cX5_takeOperand 58 = .ok (.iconst (-1), 1) := by decide +kernel
theorem dX5_takeOperand_59 : decode cX5_takeOperand 59 = .ok (.if_icmp .eq 21, 3) := by decide +kernel
theorem dX5_takeOperand_62 : decode cX5_takeOperand 62 = .ok (.iload_n 1, 1) := by decide +kernel
theorem dX5_takeOperand_63 : decode cX5_takeOperand 63 = .ok (.aload_n 0, 1) := by decide +kernel
theorem dX5_takeOperand_64 : decode cX5_takeOperand 64 = .ok (.getfield 47, 3) := by decide +kernel
theorem dX5_takeOperand_67 : decode cX5_takeOperand 67 = .ok (.ifCond .eq 8, 3) := by decide +kernel
theorem dX5_takeOperand_70 : decode cX5_takeOperand 70 = .ok (.bipush 14, 2) := by decide +kernel
theorem dX5_takeOperand_72 : decode cX5_takeOperand 72 = .ok (.goto 5, 3) := by decide +kernel
theorem dX5_takeOperand_75 : decode cX5_takeOperand 75 = .ok (.bipush 8, 2) := by decide +kernel
theorem dX5_takeOperand_77 : decode cX5_takeOperand 77 = .ok (.if_icmp .lt 9, 3) := by decide +kernel
theorem dX5_takeOperand_80 : decode cX5_takeOperand 80 = .ok (.aload_n 0, 1) := by decide +kernel
theorem dX5_takeOperand_81 : decode cX5_takeOperand 81 = .ok (.iconst 3, 1) := by decide +kernel
theorem dX5_takeOperand_82 : decode cX5_takeOperand 82 = .ok (.invokevirtual 43, 3) := by decide +kernel
theorem dX5_takeOperand_85 : decode cX5_takeOperand 85 = .ok (.ireturn, 1) := by decide +kernel
theorem dX5_takeOperand_86 : decode cX5_takeOperand 86 = .ok (.aload_n 0, 1) := by decide +kernel
theorem dX5_takeOperand_87 : decode cX5_takeOperand 87 = .ok (.getfield 15, 3) := by decide +kernel
theorem dX5_takeOperand_90 : decode cX5_takeOperand 90 = .ok (.iload_n 1, 1) := by decide +kernel
theorem dX5_takeOperand_91 : decode cX5_takeOperand 91 = .ok (.invokevirtual 64, 3) := by decide +kernel
theorem dX5_takeOperand_94 : decode cX5_takeOperand 94 = .ok (.iconst 1, 1) := by decide +kernel
theorem dX5_takeOperand_95 : decode cX5_takeOperand 95 = .ok (.ireturn, 1) := by decide +kernel
theorem dX5_refuse_0 : decode cX5_refuse 0 = .ok (.aload_n 0, 1) := by decide +kernel
theorem dX5_refuse_1 : decode cX5_refuse 1 = .ok (.aload_n 0, 1) := by decide +kernel
theorem dX5_refuse_2 : decode cX5_refuse 2 = .ok (.getfield 9, 3) := by decide +kernel
theorem dX5_refuse_5 : decode cX5_refuse 5 = .ok (.invokevirtual 39, 3) := by decide +kernel
theorem dX5_refuse_8 : decode cX5_refuse 8 = .ok (.iconst 1, 1) := by decide +kernel
theorem dX5_refuse_9 : decode cX5_refuse 9 = .ok (.if_icmp .ne 7, 3) := by decide +kernel
theorem dX5_refuse_12 : decode cX5_refuse 12 = .ok (.iconst 1, 1) := by decide +kernel
theorem dX5_refuse_13 : decode cX5_refuse 13 = .ok (.goto 4, 3) := by decide +kernel
theorem dX5_refuse_16 : decode cX5_refuse 16 = .ok (.iload_n 1, 1) := by decide +kernel
theorem dX5_refuse_17 : decode cX5_refuse 17 = .ok (.putfield 23, 3) := by decide +kernel
theorem dX5_refuse_20 : decode cX5_refuse 20 = .ok (.aload_n 0, 1) := by decide +kernel
theorem dX5_refuse_21 : decode cX5_refuse 21 = .ok (.aload_n 0, 1) := by decide +kernel
theorem dX5_refuse_22 : decode cX5_refuse 22 = .ok (.getfield 9, 3) := by decide +kernel
theorem dX5_refuse_25 : decode cX5_refuse 25 = .ok (.invokevirtual 87, 3) := by decide +kernel
theorem dX5_refuse_28 : decode cX5_refuse 28 = .ok (.putfield 19, 3) := by decide +kernel
theorem dX5_refuse_31 : decode cX5_refuse 31 = .ok (.iconst 0, 1) := by decide +kernel
theorem dX5_refuse_32 : decode cX5_refuse 32 = .ok (.ireturn, 1) := by decide +kernel
theorem dX6_init_0 : decode cX6_init 0 = .ok (.aload_n 0, 1) := by decide +kernel
theorem dX6_init_1 : decode cX6_init 1 = .ok (.invokespecial 3, 3) := by decide +kernel
theorem dX6_init_4 : decode cX6_init 4 = .ok (.aload_n 0, 1) := by decide +kernel
theorem dX6_init_5 : decode cX6_init 5 = .ok (.bipush 12, 2) := by decide +kernel
theorem dX6_init_7 : decode cX6_init 7 = .ok (.newarray .int, 2) := by decide +kernel
theorem dX6_init_9 : decode cX6_init 9 = .ok (.putfield 9, 3) := by decide +kernel
theorem dX6_init_12 : decode cX6_init 12 = .ok (.aload_n 0, 1) := by decide +kernel
theorem dX6_init_13 : decode cX6_init 13 = .ok (.sipush 288, 3) := by decide +kernel
theorem dX6_init_16 : decode cX6_init 16 = .ok (.newarray .int, 2) := by decide +kernel
theorem dX6_init_18 : decode cX6_init 18 = .ok (.putfield 15, 3) := by decide +kernel
theorem dX6_init_21 : decode cX6_init 21 = .ok (.aload_n 0, 1) := by decide +kernel
theorem dX6_init_22 : decode cX6_init 22 = .ok (.sipush 1728, 3) := by decide +kernel
theorem dX6_init_25 : decode cX6_init 25 = .ok (.newarray .int, 2) := by decide +kernel
theorem dX6_init_27 : decode cX6_init 27 = .ok (.putfield 18, 3) := by decide +kernel
theorem dX6_init_30 : decode cX6_init 30 = .ok (.aload_n 0, 1) := by decide +kernel
theorem dX6_init_31 : decode cX6_init 31 = .ok (.aload_n 1, 1) := by decide +kernel
theorem dX6_init_32 : decode cX6_init 32 = .ok (.putfield 21, 3) := by decide +kernel
theorem dX6_init_35 : decode cX6_init 35 = .ok (.aload_n 0, 1) := by decide +kernel
theorem dX6_init_36 : decode cX6_init 36 = .ok (.aload_n 2, 1) := by decide +kernel
theorem dX6_init_37 : decode cX6_init 37 = .ok (.putfield 25, 3) := by decide +kernel
theorem dX6_init_40 : decode cX6_init 40 = .ok (.aload_n 0, 1) := by decide +kernel
theorem dX6_init_41 : decode cX6_init 41 = .ok (.aload_n 3, 1) := by decide +kernel
theorem dX6_init_42 : decode cX6_init 42 = .ok (.putfield 29, 3) := by decide +kernel
theorem dX6_init_45 : decode cX6_init 45 = .ok (.return_, 1) := by decide +kernel
theorem dX6_triesMade_0 : decode cX6_triesMade 0 = .ok (.aload_n 0, 1) := by decide +kernel
theorem dX6_triesMade_1 : decode cX6_triesMade 1 = .ok (.getfield 33, 3) := by decide +kernel
theorem dX6_triesMade_4 : decode cX6_triesMade 4 = .ok (.ireturn, 1) := by decide +kernel
theorem dX6_hasPlan_0 : decode cX6_hasPlan 0 = .ok (.aload_n 0, 1) := by decide +kernel
theorem dX6_hasPlan_1 : decode cX6_hasPlan 1 = .ok (.getfield 37, 3) := by decide +kernel
theorem dX6_hasPlan_4 : decode cX6_hasPlan 4 = .ok (.ireturn, 1) := by decide +kernel
theorem dX6_spotOf_0 : decode cX6_spotOf 0 = .ok (.aload_n 0, 1) := by decide +kernel
theorem dX6_spotOf_1 : decode cX6_spotOf 1 = .ok (.getfield 37, 3) := by decide +kernel
theorem dX6_spotOf_4 : decode cX6_spotOf 4 = .ok (.ifCond .eq 12, 3) := by decide +kernel
theorem dX6_spotOf_7 : decode cX6_spotOf 7 = .ok (.aload_n 0, 1) := by decide +kernel
theorem dX6_spotOf_8 : decode cX6_spotOf 8 = .ok (.getfield 9, 3) := by decide +kernel
theorem dX6_spotOf_11 : decode cX6_spotOf 11 = .ok (.iload_n 1, 1) := by decide +kernel
theorem dX6_spotOf_12 : decode cX6_spotOf 12 = .ok (.iaload, 1) := by decide +kernel
theorem dX6_spotOf_13 : decode cX6_spotOf 13 = .ok (.goto 4, 3) := by decide +kernel
theorem dX6_spotOf_16 : decode cX6_spotOf 16 = .ok (.iconst (-1), 1) := by decide +kernel
theorem dX6_spotOf_17 : decode cX6_spotOf 17 = .ok (.ireturn, 1) := by decide +kernel
theorem dX6_forget_0 : decode cX6_forget 0 = .ok (.aload_n 0, 1) := by decide +kernel
theorem dX6_forget_1 : decode cX6_forget 1 = .ok (.iconst 0, 1) := by decide +kernel
theorem dX6_forget_2 : decode cX6_forget 2 = .ok (.putfield 37, 3) := by decide +kernel
theorem dX6_forget_5 : decode cX6_forget 5 = .ok (.return_, 1) := by decide +kernel
theorem dX6_look_0 : decode cX6_look 0 = .ok (.aload_n 0, 1) := by decide +kernel
theorem dX6_look_1 : decode cX6_look 1 = .ok (.iload_n 1, 1) := by decide +kernel
theorem dX6_look_2 : decode cX6_look 2 = .ok (.putfield 41, 3) := by decide +kernel
theorem dX6_look_5 : decode cX6_look 5 = .ok (.aload_n 0, 1) := by decide +kernel
theorem dX6_look_6 : decode cX6_look 6 = .ok (.iconst 0, 1) := by decide +kernel
theorem dX6_look_7 : decode cX6_look 7 = .ok (.putfield 33, 3) := by decide +kernel
theorem dX6_look_10 : decode cX6_look 10 = .ok (.aload_n 0, 1) := by decide +kernel
theorem dX6_look_11 : decode cX6_look 11 = .ok (.getfield 9, 3) := by decide +kernel
theorem dX6_look_14 : decode cX6_look 14 = .ok (.iconst (-1), 1) := by decide +kernel
theorem dX6_look_15 : decode cX6_look 15 = .ok (.invokestatic 44, 3) := by decide +kernel
theorem dX6_look_18 : decode cX6_look 18 = .ok (.aload_n 0, 1) := by decide +kernel
theorem dX6_look_19 : decode cX6_look 19 = .ok (.getfield 15, 3) := by decide +kernel
theorem dX6_look_22 : decode cX6_look 22 = .ok (.iconst 0, 1) := by decide +kernel
theorem dX6_look_23 : decode cX6_look 23 = .ok (.invokestatic 44, 3) := by decide +kernel
theorem dX6_look_26 : decode cX6_look 26 = .ok (.aload_n 0, 1) := by decide +kernel
theorem dX6_look_27 : decode cX6_look 27 = .ok (.getfield 18, 3) := by decide +kernel
theorem dX6_look_30 : decode cX6_look 30 = .ok (.iconst 0, 1) := by decide +kernel
theorem dX6_look_31 : decode cX6_look 31 = .ok (.invokestatic 44, 3) := by decide +kernel
theorem dX6_look_34 : decode cX6_look 34 = .ok (.aload_n 0, 1) := by decide +kernel
theorem dX6_look_35 : decode cX6_look 35 = .ok (.iconst 0, 1) := by decide +kernel
theorem dX6_look_36 : decode cX6_look 36 = .ok (.invokevirtual 50, 3) := by decide +kernel
theorem dX6_look_39 : decode cX6_look 39 = .ok (.istore_n 2, 1) := by decide +kernel
theorem dX6_look_40 : decode cX6_look 40 = .ok (.aload_n 0, 1) := by decide +kernel
theorem dX6_look_41 : decode cX6_look 41 = .ok (.iload_n 2, 1) := by decide +kernel
theorem dX6_look_42 : decode cX6_look 42 = .ok (.iconst 1, 1) := by decide +kernel
theorem dX6_look_43 : decode cX6_look 43 = .ok (.if_icmp .ne 7, 3) := by decide +kernel
theorem dX6_look_46 : decode cX6_look 46 = .ok (.iconst 1, 1) := by decide +kernel
theorem dX6_look_47 : decode cX6_look 47 = .ok (.goto 4, 3) := by decide +kernel
theorem dX6_look_50 : decode cX6_look 50 = .ok (.iconst 0, 1) := by decide +kernel
theorem dX6_look_51 : decode cX6_look 51 = .ok (.putfield 37, 3) := by decide +kernel
theorem dX6_look_54 : decode cX6_look 54 = .ok (.iload_n 2, 1) := by decide +kernel
theorem dX6_look_55 : decode cX6_look 55 = .ok (.ireturn, 1) := by decide +kernel
theorem dX6_place_0 : decode cX6_place 0 = .ok (.iload_n 1, 1) := by decide +kernel
theorem dX6_place_1 : decode cX6_place 1 = .ok (.aload_n 0, 1) := by decide +kernel
theorem dX6_place_2 : decode cX6_place 2 = .ok (.getfield 21, 3) := by decide +kernel
theorem dX6_place_5 : decode cX6_place 5 = .ok (.invokevirtual 54, 3) := by decide +kernel
theorem dX6_place_8 : decode cX6_place 8 = .ok (.if_icmp .lt 5, 3) := by decide +kernel
theorem dX6_place_11 : decode cX6_place 11 = .ok (.iconst 1, 1) := by decide +kernel
theorem dX6_place_12 : decode cX6_place 12 = .ok (.ireturn, 1) := by decide +kernel
theorem dX6_place_13 : decode cX6_place 13 = .ok (.aload_n 0, 1) := by decide +kernel
theorem dX6_place_14 : decode cX6_place 14 = .ok (.getfield 21, 3) := by decide +kernel
theorem dX6_place_17 : decode cX6_place 17 = .ok (.iload_n 1, 1) := by decide +kernel
theorem dX6_place_18 : decode cX6_place 18 = .ok (.invokevirtual 60, 3) := by decide +kernel
theorem dX6_place_21 : decode cX6_place 21 = .ok (.ifCond .eq 11, 3) := by decide +kernel
theorem dX6_place_24 : decode cX6_place 24 = .ok (.aload_n 0, 1) := by decide +kernel
theorem dX6_place_25 : decode cX6_place 25 = .ok (.iload_n 1, 1) := by decide +kernel
theorem dX6_place_26 : decode cX6_place 26 = .ok (.iconst 1, 1) := by decide +kernel
theorem dX6_place_27 : decode cX6_place 27 = .ok (.iadd, 1) := by decide +kernel
theorem dX6_place_28 : decode cX6_place 28 = .ok (.invokevirtual 50, 3) := by decide +kernel
theorem dX6_place_31 : decode cX6_place 31 = .ok (.ireturn, 1) := by decide +kernel
theorem dX6_place_32 : decode cX6_place 32 = .ok (.iconst 0, 1) := by decide +kernel
theorem dX6_place_33 : decode cX6_place 33 = .ok (.istore_n 2, 1) := by decide +kernel
theorem dX6_place_34 : decode cX6_place 34 = .ok (.iload_n 2, 1) := by decide +kernel
theorem dX6_place_35 : decode cX6_place 35 = .ok (.bipush 24, 2) := by decide +kernel
theorem dX6_place_37 : decode cX6_place 37 = .ok (.if_icmp .ge 69, 3) := by decide +kernel
theorem dX6_place_40 : decode cX6_place 40 = .ok (.aload_n 0, 1) := by decide +kernel
theorem dX6_place_41 : decode cX6_place 41 = .ok (.getfield 33, 3) := by decide +kernel
theorem dX6_place_44 : decode cX6_place 44 = .ok (.sipush 20000, 3) := by decide +kernel
theorem dX6_place_47 : decode cX6_place 47 = .ok (.if_icmp .lt 6, 3) := by decide +kernel
theorem dX6_place_50 : decode cX6_place 50 = .ok (.bipush (-2), 2) := by decide +kernel
theorem dX6_place_52 : decode cX6_place 52 = .ok (.ireturn, 1) := by decide +kernel
theorem dX6_place_53 : decode cX6_place 53 = .ok (.aload_n 0, 1) := by decide +kernel
theorem dX6_place_54 : decode cX6_place 54 = .ok (.dup, 1) := by decide +kernel
theorem dX6_place_55 : decode cX6_place 55 = .ok (.getfield 33, 3) := by decide +kernel
theorem dX6_place_58 : decode cX6_place 58 = .ok (.iconst 1, 1) := by decide +kernel
theorem dX6_place_59 : decode cX6_place 59 = .ok (.iadd, 1) := by decide +kernel
theorem dX6_place_60 : decode cX6_place 60 = .ok (.putfield 33, 3) := by decide +kernel
theorem dX6_place_63 : decode cX6_place 63 = .ok (.aload_n 0, 1) := by decide +kernel
theorem dX6_place_64 : decode cX6_place 64 = .ok (.iload_n 1, 1) := by decide +kernel
theorem dX6_place_65 : decode cX6_place 65 = .ok (.iload_n 2, 1) := by decide +kernel
theorem dX6_place_66 : decode cX6_place 66 = .ok (.invokevirtual 64, 3) := by decide +kernel
theorem dX6_place_69 : decode cX6_place 69 = .ok (.ifCond .eq 31, 3) := by decide +kernel
theorem dX6_place_72 : decode cX6_place 72 = .ok (.aload_n 0, 1) := by decide +kernel
theorem dX6_place_73 : decode cX6_place 73 = .ok (.getfield 9, 3) := by decide +kernel
theorem dX6_place_76 : decode cX6_place 76 = .ok (.iload_n 1, 1) := by decide +kernel
theorem dX6_place_77 : decode cX6_place 77 = .ok (.iload_n 2, 1) := by decide +kernel
theorem dX6_place_78 : decode cX6_place 78 = .ok (.iastore, 1) := by decide +kernel
theorem dX6_place_79 : decode cX6_place 79 = .ok (.aload_n 0, 1) := by decide +kernel
theorem dX6_place_80 : decode cX6_place 80 = .ok (.iload_n 1, 1) := by decide +kernel
theorem dX6_place_81 : decode cX6_place 81 = .ok (.iconst 1, 1) := by decide +kernel
theorem dX6_place_82 : decode cX6_place 82 = .ok (.iadd, 1) := by decide +kernel
theorem dX6_place_83 : decode cX6_place 83 = .ok (.invokevirtual 50, 3) := by decide +kernel
theorem dX6_place_86 : decode cX6_place 86 = .ok (.istore_n 3, 1) := by decide +kernel
theorem dX6_place_87 : decode cX6_place 87 = .ok (.iload_n 3, 1) := by decide +kernel
theorem dX6_place_88 : decode cX6_place 88 = .ok (.ifCond .eq 5, 3) := by decide +kernel
theorem dX6_place_91 : decode cX6_place 91 = .ok (.iload_n 3, 1) := by decide +kernel
theorem dX6_place_92 : decode cX6_place 92 = .ok (.ireturn, 1) := by decide +kernel
theorem dX6_place_93 : decode cX6_place 93 = .ok (.aload_n 0, 1) := by decide +kernel
theorem dX6_place_94 : decode cX6_place 94 = .ok (.getfield 9, 3) := by decide +kernel
theorem dX6_place_97 : decode cX6_place 97 = .ok (.iload_n 1, 1) := by decide +kernel
theorem dX6_place_98 : decode cX6_place 98 = .ok (.iconst (-1), 1) := by decide +kernel
theorem dX6_place_99 : decode cX6_place 99 = .ok (.iastore, 1) := by decide +kernel
theorem dX6_place_100 : decode cX6_place 100 = .ok (.iinc 2 1, 3) := by decide +kernel
theorem dX6_place_103 : decode cX6_place 103 = .ok (.goto (-69), 3) := by decide +kernel
theorem dX6_place_106 : decode cX6_place 106 = .ok (.iconst 0, 1) := by decide +kernel
theorem dX6_place_107 : decode cX6_place 107 = .ok (.ireturn, 1) := by decide +kernel
theorem dX6_fits_0 : decode cX6_fits 0 = .ok (.aload_n 0, 1) := by decide +kernel
theorem dX6_fits_1 : decode cX6_fits 1 = .ok (.iload_n 1, 1) := by decide +kernel
theorem dX6_fits_2 : decode cX6_fits 2 = .ok (.iload_n 2, 1) := by decide +kernel
theorem dX6_fits_3 : decode cX6_fits 3 = .ok (.invokevirtual 68, 3) := by decide +kernel
theorem dX6_fits_6 : decode cX6_fits 6 = .ok (.ifCond .ne 5, 3) := by decide +kernel
theorem dX6_fits_9 : decode cX6_fits 9 = .ok (.iconst 0, 1) := by decide +kernel
theorem dX6_fits_10 : decode cX6_fits 10 = .ok (.ireturn, 1) := by decide +kernel
theorem dX6_fits_11 : decode cX6_fits 11 = .ok (.aload_n 0, 1) := by decide +kernel
theorem dX6_fits_12 : decode cX6_fits 12 = .ok (.getfield 25, 3) := by decide +kernel
theorem dX6_fits_15 : decode cX6_fits 15 = .ok (.iload_n 2, 1) := by decide +kernel
theorem dX6_fits_16 : decode cX6_fits 16 = .ok (.invokestatic 71, 3) := by decide +kernel
theorem dX6_fits_19 : decode cX6_fits 19 = .ok (.invokevirtual 74, 3) := by decide +kernel
theorem dX6_fits_22 : decode cX6_fits 22 = .ok (.istore_n 3, 1) := by decide +kernel
theorem dX6_fits_23 : decode cX6_fits 23 = .ok (.iconst 0, 1) := by decide +kernel
theorem dX6_fits_24 : decode cX6_fits 24 = .ok (.istore 4, 2) := by decide +kernel
theorem dX6_fits_26 : decode cX6_fits 26 = .ok (.iload 4, 2) := by decide +kernel
theorem dX6_fits_28 : decode cX6_fits 28 = .ok (.iload_n 1, 1) := by decide +kernel
theorem dX6_fits_29 : decode cX6_fits 29 = .ok (.if_icmp .ge 70, 3) := by decide +kernel
theorem dX6_fits_32 : decode cX6_fits 32 = .ok (.aload_n 0, 1) := by decide +kernel
theorem dX6_fits_33 : decode cX6_fits 33 = .ok (.getfield 9, 3) := by decide +kernel
theorem dX6_fits_36 : decode cX6_fits 36 = .ok (.iload 4, 2) := by decide +kernel
theorem dX6_fits_38 : decode cX6_fits 38 = .ok (.iaload, 1) := by decide +kernel
theorem dX6_fits_39 : decode cX6_fits 39 = .ok (.istore 5, 2) := by decide +kernel
theorem dX6_fits_41 : decode cX6_fits 41 = .ok (.iload 5, 2) := by decide +kernel
theorem dX6_fits_43 : decode cX6_fits 43 = .ok (.iconst (-1), 1) := by decide +kernel
theorem dX6_fits_44 : decode cX6_fits 44 = .ok (.if_icmp .eq 49, 3) := by decide +kernel
theorem dX6_fits_47 : decode cX6_fits 47 = .ok (.iload 5, 2) := by decide +kernel
theorem dX6_fits_49 : decode cX6_fits 49 = .ok (.invokestatic 79, 3) := by decide +kernel
theorem dX6_fits_52 : decode cX6_fits 52 = .ok (.iload_n 2, 1) := by decide +kernel
theorem dX6_fits_53 : decode cX6_fits 53 = .ok (.invokestatic 79, 3) := by decide +kernel
theorem dX6_fits_56 : decode cX6_fits 56 = .ok (.if_icmp .eq 6, 3) := by decide +kernel
theorem dX6_fits_59 : decode cX6_fits 59 = .ok (.goto 34, 3) := by decide +kernel
theorem dX6_fits_62 : decode cX6_fits 62 = .ok (.iload 5, 2) := by decide +kernel
theorem dX6_fits_64 : decode cX6_fits 64 = .ok (.iload_n 2, 1) := by decide +kernel
theorem dX6_fits_65 : decode cX6_fits 65 = .ok (.if_icmp .ne 6, 3) := by decide +kernel
theorem dX6_fits_68 : decode cX6_fits 68 = .ok (.iinc 3 (-1), 3) := by decide +kernel
theorem dX6_fits_71 : decode cX6_fits 71 = .ok (.iload_n 3, 1) := by decide +kernel
theorem dX6_fits_72 : decode cX6_fits 72 = .ok (.ifCond .le 19, 3) := by decide +kernel
theorem dX6_fits_75 : decode cX6_fits 75 = .ok (.aload_n 0, 1) := by decide +kernel
theorem dX6_fits_76 : decode cX6_fits 76 = .ok (.iload_n 1, 1) := by decide +kernel
theorem dX6_fits_77 : decode cX6_fits 77 = .ok (.iload_n 2, 1) := by decide +kernel
theorem dX6_fits_78 : decode cX6_fits 78 = .ok (.iload 4, 2) := by decide +kernel
theorem dX6_fits_80 : decode cX6_fits 80 = .ok (.iload 5, 2) := by decide +kernel
theorem dX6_fits_82 : decode cX6_fits 82 = .ok (.invokestatic 71, 3) := by decide +kernel
theorem dX6_fits_85 : decode cX6_fits 85 = .ok (.invokevirtual 82, 3) := by decide +kernel
theorem dX6_fits_88 : decode cX6_fits 88 = .ok (.ifCond .ne 5, 3) := by decide +kernel
theorem dX6_fits_91 : decode cX6_fits 91 = .ok (.iconst 0, 1) := by decide +kernel
theorem dX6_fits_92 : decode cX6_fits 92 = .ok (.ireturn, 1) := by decide +kernel
theorem dX6_fits_93 : decode cX6_fits 93 = .ok (.iinc 4 1, 3) := by decide +kernel
theorem dX6_fits_96 : decode cX6_fits 96 = .ok (.goto (-70), 3) := by decide +kernel
theorem dX6_fits_99 : decode cX6_fits 99 = .ok (.iconst 1, 1) := by decide +kernel
theorem dX6_fits_100 : decode cX6_fits 100 = .ok (.ireturn, 1) := by decide +kernel
theorem dX6_mayStand_0 : decode cX6_mayStand 0 = .ok (.iload_n 1, 1) := by decide +kernel
theorem dX6_mayStand_1 : decode cX6_mayStand 1 = .ok (.bipush 24, 2) := by decide +kernel
theorem dX6_mayStand_3 : decode cX6_mayStand 3 = .ok (.imul, 1) := by decide +kernel
theorem dX6_mayStand_4 : decode cX6_mayStand 4 = .ok (.iload_n 2, 1) := by decide +kernel
theorem dX6_mayStand_5 : decode cX6_mayStand 5 = .ok (.iadd, 1) := by decide +kernel
theorem dX6_mayStand_6 : decode cX6_mayStand 6 = .ok (.istore_n 3, 1) := by decide +kernel
theorem dX6_mayStand_7 : decode cX6_mayStand 7 = .ok (.aload_n 0, 1) := by decide +kernel
theorem dX6_mayStand_8 : decode cX6_mayStand 8 = .ok (.getfield 15, 3) := by decide +kernel
theorem dX6_mayStand_11 : decode cX6_mayStand 11 = .ok (.iload_n 3, 1) := by decide +kernel
theorem dX6_mayStand_12 : decode cX6_mayStand 12 = .ok (.iaload, 1) := by decide +kernel
theorem dX6_mayStand_13 : decode cX6_mayStand 13 = .ok (.ifCond .ne 37, 3) := by decide +kernel
theorem dX6_mayStand_16 : decode cX6_mayStand 16 = .ok (.aload_n 0, 1) := by decide +kernel
theorem dX6_mayStand_17 : decode cX6_mayStand 17 = .ok (.getfield 15, 3) := by decide +kernel
theorem dX6_mayStand_20 : decode cX6_mayStand 20 = .ok (.iload_n 3, 1) := by decide +kernel
theorem dX6_mayStand_21 : decode cX6_mayStand 21 = .ok (.aload_n 0, 1) := by decide +kernel
theorem dX6_mayStand_22 : decode cX6_mayStand 22 = .ok (.getfield 29, 3) := by decide +kernel
theorem dX6_mayStand_25 : decode cX6_mayStand 25 = .ok (.iload_n 1, 1) := by decide +kernel
theorem dX6_mayStand_26 : decode cX6_mayStand 26 = .ok (.iload_n 2, 1) := by decide +kernel
theorem dX6_mayStand_27 : decode cX6_mayStand 27 = .ok (.invokestatic 71, 3) := by decide +kernel
theorem dX6_mayStand_30 : decode cX6_mayStand 30 = .ok (.iload_n 2, 1) := by decide +kernel
theorem dX6_mayStand_31 : decode cX6_mayStand 31 = .ok (.invokestatic 79, 3) := by decide +kernel
theorem dX6_mayStand_34 : decode cX6_mayStand 34 = .ok (.aload_n 0, 1) := by decide +kernel
theorem dX6_mayStand_35 : decode cX6_mayStand 35 = .ok (.getfield 41, 3) := by decide +kernel
theorem dX6_mayStand_38 : decode cX6_mayStand 38 = .ok (.invokevirtual 86, 3) := by decide +kernel
theorem dX6_mayStand_41 : decode cX6_mayStand 41 = .ok (.ifCond .eq 7, 3) := by decide +kernel
theorem dX6_mayStand_44 : decode cX6_mayStand 44 = .ok (.iconst 1, 1) := by decide +kernel
theorem dX6_mayStand_45 : decode cX6_mayStand 45 = .ok (.goto 4, 3) := by decide +kernel
theorem dX6_mayStand_48 : decode cX6_mayStand 48 = .ok (.iconst 2, 1) := by decide +kernel
theorem dX6_mayStand_49 : decode cX6_mayStand 49 = .ok (.iastore, 1) := by decide +kernel
theorem dX6_mayStand_50 : decode cX6_mayStand 50 = .ok (.aload_n 0, 1) := by decide +kernel
theorem dX6_mayStand_51 : decode cX6_mayStand 51 = .ok (.getfield 15, 3) := by decide +kernel
theorem dX6_mayStand_54 : decode cX6_mayStand 54 = .ok (.iload_n 3, 1) := by decide +kernel
theorem dX6_mayStand_55 : decode cX6_mayStand 55 = .ok (.iaload, 1) := by decide +kernel
theorem dX6_mayStand_56 : decode cX6_mayStand 56 = .ok (.iconst 1, 1) := by decide +kernel
theorem dX6_mayStand_57 : decode cX6_mayStand 57 = .ok (.if_icmp .ne 7, 3) := by decide +kernel
theorem dX6_mayStand_60 : decode cX6_mayStand 60 = .ok (.iconst 1, 1) := by decide +kernel
theorem dX6_mayStand_61 : decode cX6_mayStand 61 = .ok (.goto 4, 3) := by decide +kernel
theorem dX6_mayStand_64 : decode cX6_mayStand 64 = .ok (.iconst 0, 1) := by decide +kernel
theorem dX6_mayStand_65 : decode cX6_mayStand 65 = .ok (.ireturn, 1) := by decide +kernel
theorem dX6_mayStandBy_0 : decode cX6_mayStandBy 0 = .ok (.iload_n 1, 1) := by decide +kernel
theorem dX6_mayStandBy_1 : decode cX6_mayStandBy 1 = .ok (.bipush 24, 2) := by decide +kernel
theorem dX6_mayStandBy_3 : decode cX6_mayStandBy 3 = .ok (.imul, 1) := by decide +kernel
theorem dX6_mayStandBy_4 : decode cX6_mayStandBy 4 = .ok (.iload_n 2, 1) := by decide +kernel
theorem dX6_mayStandBy_5 : decode cX6_mayStandBy 5 = .ok (.iadd, 1) := by decide +kernel
theorem dX6_mayStandBy_6 : decode cX6_mayStandBy 6 = .ok (.bipush 6, 2) := by decide +kernel
theorem dX6_mayStandBy_8 : decode cX6_mayStandBy 8 = .ok (.imul, 1) := by decide +kernel
theorem dX6_mayStandBy_9 : decode cX6_mayStandBy 9 = .ok (.iload 4, 2) := by decide +kernel
theorem dX6_mayStandBy_11 : decode cX6_mayStandBy 11 = .ok (.iadd, 1) := by decide +kernel
theorem dX6_mayStandBy_12 : decode cX6_mayStandBy 12 = .ok (.istore 5, 2) := by decide +kernel
theorem dX6_mayStandBy_14 : decode cX6_mayStandBy 14 = .ok (.aload_n 0, 1) := by decide +kernel
theorem dX6_mayStandBy_15 : decode cX6_mayStandBy 15 = .ok (.getfield 18, 3) := by decide +kernel
theorem dX6_mayStandBy_18 : decode cX6_mayStandBy 18 = .ok (.iload 5, 2) := by decide +kernel
theorem dX6_mayStandBy_20 : decode cX6_mayStandBy 20 = .ok (.iaload, 1) := by decide +kernel
theorem dX6_mayStandBy_21 : decode cX6_mayStandBy 21 = .ok (.iconst 2, 1) := by decide +kernel
theorem dX6_mayStandBy_22 : decode cX6_mayStandBy 22 = .ok (.iload_n 3, 1) := by decide +kernel
theorem dX6_mayStandBy_23 : decode cX6_mayStandBy 23 = .ok (.imul, 1) := by decide +kernel
theorem dX6_mayStandBy_24 : decode cX6_mayStandBy 24 = .ok (.ishr, 1) := by decide +kernel
theorem dX6_mayStandBy_25 : decode cX6_mayStandBy 25 = .ok (.iconst 3, 1) := by decide +kernel
theorem dX6_mayStandBy_26 : decode cX6_mayStandBy 26 = .ok (.iand, 1) := by decide +kernel
theorem dX6_mayStandBy_27 : decode cX6_mayStandBy 27 = .ok (.istore 6, 2) := by decide +kernel
theorem dX6_mayStandBy_29 : decode cX6_mayStandBy 29 = .ok (.iload 6, 2) := by decide +kernel
theorem dX6_mayStandBy_31 : decode cX6_mayStandBy 31 = .ok (.ifCond .ne 56, 3) := by decide +kernel
theorem dX6_mayStandBy_34 : decode cX6_mayStandBy 34 = .ok (.aload_n 0, 1) := by decide +kernel
theorem dX6_mayStandBy_35 : decode cX6_mayStandBy 35 = .ok (.getfield 29, 3) := by decide +kernel
theorem dX6_mayStandBy_38 : decode cX6_mayStandBy 38 = .ok (.iload_n 1, 1) := by decide +kernel
theorem dX6_mayStandBy_39 : decode cX6_mayStandBy 39 = .ok (.iload_n 2, 1) := by decide +kernel
theorem dX6_mayStandBy_40 : decode cX6_mayStandBy 40 = .ok (.invokestatic 71, 3) := by decide +kernel
theorem dX6_mayStandBy_43 : decode cX6_mayStandBy 43 = .ok (.iload_n 3, 1) := by decide +kernel
theorem dX6_mayStandBy_44 : decode cX6_mayStandBy 44 = .ok (.iload 4, 2) := by decide +kernel
theorem dX6_mayStandBy_46 : decode cX6_mayStandBy 46 = .ok (.iload_n 2, 1) := by decide +kernel
theorem dX6_mayStandBy_47 : decode cX6_mayStandBy 47 = .ok (.invokestatic 79, 3) := by decide +kernel
theorem dX6_mayStandBy_50 : decode cX6_mayStandBy 50 = .ok (.aload_n 0, 1) := by decide +kernel
theorem dX6_mayStandBy_51 : decode cX6_mayStandBy 51 = .ok (.getfield 41, 3) := by decide +kernel
theorem dX6_mayStandBy_54 : decode cX6_mayStandBy 54 = .ok (.invokevirtual 91, 3) := by decide +kernel
theorem dX6_mayStandBy_57 : decode cX6_mayStandBy 57 = .ok (.istore 7, 2) := by decide +kernel
theorem dX6_mayStandBy_59 : decode cX6_mayStandBy 59 = .ok (.iload 7, 2) := by decide +kernel
theorem dX6_mayStandBy_61 : decode cX6_mayStandBy 61 = .ok (.ifCond .eq 7, 3) := by decide +kernel
theorem dX6_mayStandBy_64 : decode cX6_mayStandBy 64 = .ok (.iconst 1, 1) := by decide +kernel
theorem dX6_mayStandBy_65 : decode cX6_mayStandBy 65 = .ok (.goto 4, 3) := by decide +kernel
theorem dX6_mayStandBy_68 : decode cX6_mayStandBy 68 = .ok (.iconst 2, 1) := by decide +kernel
theorem dX6_mayStandBy_69 : decode cX6_mayStandBy 69 = .ok (.istore 6, 2) := by decide +kernel
theorem dX6_mayStandBy_71 : decode cX6_mayStandBy 71 = .ok (.aload_n 0, 1) := by decide +kernel
theorem dX6_mayStandBy_72 : decode cX6_mayStandBy 72 = .ok (.getfield 18, 3) := by decide +kernel
theorem dX6_mayStandBy_75 : decode cX6_mayStandBy 75 = .ok (.iload 5, 2) := by decide +kernel
theorem dX6_mayStandBy_77 : decode cX6_mayStandBy 77 = .ok (.dup2, 1) := by decide +kernel
theorem dX6_mayStandBy_78 : decode cX6_mayStandBy 78 = .ok (.iaload, 1) := by decide +kernel
theorem dX6_mayStandBy_79 : decode cX6_mayStandBy 79 = .ok (.iload 6, 2) := by decide +kernel
theorem dX6_mayStandBy_81 : decode cX6_mayStandBy 81 = .ok (.iconst 2, 1) := by decide +kernel
theorem dX6_mayStandBy_82 : decode cX6_mayStandBy 82 = .ok (.iload_n 3, 1) := by decide +kernel
theorem dX6_mayStandBy_83 : decode cX6_mayStandBy 83 = .ok (.imul, 1) := by decide +kernel
theorem dX6_mayStandBy_84 : decode cX6_mayStandBy 84 = .ok (.ishl, 1) := by decide +kernel
theorem dX6_mayStandBy_85 : decode cX6_mayStandBy 85 = .ok (.ior, 1) := by decide +kernel
theorem dX6_mayStandBy_86 : decode cX6_mayStandBy 86 = .ok (.iastore, 1) := by decide +kernel
theorem dX6_mayStandBy_87 : decode cX6_mayStandBy 87 = .ok (.iload 6, 2) := by decide +kernel
theorem dX6_mayStandBy_89 : decode cX6_mayStandBy 89 = .ok (.iconst 1, 1) := by decide +kernel
theorem dX6_mayStandBy_90 : decode cX6_mayStandBy 90 = .ok (.if_icmp .ne 7, 3) := by decide +kernel
theorem dX6_mayStandBy_93 : decode cX6_mayStandBy 93 = .ok (.iconst 1, 1) := by decide +kernel
theorem dX6_mayStandBy_94 : decode cX6_mayStandBy 94 = .ok (.goto 4, 3) := by decide +kernel
theorem dX6_mayStandBy_97 : decode cX6_mayStandBy 97 = .ok (.iconst 0, 1) := by decide +kernel
theorem dX6_mayStandBy_98 : decode cX6_mayStandBy 98 = .ok (.ireturn, 1) := by decide +kernel
theorem dX7_init_0 : decode cX7_init 0 = .ok (.aload_n 0, 1) := by decide +kernel
theorem dX7_init_1 : decode cX7_init 1 = .ok (.invokespecial 3, 3) := by decide +kernel
theorem dX7_init_4 : decode cX7_init 4 = .ok (.aload_n 0, 1) := by decide +kernel
theorem dX7_init_5 : decode cX7_init 5 = .ok (.sipush 1000, 3) := by decide +kernel
theorem dX7_init_8 : decode cX7_init 8 = .ok (.newarray .int, 2) := by decide +kernel
theorem dX7_init_10 : decode cX7_init 10 = .ok (.putfield 9, 3) := by decide +kernel
theorem dX7_init_13 : decode cX7_init 13 = .ok (.aload_n 0, 1) := by decide +kernel
theorem dX7_init_14 : decode cX7_init 14 = .ok (.bipush 13, 2) := by decide +kernel
theorem dX7_init_16 : decode cX7_init 16 = .ok (.newarray .int, 2) := by decide +kernel
theorem dX7_init_18 : decode cX7_init 18 = .ok (.putfield 15, 3) := by decide +kernel
theorem dX7_init_21 : decode cX7_init 21 = .ok (.aload_n 0, 1) := by decide +kernel
theorem dX7_init_22 : decode cX7_init 22 = .ok (.bipush 12, 2) := by decide +kernel
theorem dX7_init_24 : decode cX7_init 24 = .ok (.newarray .boolean, 2) := by decide +kernel
theorem dX7_init_26 : decode cX7_init 26 = .ok (.putfield 18, 3) := by decide +kernel
theorem dX7_init_29 : decode cX7_init 29 = .ok (.aload_n 0, 1) := by decide +kernel
theorem dX7_init_30 : decode cX7_init 30 = .ok (.bipush 40, 2) := by decide +kernel
theorem dX7_init_32 : decode cX7_init 32 = .ok (.newarray .int, 2) := by decide +kernel
theorem dX7_init_34 : decode cX7_init 34 = .ok (.putfield 22, 3) := by decide +kernel
theorem dX7_init_37 : decode cX7_init 37 = .ok (.return_, 1) := by decide +kernel
theorem dX7_count_0 : decode cX7_count 0 = .ok (.aload_n 0, 1) := by decide +kernel
theorem dX7_count_1 : decode cX7_count 1 = .ok (.getfield 25, 3) := by decide +kernel
theorem dX7_count_4 : decode cX7_count 4 = .ok (.ireturn, 1) := by decide +kernel
theorem dX7_clear_0 : decode cX7_clear 0 = .ok (.aload_n 0, 1) := by decide +kernel
theorem dX7_clear_1 : decode cX7_clear 1 = .ok (.iconst 0, 1) := by decide +kernel
theorem dX7_clear_2 : decode cX7_clear 2 = .ok (.putfield 29, 3) := by decide +kernel
theorem dX7_clear_5 : decode cX7_clear 5 = .ok (.aload_n 0, 1) := by decide +kernel
theorem dX7_clear_6 : decode cX7_clear 6 = .ok (.iconst 0, 1) := by decide +kernel
theorem dX7_clear_7 : decode cX7_clear 7 = .ok (.putfield 25, 3) := by decide +kernel
theorem dX7_clear_10 : decode cX7_clear 10 = .ok (.return_, 1) := by decide +kernel
theorem dX7_emit_0 : decode cX7_emit 0 = .ok (.aload_n 0, 1) := by decide +kernel
theorem dX7_emit_1 : decode cX7_emit 1 = .ok (.getfield 29, 3) := by decide +kernel
theorem dX7_emit_4 : decode cX7_emit 4 = .ok (.sipush 1000, 3) := by decide +kernel
theorem dX7_emit_7 : decode cX7_emit 7 = .ok (.if_icmp .ge 23, 3) := by decide +kernel
theorem dX7_emit_10 : decode cX7_emit 10 = .ok (.aload_n 0, 1) := by decide +kernel
theorem dX7_emit_11 : decode cX7_emit 11 = .ok (.getfield 9, 3) := by decide +kernel
theorem dX7_emit_14 : decode cX7_emit 14 = .ok (.aload_n 0, 1) := by decide +kernel
theorem dX7_emit_15 : decode cX7_emit 15 = .ok (.getfield 29, 3) := by decide +kernel
theorem dX7_emit_18 : decode cX7_emit 18 = .ok (.iload_n 1, 1) := by decide +kernel
theorem dX7_emit_19 : decode cX7_emit 19 = .ok (.iastore, 1) := by decide +kernel
theorem dX7_emit_20 : decode cX7_emit 20 = .ok (.aload_n 0, 1) := by decide +kernel
theorem dX7_emit_21 : decode cX7_emit 21 = .ok (.dup, 1) := by decide +kernel
theorem dX7_emit_22 : decode cX7_emit 22 = .ok (.getfield 29, 3) := by decide +kernel
theorem dX7_emit_25 : decode cX7_emit 25 = .ok (.iconst 1, 1) := by decide +kernel
theorem dX7_emit_26 : decode cX7_emit 26 = .ok (.iadd, 1) := by decide +kernel
theorem dX7_emit_27 : decode cX7_emit 27 = .ok (.putfield 29, 3) := by decide +kernel
theorem dX7_emit_30 : decode cX7_emit 30 = .ok (.return_, 1) := by decide +kernel
theorem dX7_endRule_0 : decode cX7_endRule 0 = .ok (.aload_n 0, 1) := by decide +kernel
theorem dX7_endRule_1 : decode cX7_endRule 1 = .ok (.getfield 25, 3) := by decide +kernel
theorem dX7_endRule_4 : decode cX7_endRule 4 = .ok (.bipush 12, 2) := by decide +kernel
theorem dX7_endRule_6 : decode cX7_endRule 6 = .ok (.if_icmp .ge 36, 3) := by decide +kernel
theorem dX7_endRule_9 : decode cX7_endRule 9 = .ok (.aload_n 0, 1) := by decide +kernel
theorem dX7_endRule_10 : decode cX7_endRule 10 = .ok (.getfield 18, 3) := by decide +kernel
theorem dX7_endRule_13 : decode cX7_endRule 13 = .ok (.aload_n 0, 1) := by decide +kernel
theorem dX7_endRule_14 : decode cX7_endRule 14 = .ok (.getfield 25, 3) := by decide +kernel
theorem dX7_endRule_17 : decode cX7_endRule 17 = .ok (.iload_n 1, 1) := by decide +kernel
theorem dX7_endRule_18 : decode cX7_endRule 18 = .ok (.bastore, 1) := by decide +kernel
theorem dX7_endRule_19 : decode cX7_endRule 19 = .ok (.aload_n 0, 1) := by decide +kernel
theorem dX7_endRule_20 : decode cX7_endRule 20 = .ok (.dup, 1) := by decide +kernel
theorem dX7_endRule_21 : decode cX7_endRule 21 = .ok (.getfield 25, 3) := by decide +kernel
theorem dX7_endRule_24 : decode cX7_endRule 24 = .ok (.iconst 1, 1) := by decide +kernel
theorem dX7_endRule_25 : decode cX7_endRule 25 = .ok (.iadd, 1) := by decide +kernel
theorem dX7_endRule_26 : decode cX7_endRule 26 = .ok (.putfield 25, 3) := by decide +kernel
theorem dX7_endRule_29 : decode cX7_endRule 29 = .ok (.aload_n 0, 1) := by decide +kernel
theorem dX7_endRule_30 : decode cX7_endRule 30 = .ok (.getfield 15, 3) := by decide +kernel
theorem dX7_endRule_33 : decode cX7_endRule 33 = .ok (.aload_n 0, 1) := by decide +kernel
theorem dX7_endRule_34 : decode cX7_endRule 34 = .ok (.getfield 25, 3) := by decide +kernel
theorem dX7_endRule_37 : decode cX7_endRule 37 = .ok (.aload_n 0, 1) := by decide +kernel
theorem dX7_endRule_38 : decode cX7_endRule 38 = .ok (.getfield 29, 3) := by decide +kernel
theorem dX7_endRule_41 : decode cX7_endRule 41 = .ok (.iastore, 1) := by decide +kernel
theorem dX7_endRule_42 : decode cX7_endRule 42 = .ok (.return_, 1) := by decide +kernel
theorem dX7_copy_0 : decode cX7_copy 0 = .ok (.aload_n 1, 1) := by decide +kernel
theorem dX7_copy_1 : decode cX7_copy 1 = .ok (.getfield 9, 3) := by decide +kernel
theorem dX7_copy_4 : decode cX7_copy 4 = .ok (.iconst 0, 1) := by decide +kernel
theorem dX7_copy_5 : decode cX7_copy 5 = .ok (.aload_n 0, 1) := by decide +kernel
theorem dX7_copy_6 : decode cX7_copy 6 = .ok (.getfield 9, 3) := by decide +kernel
theorem dX7_copy_9 : decode cX7_copy 9 = .ok (.iconst 0, 1) := by decide +kernel
theorem dX7_copy_10 : decode cX7_copy 10 = .ok (.sipush 1000, 3) := by decide +kernel
theorem dX7_copy_13 : decode cX7_copy 13 = .ok (.invokestatic 32, 3) := by decide +kernel
theorem dX7_copy_16 : decode cX7_copy 16 = .ok (.aload_n 1, 1) := by decide +kernel
theorem dX7_copy_17 : decode cX7_copy 17 = .ok (.getfield 15, 3) := by decide +kernel
theorem dX7_copy_20 : decode cX7_copy 20 = .ok (.iconst 0, 1) := by decide +kernel
theorem dX7_copy_21 : decode cX7_copy 21 = .ok (.aload_n 0, 1) := by decide +kernel
theorem dX7_copy_22 : decode cX7_copy 22 = .ok (.getfield 15, 3) := by decide +kernel
theorem dX7_copy_25 : decode cX7_copy 25 = .ok (.iconst 0, 1) := by decide +kernel
theorem dX7_copy_26 : decode cX7_copy 26 = .ok (.bipush 13, 2) := by decide +kernel
theorem dX7_copy_28 : decode cX7_copy 28 = .ok (.invokestatic 32, 3) := by decide +kernel
theorem dX7_copy_31 : decode cX7_copy 31 = .ok (.iconst 0, 1) := by decide +kernel
theorem dX7_copy_32 : decode cX7_copy 32 = .ok (.istore_n 2, 1) := by decide +kernel
theorem dX7_copy_33 : decode cX7_copy 33 = .ok (.iload_n 2, 1) := by decide +kernel
theorem dX7_copy_34 : decode cX7_copy 34 = .ok (.bipush 12, 2) := by decide +kernel
theorem dX7_copy_36 : decode cX7_copy 36 = .ok (.if_icmp .ge 21, 3) := by decide +kernel
theorem dX7_copy_39 : decode cX7_copy 39 = .ok (.aload_n 0, 1) := by decide +kernel
theorem dX7_copy_40 : decode cX7_copy 40 = .ok (.getfield 18, 3) := by decide +kernel
theorem dX7_copy_43 : decode cX7_copy 43 = .ok (.iload_n 2, 1) := by decide +kernel
theorem dX7_copy_44 : decode cX7_copy 44 = .ok (.aload_n 1, 1) := by decide +kernel
theorem dX7_copy_45 : decode cX7_copy 45 = .ok (.getfield 18, 3) := by decide +kernel
theorem dX7_copy_48 : decode cX7_copy 48 = .ok (.iload_n 2, 1) := by decide +kernel
theorem dX7_copy_49 : decode cX7_copy 49 = .ok (.baload, 1) := by decide +kernel
theorem dX7_copy_50 : decode cX7_copy 50 = .ok (.bastore, 1) := by decide +kernel
theorem dX7_copy_51 : decode cX7_copy 51 = .ok (.iinc 2 1, 3) := by decide +kernel
theorem dX7_copy_54 : decode cX7_copy 54 = .ok (.goto (-21), 3) := by decide +kernel
theorem dX7_copy_57 : decode cX7_copy 57 = .ok (.aload_n 0, 1) := by decide +kernel
theorem dX7_copy_58 : decode cX7_copy 58 = .ok (.aload_n 1, 1) := by decide +kernel
theorem dX7_copy_59 : decode cX7_copy 59 = .ok (.getfield 29, 3) := by decide +kernel
theorem dX7_copy_62 : decode cX7_copy 62 = .ok (.putfield 29, 3) := by decide +kernel
theorem dX7_copy_65 : decode cX7_copy 65 = .ok (.aload_n 0, 1) := by decide +kernel
theorem dX7_copy_66 : decode cX7_copy 66 = .ok (.aload_n 1, 1) := by decide +kernel
theorem dX7_copy_67 : decode cX7_copy 67 = .ok (.getfield 25, 3) := by decide +kernel
theorem dX7_copy_70 : decode cX7_copy 70 = .ok (.putfield 25, 3) := by decide +kernel
theorem dX7_copy_73 : decode cX7_copy 73 = .ok (.return_, 1) := by decide +kernel
theorem dX7_allHold_0 : decode cX7_allHold 0 = .ok (.iconst 0, 1) := by decide +kernel
theorem dX7_allHold_1 : decode cX7_allHold 1 = .ok (.istore_n 3, 1) := by decide +kernel
theorem dX7_allHold_2 : decode cX7_allHold 2 = .ok (.iload_n 3, 1) := by decide +kernel
theorem dX7_allHold_3 : decode cX7_allHold 3 = .ok (.aload_n 0, 1) := by decide +kernel
theorem dX7_allHold_4 : decode cX7_allHold 4 = .ok (.getfield 25, 3) := by decide +kernel
theorem dX7_allHold_7 : decode cX7_allHold 7 = .ok (.if_icmp .ge 30, 3) := by decide +kernel
theorem dX7_allHold_10 : decode cX7_allHold 10 = .ok (.aload_n 0, 1) := by decide +kernel
theorem dX7_allHold_11 : decode cX7_allHold 11 = .ok (.getfield 18, 3) := by decide +kernel
theorem dX7_allHold_14 : decode cX7_allHold 14 = .ok (.iload_n 3, 1) := by decide +kernel
theorem dX7_allHold_15 : decode cX7_allHold 15 = .ok (.baload, 1) := by decide +kernel
theorem dX7_allHold_16 : decode cX7_allHold 16 = .ok (.iload_n 1, 1) := by decide +kernel
theorem dX7_allHold_17 : decode cX7_allHold 17 = .ok (.if_icmp .ne 14, 3) := by decide +kernel
theorem dX7_allHold_20 : decode cX7_allHold 20 = .ok (.aload_n 0, 1) := by decide +kernel
theorem dX7_allHold_21 : decode cX7_allHold 21 = .ok (.iload_n 3, 1) := by decide +kernel
theorem dX7_allHold_22 : decode cX7_allHold 22 = .ok (.aload_n 2, 1) := by decide +kernel
theorem dX7_allHold_23 : decode cX7_allHold 23 = .ok (.invokevirtual 38, 3) := by decide +kernel
theorem dX7_allHold_26 : decode cX7_allHold 26 = .ok (.ifCond .ne 5, 3) := by decide +kernel
theorem dX7_allHold_29 : decode cX7_allHold 29 = .ok (.iconst 0, 1) := by decide +kernel
theorem dX7_allHold_30 : decode cX7_allHold 30 = .ok (.ireturn, 1) := by decide +kernel
theorem dX7_allHold_31 : decode cX7_allHold 31 = .ok (.iinc 3 1, 3) := by decide +kernel
theorem dX7_allHold_34 : decode cX7_allHold 34 = .ok (.goto (-32), 3) := by decide +kernel
theorem dX7_allHold_37 : decode cX7_allHold 37 = .ok (.iconst 1, 1) := by decide +kernel
theorem dX7_allHold_38 : decode cX7_allHold 38 = .ok (.ireturn, 1) := by decide +kernel
theorem dX7_workOut_0 : decode cX7_workOut 0 = .ok (.iconst (-1), 1) := by decide +kernel
theorem dX7_workOut_1 : decode cX7_workOut 1 = .ok (.istore_n 3, 1) := by decide +kernel
theorem dX7_workOut_2 : decode cX7_workOut 2 = .ok (.aload_n 0, 1) := by decide +kernel
theorem dX7_workOut_3 : decode cX7_workOut 3 = .ok (.getfield 15, 3) := by decide +kernel
theorem dX7_workOut_6 : decode cX7_workOut 6 = .ok (.iload_n 1, 1) := by decide +kernel
theorem dX7_workOut_7 : decode cX7_workOut 7 = .ok (.iaload, 1) := by decide +kernel
theorem dX7_workOut_8 : decode cX7_workOut 8 = .ok (.istore 4, 2) := by decide +kernel
theorem dX7_workOut_10 : decode cX7_workOut 10 = .ok (.iload 4, 2) := by decide +kernel
theorem dX7_workOut_12 : decode cX7_workOut 12 = .ok (.aload_n 0, 1) := by decide +kernel
theorem dX7_workOut_13 : decode cX7_workOut 13 = .ok (.getfield 15, 3) := by decide +kernel
theorem dX7_workOut_16 : decode cX7_workOut 16 = .ok (.iload_n 1, 1) := by decide +kernel
theorem dX7_workOut_17 : decode cX7_workOut 17 = .ok (.iconst 1, 1) := by decide +kernel
theorem dX7_workOut_18 : decode cX7_workOut 18 = .ok (.iadd, 1) := by decide +kernel
theorem dX7_workOut_19 : decode cX7_workOut 19 = .ok (.iaload, 1) := by decide +kernel
theorem dX7_workOut_20 : decode cX7_workOut 20 = .ok (.if_icmp .ge 353, 3) := by decide +kernel
theorem dX7_workOut_23 : decode cX7_workOut 23 = .ok (.aload_n 0, 1) := by decide +kernel
theorem dX7_workOut_24 : decode cX7_workOut 24 = .ok (.getfield 9, 3) := by decide +kernel
theorem dX7_workOut_27 : decode cX7_workOut 27 = .ok (.iload 4, 2) := by decide +kernel
theorem dX7_workOut_29 : decode cX7_workOut 29 = .ok (.iaload, 1) := by decide +kernel
theorem dX7_workOut_30 : decode cX7_workOut 30 = .ok (.istore 5, 2) := by decide +kernel
theorem dX7_workOut_32 : decode cX7_workOut 32 = .ok (.iload 5, 2) := by decide +kernel
theorem dX7_workOut_34 : decode cX7_workOut 34 = .ok (.bipush 14, 2) := by decide +kernel
theorem dX7_workOut_36 : decode cX7_workOut 36 = .ok (.if_icmp .lt 14, 3) := by decide +kernel
theorem dX7_workOut_39 : decode cX7_workOut 39 = .ok (.iload 5, 2) := by decide +kernel
theorem dX7_workOut_41 : decode cX7_workOut 41 = .ok (.bipush 100, 2) := by decide +kernel
theorem dX7_workOut_43 : decode cX7_workOut 43 = .ok (.if_icmp .ge 7, 3) := by decide +kernel
theorem dX7_workOut_46 : decode cX7_workOut 46 = .ok (.iconst 1, 1) := by decide +kernel
theorem dX7_workOut_47 : decode cX7_workOut 47 = .ok (.goto 4, 3) := by decide +kernel
theorem dX7_workOut_50 : decode cX7_workOut 50 = .ok (.iconst 0, 1) := by decide +kernel
theorem dX7_workOut_51 : decode cX7_workOut 51 = .ok (.istore 6, 2) := by decide +kernel
theorem dX7_workOut_53 : decode cX7_workOut 53 = .ok (.iload 6, 2) := by decide +kernel
theorem dX7_workOut_55 : decode cX7_workOut 55 = .ok (.ifCond .ne 9, 3) := by decide +kernel
theorem dX7_workOut_58 : decode cX7_workOut 58 = .ok (.iinc 3 1, 3) := by decide +kernel
theorem dX7_workOut_61 : decode cX7_workOut 61 = .ok (.goto 13, 3) := by decide +kernel
theorem dX7_workOut_64 : decode cX7_workOut 64 = .ok (.iload 5, 2) := by decide +kernel
theorem dX7_workOut_66 : decode cX7_workOut 66 = .ok (.bipush 18, 2) := by decide +kernel
theorem dX7_workOut_68 : decode cX7_workOut 68 = .ok (.if_icmp .eq 6, 3) := by decide +kernel
theorem dX7_workOut_71 : decode cX7_workOut 71 = .ok (.iinc 3 (-1), 3) := by decide +kernel
theorem dX7_workOut_74 : decode cX7_workOut 74 = .ok (.iload_n 3, 1) := by decide +kernel
theorem dX7_workOut_75 : decode cX7_workOut 75 = .ok (.ifCond .lt 11, 3) := by decide +kernel
theorem dX7_workOut_78 : decode cX7_workOut 78 = .ok (.iload_n 3, 1) := by decide +kernel
theorem dX7_workOut_79 : decode cX7_workOut 79 = .ok (.iconst 1, 1) := by decide +kernel
theorem dX7_workOut_80 : decode cX7_workOut 80 = .ok (.iadd, 1) := by decide +kernel
theorem dX7_workOut_81 : decode cX7_workOut 81 = .ok (.bipush 40, 2) := by decide +kernel
theorem dX7_workOut_83 : decode cX7_workOut 83 = .ok (.if_icmp .lt 5, 3) := by decide +kernel
theorem dX7_workOut_86 : decode cX7_workOut 86 = .ok (.iconst 0, 1) := by decide +kernel
theorem dX7_workOut_87 : decode cX7_workOut 87 = .ok (.ireturn, 1) := by decide +kernel
theorem dX7_workOut_88 : decode cX7_workOut 88 = .ok (.aload_n 0, 1) := by decide +kernel
theorem dX7_workOut_89 : decode cX7_workOut 89 = .ok (.getfield 22, 3) := by decide +kernel
theorem dX7_workOut_92 : decode cX7_workOut 92 = .ok (.iload_n 3, 1) := by decide +kernel
theorem dX7_workOut_93 : decode cX7_workOut 93 = .ok (.iaload, 1) := by decide +kernel
theorem dX7_workOut_94 : decode cX7_workOut 94 = .ok (.istore 7, 2) := by decide +kernel
theorem dX7_workOut_96 : decode cX7_workOut 96 = .ok (.aload_n 0, 1) := by decide +kernel
theorem dX7_workOut_97 : decode cX7_workOut 97 = .ok (.getfield 22, 3) := by decide +kernel
theorem dX7_workOut_100 : decode cX7_workOut 100 = .ok (.iload_n 3, 1) := by decide +kernel
theorem dX7_workOut_101 : decode cX7_workOut 101 = .ok (.iconst 1, 1) := by decide +kernel
theorem dX7_workOut_102 : decode cX7_workOut 102 = .ok (.iadd, 1) := by decide +kernel
theorem dX7_workOut_103 : decode cX7_workOut 103 = .ok (.iaload, 1) := by decide +kernel
theorem dX7_workOut_104 : decode cX7_workOut 104 = .ok (.istore 8, 2) := by decide +kernel
theorem dX7_workOut_106 : decode cX7_workOut 106 = .ok (.iload 5, 2) := by decide +kernel
theorem dX7_workOut_108 : decode cX7_workOut 108 = .ok (.lookupswitch 234 #[(16, 95), (17, 119), (18, 76), (43, 206), (45, 220), (60, 164), (61, 143), (62, 185)], 76) := by decide +kernel
theorem dX7_workOut_184 : decode cX7_workOut 184 = .ok (.aload_n 0, 1) := by decide +kernel
theorem dX7_workOut_185 : decode cX7_workOut 185 = .ok (.getfield 22, 3) := by decide +kernel
theorem dX7_workOut_188 : decode cX7_workOut 188 = .ok (.iload_n 3, 1) := by decide +kernel
theorem dX7_workOut_189 : decode cX7_workOut 189 = .ok (.iload 7, 2) := by decide +kernel
theorem dX7_workOut_191 : decode cX7_workOut 191 = .ok (.ifCond .ne 7, 3) := by decide +kernel
theorem dX7_workOut_194 : decode cX7_workOut 194 = .ok (.iconst 1, 1) := by decide +kernel
theorem dX7_workOut_195 : decode cX7_workOut 195 = .ok (.goto 4, 3) := by decide +kernel
theorem dX7_workOut_198 : decode cX7_workOut 198 = .ok (.iconst 0, 1) := by decide +kernel
theorem dX7_workOut_199 : decode cX7_workOut 199 = .ok (.iastore, 1) := by decide +kernel
theorem dX7_workOut_200 : decode cX7_workOut 200 = .ok (.goto 167, 3) := by decide +kernel
theorem dX7_workOut_203 : decode cX7_workOut 203 = .ok (.aload_n 0, 1) := by decide +kernel
theorem dX7_workOut_204 : decode cX7_workOut 204 = .ok (.getfield 22, 3) := by decide +kernel
theorem dX7_workOut_207 : decode cX7_workOut 207 = .ok (.iload_n 3, 1) := by decide +kernel
theorem dX7_workOut_208 : decode cX7_workOut 208 = .ok (.iload 7, 2) := by decide +kernel
theorem dX7_workOut_210 : decode cX7_workOut 210 = .ok (.ifCond .ne 8, 3) := by decide +kernel
theorem dX7_workOut_213 : decode cX7_workOut 213 = .ok (.iload 8, 2) := by decide +kernel
theorem dX7_workOut_215 : decode cX7_workOut 215 = .ok (.ifCond .eq 7, 3) := by decide +kernel
theorem dX7_workOut_218 : decode cX7_workOut 218 = .ok (.iconst 1, 1) := by decide +kernel
theorem dX7_workOut_219 : decode cX7_workOut 219 = .ok (.goto 4, 3) := by decide +kernel
theorem dX7_workOut_222 : decode cX7_workOut 222 = .ok (.iconst 0, 1) := by decide +kernel
theorem dX7_workOut_223 : decode cX7_workOut 223 = .ok (.iastore, 1) := by decide +kernel
theorem dX7_workOut_224 : decode cX7_workOut 224 = .ok (.goto 143, 3) := by decide +kernel
theorem dX7_workOut_227 : decode cX7_workOut 227 = .ok (.aload_n 0, 1) := by decide +kernel
theorem dX7_workOut_228 : decode cX7_workOut 228 = .ok (.getfield 22, 3) := by decide +kernel
theorem dX7_workOut_231 : decode cX7_workOut 231 = .ok (.iload_n 3, 1) := by decide +kernel
theorem dX7_workOut_232 : decode cX7_workOut 232 = .ok (.iload 7, 2) := by decide +kernel
theorem dX7_workOut_234 : decode cX7_workOut 234 = .ok (.ifCond .eq 12, 3) := by decide +kernel
theorem dX7_workOut_237 : decode cX7_workOut 237 = .ok (.iload 8, 2) := by decide +kernel
theorem dX7_workOut_239 : decode cX7_workOut 239 = .ok (.ifCond .eq 7, 3) := by decide +kernel
theorem dX7_workOut_242 : decode cX7_workOut 242 = .ok (.iconst 1, 1) := by decide +kernel
theorem dX7_workOut_243 : decode cX7_workOut 243 = .ok (.goto 4, 3) := by decide +kernel
theorem dX7_workOut_246 : decode cX7_workOut 246 = .ok (.iconst 0, 1) := by decide +kernel
theorem dX7_workOut_247 : decode cX7_workOut 247 = .ok (.iastore, 1) := by decide +kernel
theorem dX7_workOut_248 : decode cX7_workOut 248 = .ok (.goto 119, 3) := by decide +kernel
theorem dX7_workOut_251 : decode cX7_workOut 251 = .ok (.aload_n 0, 1) := by decide +kernel
theorem dX7_workOut_252 : decode cX7_workOut 252 = .ok (.getfield 22, 3) := by decide +kernel
theorem dX7_workOut_255 : decode cX7_workOut 255 = .ok (.iload_n 3, 1) := by decide +kernel
theorem dX7_workOut_256 : decode cX7_workOut 256 = .ok (.iload 7, 2) := by decide +kernel
theorem dX7_workOut_258 : decode cX7_workOut 258 = .ok (.iload 8, 2) := by decide +kernel
theorem dX7_workOut_260 : decode cX7_workOut 260 = .ok (.if_icmp .ne 7, 3) := by decide +kernel
theorem dX7_workOut_263 : decode cX7_workOut 263 = .ok (.iconst 1, 1) := by decide +kernel
theorem dX7_workOut_264 : decode cX7_workOut 264 = .ok (.goto 4, 3) := by decide +kernel
theorem dX7_workOut_267 : decode cX7_workOut 267 = .ok (.iconst 0, 1) := by decide +kernel
theorem dX7_workOut_268 : decode cX7_workOut 268 = .ok (.iastore, 1) := by decide +kernel
theorem dX7_workOut_269 : decode cX7_workOut 269 = .ok (.goto 98, 3) := by decide +kernel
theorem dX7_workOut_272 : decode cX7_workOut 272 = .ok (.aload_n 0, 1) := by decide +kernel
theorem dX7_workOut_273 : decode cX7_workOut 273 = .ok (.getfield 22, 3) := by decide +kernel
theorem dX7_workOut_276 : decode cX7_workOut 276 = .ok (.iload_n 3, 1) := by decide +kernel
theorem dX7_workOut_277 : decode cX7_workOut 277 = .ok (.iload 7, 2) := by decide +kernel
theorem dX7_workOut_279 : decode cX7_workOut 279 = .ok (.iload 8, 2) := by decide +kernel
theorem dX7_workOut_281 : decode cX7_workOut 281 = .ok (.if_icmp .ge 7, 3) := by decide +kernel
theorem dX7_workOut_284 : decode cX7_workOut 284 = .ok (.iconst 1, 1) := by decide +kernel
theorem dX7_workOut_285 : decode cX7_workOut 285 = .ok (.goto 4, 3) := by decide +kernel
theorem dX7_workOut_288 : decode cX7_workOut 288 = .ok (.iconst 0, 1) := by decide +kernel
theorem dX7_workOut_289 : decode cX7_workOut 289 = .ok (.iastore, 1) := by decide +kernel
theorem dX7_workOut_290 : decode cX7_workOut 290 = .ok (.goto 77, 3) := by decide +kernel
theorem dX7_workOut_293 : decode cX7_workOut 293 = .ok (.aload_n 0, 1) := by decide +kernel
theorem dX7_workOut_294 : decode cX7_workOut 294 = .ok (.getfield 22, 3) := by decide +kernel
theorem dX7_workOut_297 : decode cX7_workOut 297 = .ok (.iload_n 3, 1) := by decide +kernel
theorem dX7_workOut_298 : decode cX7_workOut 298 = .ok (.iload 7, 2) := by decide +kernel
theorem dX7_workOut_300 : decode cX7_workOut 300 = .ok (.iload 8, 2) := by decide +kernel
theorem dX7_workOut_302 : decode cX7_workOut 302 = .ok (.if_icmp .le 7, 3) := by decide +kernel
theorem dX7_workOut_305 : decode cX7_workOut 305 = .ok (.iconst 1, 1) := by decide +kernel
theorem dX7_workOut_306 : decode cX7_workOut 306 = .ok (.goto 4, 3) := by decide +kernel
theorem dX7_workOut_309 : decode cX7_workOut 309 = .ok (.iconst 0, 1) := by decide +kernel
theorem dX7_workOut_310 : decode cX7_workOut 310 = .ok (.iastore, 1) := by decide +kernel
theorem dX7_workOut_311 : decode cX7_workOut 311 = .ok (.goto 56, 3) := by decide +kernel
theorem dX7_workOut_314 : decode cX7_workOut 314 = .ok (.aload_n 0, 1) := by decide +kernel
theorem dX7_workOut_315 : decode cX7_workOut 315 = .ok (.getfield 22, 3) := by decide +kernel
theorem dX7_workOut_318 : decode cX7_workOut 318 = .ok (.iload_n 3, 1) := by decide +kernel
theorem dX7_workOut_319 : decode cX7_workOut 319 = .ok (.iload 7, 2) := by decide +kernel
theorem dX7_workOut_321 : decode cX7_workOut 321 = .ok (.iload 8, 2) := by decide +kernel
theorem dX7_workOut_323 : decode cX7_workOut 323 = .ok (.iadd, 1) := by decide +kernel
theorem dX7_workOut_324 : decode cX7_workOut 324 = .ok (.iastore, 1) := by decide +kernel
theorem dX7_workOut_325 : decode cX7_workOut 325 = .ok (.goto 42, 3) := by decide +kernel
theorem dX7_workOut_328 : decode cX7_workOut 328 = .ok (.aload_n 0, 1) := by decide +kernel
theorem dX7_workOut_329 : decode cX7_workOut 329 = .ok (.getfield 22, 3) := by decide +kernel
theorem dX7_workOut_332 : decode cX7_workOut 332 = .ok (.iload_n 3, 1) := by decide +kernel
theorem dX7_workOut_333 : decode cX7_workOut 333 = .ok (.iload 7, 2) := by decide +kernel
theorem dX7_workOut_335 : decode cX7_workOut 335 = .ok (.iload 8, 2) := by decide +kernel
theorem dX7_workOut_337 : decode cX7_workOut 337 = .ok (.isub, 1) := by decide +kernel
theorem dX7_workOut_338 : decode cX7_workOut 338 = .ok (.iastore, 1) := by decide +kernel
theorem dX7_workOut_339 : decode cX7_workOut 339 = .ok (.goto 28, 3) := by decide +kernel
theorem dX7_workOut_342 : decode cX7_workOut 342 = .ok (.aload_n 0, 1) := by decide +kernel
theorem dX7_workOut_343 : decode cX7_workOut 343 = .ok (.getfield 22, 3) := by decide +kernel
theorem dX7_workOut_346 : decode cX7_workOut 346 = .ok (.iload_n 3, 1) := by decide +kernel
theorem dX7_workOut_347 : decode cX7_workOut 347 = .ok (.iload 5, 2) := by decide +kernel
theorem dX7_workOut_349 : decode cX7_workOut 349 = .ok (.bipush 14, 2) := by decide +kernel
theorem dX7_workOut_351 : decode cX7_workOut 351 = .ok (.if_icmp .ge 10, 3) := by decide +kernel
theorem dX7_workOut_354 : decode cX7_workOut 354 = .ok (.aload_n 2, 1) := by decide +kernel
theorem dX7_workOut_355 : decode cX7_workOut 355 = .ok (.iload 5, 2) := by decide +kernel
theorem dX7_workOut_357 : decode cX7_workOut 357 = .ok (.iaload, 1) := by decide +kernel
theorem dX7_workOut_358 : decode cX7_workOut 358 = .ok (.goto 8, 3) := by decide +kernel
theorem dX7_workOut_361 : decode cX7_workOut 361 = .ok (.iload 5, 2) := by decide +kernel
theorem dX7_workOut_363 : decode cX7_workOut 363 = .ok (.bipush 100, 2) := by decide +kernel
theorem dX7_workOut_365 : decode cX7_workOut 365 = .ok (.isub, 1) := by decide +kernel
theorem dX7_workOut_366 : decode cX7_workOut 366 = .ok (.iastore, 1) := by decide +kernel
theorem dX7_workOut_367 : decode cX7_workOut 367 = .ok (.iinc 4 1, 3) := by decide +kernel
theorem dX7_workOut_370 : decode cX7_workOut 370 = .ok (.goto (-360), 3) := by decide +kernel
theorem dX7_workOut_373 : decode cX7_workOut 373 = .ok (.iload_n 3, 1) := by decide +kernel
theorem dX7_workOut_374 : decode cX7_workOut 374 = .ok (.ifCond .ne 12, 3) := by decide +kernel
theorem dX7_workOut_377 : decode cX7_workOut 377 = .ok (.aload_n 0, 1) := by decide +kernel
theorem dX7_workOut_378 : decode cX7_workOut 378 = .ok (.getfield 22, 3) := by decide +kernel
theorem dX7_workOut_381 : decode cX7_workOut 381 = .ok (.iconst 0, 1) := by decide +kernel
theorem dX7_workOut_382 : decode cX7_workOut 382 = .ok (.iaload, 1) := by decide +kernel
theorem dX7_workOut_383 : decode cX7_workOut 383 = .ok (.goto 4, 3) := by decide +kernel
theorem dX7_workOut_386 : decode cX7_workOut 386 = .ok (.iconst 0, 1) := by decide +kernel
theorem dX7_workOut_387 : decode cX7_workOut 387 = .ok (.ireturn, 1) := by decide +kernel
theorem dX8_init_0 : decode cX8_init 0 = .ok (.aload_n 0, 1) := by decide +kernel
theorem dX8_init_1 : decode cX8_init 1 = .ok (.invokespecial 3, 3) := by decide +kernel
theorem dX8_init_4 : decode cX8_init 4 = .ok (.aload_n 0, 1) := by decide +kernel
theorem dX8_init_5 : decode cX8_init 5 = .ok (.sipush 1000, 3) := by decide +kernel
theorem dX8_init_8 : decode cX8_init 8 = .ok (.newarray .int, 2) := by decide +kernel
theorem dX8_init_10 : decode cX8_init 10 = .ok (.putfield 9, 3) := by decide +kernel
theorem dX8_init_13 : decode cX8_init 13 = .ok (.return_, 1) := by decide +kernel
theorem dX8_length_0 : decode cX8_length 0 = .ok (.aload_n 0, 1) := by decide +kernel
theorem dX8_length_1 : decode cX8_length 1 = .ok (.getfield 15, 3) := by decide +kernel
theorem dX8_length_4 : decode cX8_length 4 = .ok (.ireturn, 1) := by decide +kernel
theorem dX8_append_0 : decode cX8_append 0 = .ok (.bipush 24, 2) := by decide +kernel
theorem dX8_append_2 : decode cX8_append 2 = .ok (.istore_n 2, 1) := by decide +kernel
theorem dX8_append_3 : decode cX8_append 3 = .ok (.iload_n 2, 1) := by decide +kernel
theorem dX8_append_4 : decode cX8_append 4 = .ok (.ifCond .lt 45, 3) := by decide +kernel
theorem dX8_append_7 : decode cX8_append 7 = .ok (.aload_n 0, 1) := by decide +kernel
theorem dX8_append_8 : decode cX8_append 8 = .ok (.getfield 15, 3) := by decide +kernel
theorem dX8_append_11 : decode cX8_append 11 = .ok (.sipush 1000, 3) := by decide +kernel
theorem dX8_append_14 : decode cX8_append 14 = .ok (.if_icmp .ge 35, 3) := by decide +kernel
theorem dX8_append_17 : decode cX8_append 17 = .ok (.aload_n 0, 1) := by decide +kernel
theorem dX8_append_18 : decode cX8_append 18 = .ok (.getfield 9, 3) := by decide +kernel
theorem dX8_append_21 : decode cX8_append 21 = .ok (.aload_n 0, 1) := by decide +kernel
theorem dX8_append_22 : decode cX8_append 22 = .ok (.getfield 15, 3) := by decide +kernel
theorem dX8_append_25 : decode cX8_append 25 = .ok (.iload_n 1, 1) := by decide +kernel
theorem dX8_append_26 : decode cX8_append 26 = .ok (.iload_n 2, 1) := by decide +kernel
theorem dX8_append_27 : decode cX8_append 27 = .ok (.ishr, 1) := by decide +kernel
theorem dX8_append_28 : decode cX8_append 28 = .ok (.sipush 255, 3) := by decide +kernel
theorem dX8_append_31 : decode cX8_append 31 = .ok (.iand, 1) := by decide +kernel
theorem dX8_append_32 : decode cX8_append 32 = .ok (.iastore, 1) := by decide +kernel
theorem dX8_append_33 : decode cX8_append 33 = .ok (.aload_n 0, 1) := by decide +kernel
theorem dX8_append_34 : decode cX8_append 34 = .ok (.dup, 1) := by decide +kernel
theorem dX8_append_35 : decode cX8_append 35 = .ok (.getfield 15, 3) := by decide +kernel
theorem dX8_append_38 : decode cX8_append 38 = .ok (.iconst 1, 1) := by decide +kernel
theorem dX8_append_39 : decode cX8_append 39 = .ok (.iadd, 1) := by decide +kernel
theorem dX8_append_40 : decode cX8_append 40 = .ok (.putfield 15, 3) := by decide +kernel
theorem dX8_append_43 : decode cX8_append 43 = .ok (.iinc 2 (-8), 3) := by decide +kernel
theorem dX8_append_46 : decode cX8_append 46 = .ok (.goto (-43), 3) := by decide +kernel
theorem dX8_append_49 : decode cX8_append 49 = .ok (.return_, 1) := by decide +kernel
theorem dX8_cut_0 : decode cX8_cut 0 = .ok (.aload_n 0, 1) := by decide +kernel
theorem dX8_cut_1 : decode cX8_cut 1 = .ok (.iload_n 1, 1) := by decide +kernel
theorem dX8_cut_2 : decode cX8_cut 2 = .ok (.putfield 15, 3) := by decide +kernel
theorem dX8_cut_5 : decode cX8_cut 5 = .ok (.return_, 1) := by decide +kernel
theorem dX8_at_0 : decode cX8_at 0 = .ok (.iload_n 1, 1) := by decide +kernel
theorem dX8_at_1 : decode cX8_at 1 = .ok (.ifCond .lt 20, 3) := by decide +kernel
theorem dX8_at_4 : decode cX8_at 4 = .ok (.iload_n 1, 1) := by decide +kernel
theorem dX8_at_5 : decode cX8_at 5 = .ok (.aload_n 0, 1) := by decide +kernel
theorem dX8_at_6 : decode cX8_at 6 = .ok (.getfield 15, 3) := by decide +kernel
theorem dX8_at_9 : decode cX8_at 9 = .ok (.if_icmp .ge 12, 3) := by decide +kernel
theorem dX8_at_12 : decode cX8_at 12 = .ok (.aload_n 0, 1) := by decide +kernel
theorem dX8_at_13 : decode cX8_at 13 = .ok (.getfield 9, 3) := by decide +kernel
theorem dX8_at_16 : decode cX8_at 16 = .ok (.iload_n 1, 1) := by decide +kernel
theorem dX8_at_17 : decode cX8_at 17 = .ok (.iaload, 1) := by decide +kernel
theorem dX8_at_18 : decode cX8_at 18 = .ok (.goto 4, 3) := by decide +kernel
theorem dX8_at_21 : decode cX8_at 21 = .ok (.iconst (-1), 1) := by decide +kernel
theorem dX8_at_22 : decode cX8_at 22 = .ok (.ireturn, 1) := by decide +kernel
theorem dX9_init_0 : decode cX9_init 0 = .ok (.aload_n 0, 1) := by decide +kernel
theorem dX9_init_1 : decode cX9_init 1 = .ok (.invokespecial 3, 3) := by decide +kernel
theorem dX9_init_4 : decode cX9_init 4 = .ok (.aload_n 0, 1) := by decide +kernel
theorem dX9_init_5 : decode cX9_init 5 = .ok (.aload_n 1, 1) := by decide +kernel
theorem dX9_init_6 : decode cX9_init 6 = .ok (.putfield 9, 3) := by decide +kernel
theorem dX9_init_9 : decode cX9_init 9 = .ok (.return_, 1) := by decide +kernel
theorem dX9_start_0 : decode cX9_start 0 = .ok (.aload_n 0, 1) := by decide +kernel
theorem dX9_start_1 : decode cX9_start 1 = .ok (.getfield 15, 3) := by decide +kernel
theorem dX9_start_4 : decode cX9_start 4 = .ok (.ireturn, 1) := by decide +kernel
theorem dX9_kind_0 : decode cX9_kind 0 = .ok (.aload_n 0, 1) := by decide +kernel
theorem dX9_kind_1 : decode cX9_kind 1 = .ok (.getfield 19, 3) := by decide +kernel
theorem dX9_kind_4 : decode cX9_kind 4 = .ok (.ireturn, 1) := by decide +kernel
theorem dX9_value_0 : decode cX9_value 0 = .ok (.aload_n 0, 1) := by decide +kernel
theorem dX9_value_1 : decode cX9_value 1 = .ok (.getfield 22, 3) := by decide +kernel
theorem dX9_value_4 : decode cX9_value 4 = .ok (.ireturn, 1) := by decide +kernel
theorem dX9_begin_0 : decode cX9_begin 0 = .ok (.aload_n 0, 1) := by decide +kernel
theorem dX9_begin_1 : decode cX9_begin 1 = .ok (.iconst 0, 1) := by decide +kernel
theorem dX9_begin_2 : decode cX9_begin 2 = .ok (.putfield 25, 3) := by decide +kernel
theorem dX9_begin_5 : decode cX9_begin 5 = .ok (.aload_n 0, 1) := by decide +kernel
theorem dX9_begin_6 : decode cX9_begin 6 = .ok (.invokevirtual 28, 3) := by decide +kernel
theorem dX9_begin_9 : decode cX9_begin 9 = .ok (.return_, 1) := by decide +kernel
theorem dX9_advance_0 : decode cX9_advance 0 = .ok (.aload_n 0, 1) := by decide +kernel
theorem dX9_advance_1 : decode cX9_advance 1 = .ok (.getfield 25, 3) := by decide +kernel
theorem dX9_advance_4 : decode cX9_advance 4 = .ok (.aload_n 0, 1) := by decide +kernel
theorem dX9_advance_5 : decode cX9_advance 5 = .ok (.getfield 9, 3) := by decide +kernel
theorem dX9_advance_8 : decode cX9_advance 8 = .ok (.invokevirtual 31, 3) := by decide +kernel
theorem dX9_advance_11 : decode cX9_advance 11 = .ok (.if_icmp .ge 33, 3) := by decide +kernel
theorem dX9_advance_14 : decode cX9_advance 14 = .ok (.aload_n 0, 1) := by decide +kernel
theorem dX9_advance_15 : decode cX9_advance 15 = .ok (.getfield 9, 3) := by decide +kernel
theorem dX9_advance_18 : decode cX9_advance 18 = .ok (.aload_n 0, 1) := by decide +kernel
theorem dX9_advance_19 : decode cX9_advance 19 = .ok (.getfield 25, 3) := by decide +kernel
theorem dX9_advance_22 : decode cX9_advance 22 = .ok (.invokevirtual 37, 3) := by decide +kernel
theorem dX9_advance_25 : decode cX9_advance 25 = .ok (.invokestatic 41, 3) := by decide +kernel
theorem dX9_advance_28 : decode cX9_advance 28 = .ok (.ifCond .eq 16, 3) := by decide +kernel
theorem dX9_advance_31 : decode cX9_advance 31 = .ok (.aload_n 0, 1) := by decide +kernel
theorem dX9_advance_32 : decode cX9_advance 32 = .ok (.dup, 1) := by decide +kernel
theorem dX9_advance_33 : decode cX9_advance 33 = .ok (.getfield 25, 3) := by decide +kernel
theorem dX9_advance_36 : decode cX9_advance 36 = .ok (.iconst 1, 1) := by decide +kernel
theorem dX9_advance_37 : decode cX9_advance 37 = .ok (.iadd, 1) := by decide +kernel
theorem dX9_advance_38 : decode cX9_advance 38 = .ok (.putfield 25, 3) := by decide +kernel
theorem dX9_advance_41 : decode cX9_advance 41 = .ok (.goto (-41), 3) := by decide +kernel
theorem dX9_advance_44 : decode cX9_advance 44 = .ok (.aload_n 0, 1) := by decide +kernel
theorem dX9_advance_45 : decode cX9_advance 45 = .ok (.aload_n 0, 1) := by decide +kernel
theorem dX9_advance_46 : decode cX9_advance 46 = .ok (.getfield 25, 3) := by decide +kernel
theorem dX9_advance_49 : decode cX9_advance 49 = .ok (.putfield 15, 3) := by decide +kernel
theorem dX9_advance_52 : decode cX9_advance 52 = .ok (.aload_n 0, 1) := by decide +kernel
theorem dX9_advance_53 : decode cX9_advance 53 = .ok (.iconst (-1), 1) := by decide +kernel
theorem dX9_advance_54 : decode cX9_advance 54 = .ok (.putfield 22, 3) := by decide +kernel
theorem dX9_advance_57 : decode cX9_advance 57 = .ok (.aload_n 0, 1) := by decide +kernel
theorem dX9_advance_58 : decode cX9_advance 58 = .ok (.getfield 9, 3) := by decide +kernel
theorem dX9_advance_61 : decode cX9_advance 61 = .ok (.aload_n 0, 1) := by decide +kernel
theorem dX9_advance_62 : decode cX9_advance 62 = .ok (.getfield 15, 3) := by decide +kernel
theorem dX9_advance_65 : decode cX9_advance 65 = .ok (.invokevirtual 37, 3) := by decide +kernel
theorem dX9_advance_68 : decode cX9_advance 68 = .ok (.istore_n 1, 1) := by decide +kernel
theorem dX9_advance_69 : decode cX9_advance 69 = .ok (.iload_n 1, 1) := by decide +kernel
theorem dX9_advance_70 : decode cX9_advance 70 = .ok (.iconst (-1), 1) := by decide +kernel
theorem dX9_advance_71 : decode cX9_advance 71 = .ok (.if_icmp .ne 11, 3) := by decide +kernel
theorem dX9_advance_74 : decode cX9_advance 74 = .ok (.aload_n 0, 1) := by decide +kernel
theorem dX9_advance_75 : decode cX9_advance 75 = .ok (.iconst 0, 1) := by decide +kernel
theorem dX9_advance_76 : decode cX9_advance 76 = .ok (.putfield 19, 3) := by decide +kernel
theorem dX9_advance_79 : decode cX9_advance 79 = .ok (.goto 57, 3) := by decide +kernel
theorem dX9_advance_82 : decode cX9_advance 82 = .ok (.iload_n 1, 1) := by decide +kernel
theorem dX9_advance_83 : decode cX9_advance 83 = .ok (.invokestatic 45, 3) := by decide +kernel
theorem dX9_advance_86 : decode cX9_advance 86 = .ok (.ifCond .eq 10, 3) := by decide +kernel
theorem dX9_advance_89 : decode cX9_advance 89 = .ok (.aload_n 0, 1) := by decide +kernel
theorem dX9_advance_90 : decode cX9_advance 90 = .ok (.invokevirtual 48, 3) := by decide +kernel
theorem dX9_advance_93 : decode cX9_advance 93 = .ok (.goto 43, 3) := by decide +kernel
theorem dX9_advance_96 : decode cX9_advance 96 = .ok (.iload_n 1, 1) := by decide +kernel
theorem dX9_advance_97 : decode cX9_advance 97 = .ok (.invokestatic 51, 3) := by decide +kernel
theorem dX9_advance_100 : decode cX9_advance 100 = .ok (.ifCond .eq 10, 3) := by decide +kernel
theorem dX9_advance_103 : decode cX9_advance 103 = .ok (.aload_n 0, 1) := by decide +kernel
theorem dX9_advance_104 : decode cX9_advance 104 = .ok (.invokevirtual 54, 3) := by decide +kernel
theorem dX9_advance_107 : decode cX9_advance 107 = .ok (.goto 29, 3) := by decide +kernel
theorem dX9_advance_110 : decode cX9_advance 110 = .ok (.aload_n 0, 1) := by decide +kernel
theorem dX9_advance_111 : decode cX9_advance 111 = .ok (.dup, 1) := by decide +kernel
theorem dX9_advance_112 : decode cX9_advance 112 = .ok (.getfield 25, 3) := by decide +kernel
theorem dX9_advance_115 : decode cX9_advance 115 = .ok (.iconst 1, 1) := by decide +kernel
theorem dX9_advance_116 : decode cX9_advance 116 = .ok (.iadd, 1) := by decide +kernel
theorem dX9_advance_117 : decode cX9_advance 117 = .ok (.putfield 25, 3) := by decide +kernel
theorem dX9_advance_120 : decode cX9_advance 120 = .ok (.aload_n 0, 1) := by decide +kernel
theorem dX9_advance_121 : decode cX9_advance 121 = .ok (.iload_n 1, 1) := by decide +kernel
theorem dX9_advance_122 : decode cX9_advance 122 = .ok (.invokestatic 57, 3) := by decide +kernel
theorem dX9_advance_125 : decode cX9_advance 125 = .ok (.ifCond .eq 7, 3) := by decide +kernel
theorem dX9_advance_128 : decode cX9_advance 128 = .ok (.iload_n 1, 1) := by decide +kernel
theorem dX9_advance_129 : decode cX9_advance 129 = .ok (.goto 4, 3) := by decide +kernel
theorem dX9_advance_132 : decode cX9_advance 132 = .ok (.iconst 1, 1) := by decide +kernel
theorem dX9_advance_133 : decode cX9_advance 133 = .ok (.putfield 19, 3) := by decide +kernel
theorem dX9_advance_136 : decode cX9_advance 136 = .ok (.return_, 1) := by decide +kernel
theorem dX9_readWord_0 : decode cX9_readWord 0 = .ok (.aload_n 0, 1) := by decide +kernel
theorem dX9_readWord_1 : decode cX9_readWord 1 = .ok (.getfield 25, 3) := by decide +kernel
theorem dX9_readWord_4 : decode cX9_readWord 4 = .ok (.aload_n 0, 1) := by decide +kernel
theorem dX9_readWord_5 : decode cX9_readWord 5 = .ok (.getfield 9, 3) := by decide +kernel
theorem dX9_readWord_8 : decode cX9_readWord 8 = .ok (.invokevirtual 31, 3) := by decide +kernel
theorem dX9_readWord_11 : decode cX9_readWord 11 = .ok (.if_icmp .ge 50, 3) := by decide +kernel
theorem dX9_readWord_14 : decode cX9_readWord 14 = .ok (.aload_n 0, 1) := by decide +kernel
theorem dX9_readWord_15 : decode cX9_readWord 15 = .ok (.getfield 9, 3) := by decide +kernel
theorem dX9_readWord_18 : decode cX9_readWord 18 = .ok (.aload_n 0, 1) := by decide +kernel
theorem dX9_readWord_19 : decode cX9_readWord 19 = .ok (.getfield 25, 3) := by decide +kernel
theorem dX9_readWord_22 : decode cX9_readWord 22 = .ok (.invokevirtual 37, 3) := by decide +kernel
theorem dX9_readWord_25 : decode cX9_readWord 25 = .ok (.invokestatic 45, 3) := by decide +kernel
theorem dX9_readWord_28 : decode cX9_readWord 28 = .ok (.ifCond .ne 20, 3) := by decide +kernel
theorem dX9_readWord_31 : decode cX9_readWord 31 = .ok (.aload_n 0, 1) := by decide +kernel
theorem dX9_readWord_32 : decode cX9_readWord 32 = .ok (.getfield 9, 3) := by decide +kernel
theorem dX9_readWord_35 : decode cX9_readWord 35 = .ok (.aload_n 0, 1) := by decide +kernel
theorem dX9_readWord_36 : decode cX9_readWord 36 = .ok (.getfield 25, 3) := by decide +kernel
theorem dX9_readWord_39 : decode cX9_readWord 39 = .ok (.invokevirtual 37, 3) := by decide +kernel
theorem dX9_readWord_42 : decode cX9_readWord 42 = .ok (.invokestatic 51, 3) := by decide +kernel
theorem dX9_readWord_45 : decode cX9_readWord 45 = .ok (.ifCond .eq 16, 3) := by decide +kernel
theorem dX9_readWord_48 : decode cX9_readWord 48 = .ok (.aload_n 0, 1) := by decide +kernel
theorem dX9_readWord_49 : decode cX9_readWord 49 = .ok (.dup, 1) := by decide +kernel
theorem dX9_readWord_50 : decode cX9_readWord 50 = .ok (.getfield 25, 3) := by decide +kernel
theorem dX9_readWord_53 : decode cX9_readWord 53 = .ok (.iconst 1, 1) := by decide +kernel
theorem dX9_readWord_54 : decode cX9_readWord 54 = .ok (.iadd, 1) := by decide +kernel
theorem dX9_readWord_55 : decode cX9_readWord 55 = .ok (.putfield 25, 3) := by decide +kernel
theorem dX9_readWord_58 : decode cX9_readWord 58 = .ok (.goto (-58), 3) := by decide +kernel
theorem dX9_readWord_61 : decode cX9_readWord 61 = .ok (.aload_n 0, 1) := by decide +kernel
theorem dX9_readWord_62 : decode cX9_readWord 62 = .ok (.getfield 25, 3) := by decide +kernel
theorem dX9_readWord_65 : decode cX9_readWord 65 = .ok (.aload_n 0, 1) := by decide +kernel
theorem dX9_readWord_66 : decode cX9_readWord 66 = .ok (.getfield 15, 3) := by decide +kernel
theorem dX9_readWord_69 : decode cX9_readWord 69 = .ok (.isub, 1) := by decide +kernel
theorem dX9_readWord_70 : decode cX9_readWord 70 = .ok (.bipush 8, 2) := by decide +kernel
theorem dX9_readWord_72 : decode cX9_readWord 72 = .ok (.if_icmp .le 9, 3) := by decide +kernel
theorem dX9_readWord_75 : decode cX9_readWord 75 = .ok (.aload_n 0, 1) := by decide +kernel
theorem dX9_readWord_76 : decode cX9_readWord 76 = .ok (.iconst 1, 1) := by decide +kernel
theorem dX9_readWord_77 : decode cX9_readWord 77 = .ok (.putfield 19, 3) := by decide +kernel
theorem dX9_readWord_80 : decode cX9_readWord 80 = .ok (.return_, 1) := by decide +kernel
theorem dX9_readWord_81 : decode cX9_readWord 81 = .ok (.aload_n 0, 1) := by decide +kernel
theorem dX9_readWord_82 : decode cX9_readWord 82 = .ok (.invokevirtual 60, 3) := by decide +kernel
theorem dX9_readWord_85 : decode cX9_readWord 85 = .ok (.istore_n 1, 1) := by decide +kernel
theorem dX9_readWord_86 : decode cX9_readWord 86 = .ok (.iload_n 1, 1) := by decide +kernel
theorem dX9_readWord_87 : decode cX9_readWord 87 = .ok (.bipush 14, 2) := by decide +kernel
theorem dX9_readWord_89 : decode cX9_readWord 89 = .ok (.if_icmp .ge 16, 3) := by decide +kernel
theorem dX9_readWord_92 : decode cX9_readWord 92 = .ok (.aload_n 0, 1) := by decide +kernel
theorem dX9_readWord_93 : decode cX9_readWord 93 = .ok (.iconst 3, 1) := by decide +kernel
theorem dX9_readWord_94 : decode cX9_readWord 94 = .ok (.putfield 19, 3) := by decide +kernel
theorem dX9_readWord_97 : decode cX9_readWord 97 = .ok (.aload_n 0, 1) := by decide +kernel
theorem dX9_readWord_98 : decode cX9_readWord 98 = .ok (.iload_n 1, 1) := by decide +kernel
theorem dX9_readWord_99 : decode cX9_readWord 99 = .ok (.putfield 22, 3) := by decide +kernel
theorem dX9_readWord_102 : decode cX9_readWord 102 = .ok (.goto 8, 3) := by decide +kernel
theorem dX9_readWord_105 : decode cX9_readWord 105 = .ok (.aload_n 0, 1) := by decide +kernel
theorem dX9_readWord_106 : decode cX9_readWord 106 = .ok (.iload_n 1, 1) := by decide +kernel
theorem dX9_readWord_107 : decode cX9_readWord 107 = .ok (.putfield 19, 3) := by decide +kernel
theorem dX9_readWord_110 : decode cX9_readWord 110 = .ok (.return_, 1) := by decide +kernel
theorem dX9_readNumber_0 : decode cX9_readNumber 0 = .ok (.aload_n 0, 1) := by decide +kernel
theorem dX9_readNumber_1 : decode cX9_readNumber 1 = .ok (.iconst 0, 1) := by decide +kernel
theorem dX9_readNumber_2 : decode cX9_readNumber 2 = .ok (.putfield 22, 3) := by decide +kernel
theorem dX9_readNumber_5 : decode cX9_readNumber 5 = .ok (.aload_n 0, 1) := by decide +kernel
theorem dX9_readNumber_6 : decode cX9_readNumber 6 = .ok (.getfield 25, 3) := by decide +kernel
theorem dX9_readNumber_9 : decode cX9_readNumber 9 = .ok (.aload_n 0, 1) := by decide +kernel
theorem dX9_readNumber_10 : decode cX9_readNumber 10 = .ok (.getfield 9, 3) := by decide +kernel
theorem dX9_readNumber_13 : decode cX9_readNumber 13 = .ok (.invokevirtual 31, 3) := by decide +kernel
theorem dX9_readNumber_16 : decode cX9_readNumber 16 = .ok (.if_icmp .ge 59, 3) := by decide +kernel
theorem dX9_readNumber_19 : decode cX9_readNumber 19 = .ok (.aload_n 0, 1) := by decide +kernel
theorem dX9_readNumber_20 : decode cX9_readNumber 20 = .ok (.getfield 9, 3) := by decide +kernel
theorem dX9_readNumber_23 : decode cX9_readNumber 23 = .ok (.aload_n 0, 1) := by decide +kernel
theorem dX9_readNumber_24 : decode cX9_readNumber 24 = .ok (.getfield 25, 3) := by decide +kernel
theorem dX9_readNumber_27 : decode cX9_readNumber 27 = .ok (.invokevirtual 37, 3) := by decide +kernel
theorem dX9_readNumber_30 : decode cX9_readNumber 30 = .ok (.invokestatic 51, 3) := by decide +kernel
theorem dX9_readNumber_33 : decode cX9_readNumber 33 = .ok (.ifCond .eq 42, 3) := by decide +kernel
theorem dX9_readNumber_36 : decode cX9_readNumber 36 = .ok (.aload_n 0, 1) := by decide +kernel
theorem dX9_readNumber_37 : decode cX9_readNumber 37 = .ok (.aload_n 0, 1) := by decide +kernel
theorem dX9_readNumber_38 : decode cX9_readNumber 38 = .ok (.getfield 22, 3) := by decide +kernel
theorem dX9_readNumber_41 : decode cX9_readNumber 41 = .ok (.bipush 10, 2) := by decide +kernel
theorem dX9_readNumber_43 : decode cX9_readNumber 43 = .ok (.imul, 1) := by decide +kernel
theorem dX9_readNumber_44 : decode cX9_readNumber 44 = .ok (.aload_n 0, 1) := by decide +kernel
theorem dX9_readNumber_45 : decode cX9_readNumber 45 = .ok (.getfield 9, 3) := by decide +kernel
theorem dX9_readNumber_48 : decode cX9_readNumber 48 = .ok (.aload_n 0, 1) := by decide +kernel
theorem dX9_readNumber_49 : decode cX9_readNumber 49 = .ok (.getfield 25, 3) := by decide +kernel
theorem dX9_readNumber_52 : decode cX9_readNumber 52 = .ok (.invokevirtual 37, 3) := by decide +kernel
theorem dX9_readNumber_55 : decode cX9_readNumber 55 = .ok (.iadd, 1) := by decide +kernel
theorem dX9_readNumber_56 : decode cX9_readNumber 56 = .ok (.bipush 48, 2) := by decide +kernel
theorem dX9_readNumber_58 : decode cX9_readNumber 58 = .ok (.isub, 1) := by decide +kernel
theorem dX9_readNumber_59 : decode cX9_readNumber 59 = .ok (.putfield 22, 3) := by decide +kernel
theorem dX9_readNumber_62 : decode cX9_readNumber 62 = .ok (.aload_n 0, 1) := by decide +kernel
theorem dX9_readNumber_63 : decode cX9_readNumber 63 = .ok (.dup, 1) := by decide +kernel
theorem dX9_readNumber_64 : decode cX9_readNumber 64 = .ok (.getfield 25, 3) := by decide +kernel
theorem dX9_readNumber_67 : decode cX9_readNumber 67 = .ok (.iconst 1, 1) := by decide +kernel
theorem dX9_readNumber_68 : decode cX9_readNumber 68 = .ok (.iadd, 1) := by decide +kernel
theorem dX9_readNumber_69 : decode cX9_readNumber 69 = .ok (.putfield 25, 3) := by decide +kernel
theorem dX9_readNumber_72 : decode cX9_readNumber 72 = .ok (.goto (-67), 3) := by decide +kernel
theorem dX9_readNumber_75 : decode cX9_readNumber 75 = .ok (.aload_n 0, 1) := by decide +kernel
theorem dX9_readNumber_76 : decode cX9_readNumber 76 = .ok (.getfield 25, 3) := by decide +kernel
theorem dX9_readNumber_79 : decode cX9_readNumber 79 = .ok (.aload_n 0, 1) := by decide +kernel
theorem dX9_readNumber_80 : decode cX9_readNumber 80 = .ok (.getfield 15, 3) := by decide +kernel
theorem dX9_readNumber_83 : decode cX9_readNumber 83 = .ok (.isub, 1) := by decide +kernel
theorem dX9_readNumber_84 : decode cX9_readNumber 84 = .ok (.bipush 6, 2) := by decide +kernel
theorem dX9_readNumber_86 : decode cX9_readNumber 86 = .ok (.if_icmp .gt 24, 3) := by decide +kernel
theorem dX9_readNumber_89 : decode cX9_readNumber 89 = .ok (.aload_n 0, 1) := by decide +kernel
theorem dX9_readNumber_90 : decode cX9_readNumber 90 = .ok (.getfield 9, 3) := by decide +kernel
theorem dX9_readNumber_93 : decode cX9_readNumber 93 = .ok (.aload_n 0, 1) := by decide +kernel
theorem dX9_readNumber_94 : decode cX9_readNumber 94 = .ok (.getfield 25, 3) := by decide +kernel
theorem dX9_readNumber_97 : decode cX9_readNumber 97 = .ok (.invokevirtual 37, 3) := by decide +kernel
theorem dX9_readNumber_100 : decode cX9_readNumber 100 = .ok (.invokestatic 45, 3) := by decide +kernel
theorem dX9_readNumber_103 : decode cX9_readNumber 103 = .ok (.ifCond .ne 7, 3) := by decide +kernel
theorem dX9_readNumber_106 : decode cX9_readNumber 106 = .ok (.iconst 1, 1) := by decide +kernel
theorem dX9_readNumber_107 : decode cX9_readNumber 107 = .ok (.goto 4, 3) := by decide +kernel
theorem dX9_readNumber_110 : decode cX9_readNumber 110 = .ok (.iconst 0, 1) := by decide +kernel
theorem dX9_readNumber_111 : decode cX9_readNumber 111 = .ok (.istore_n 1, 1) := by decide +kernel
theorem dX9_readNumber_112 : decode cX9_readNumber 112 = .ok (.aload_n 0, 1) := by decide +kernel
theorem dX9_readNumber_113 : decode cX9_readNumber 113 = .ok (.iload_n 1, 1) := by decide +kernel
theorem dX9_readNumber_114 : decode cX9_readNumber 114 = .ok (.ifCond .eq 7, 3) := by decide +kernel
theorem dX9_readNumber_117 : decode cX9_readNumber 117 = .ok (.iconst 2, 1) := by decide +kernel
theorem dX9_readNumber_118 : decode cX9_readNumber 118 = .ok (.goto 4, 3) := by decide +kernel
theorem dX9_readNumber_121 : decode cX9_readNumber 121 = .ok (.iconst 1, 1) := by decide +kernel
theorem dX9_readNumber_122 : decode cX9_readNumber 122 = .ok (.putfield 19, 3) := by decide +kernel
theorem dX9_readNumber_125 : decode cX9_readNumber 125 = .ok (.return_, 1) := by decide +kernel
theorem dX9_wordNumber_0 : decode cX9_wordNumber 0 = .ok (.iconst 0, 1) := by decide +kernel
theorem dX9_wordNumber_1 : decode cX9_wordNumber 1 = .ok (.istore_n 1, 1) := by decide +kernel
theorem dX9_wordNumber_2 : decode cX9_wordNumber 2 = .ok (.iload_n 1, 1) := by decide +kernel
theorem dX9_wordNumber_3 : decode cX9_wordNumber 3 = .ok (.bipush 19, 2) := by decide +kernel
theorem dX9_wordNumber_5 : decode cX9_wordNumber 5 = .ok (.if_icmp .ge 44, 3) := by decide +kernel
theorem dX9_wordNumber_8 : decode cX9_wordNumber 8 = .ok (.iconst 0, 1) := by decide +kernel
theorem dX9_wordNumber_9 : decode cX9_wordNumber 9 = .ok (.istore_n 2, 1) := by decide +kernel
theorem dX9_wordNumber_10 : decode cX9_wordNumber 10 = .ok (.iload_n 2, 1) := by decide +kernel
theorem dX9_wordNumber_11 : decode cX9_wordNumber 11 = .ok (.bipush 8, 2) := by decide +kernel
theorem dX9_wordNumber_13 : decode cX9_wordNumber 13 = .ok (.if_icmp .ge 22, 3) := by decide +kernel
theorem dX9_wordNumber_16 : decode cX9_wordNumber 16 = .ok (.iload_n 1, 1) := by decide +kernel
theorem dX9_wordNumber_17 : decode cX9_wordNumber 17 = .ok (.iload_n 2, 1) := by decide +kernel
theorem dX9_wordNumber_18 : decode cX9_wordNumber 18 = .ok (.invokestatic 63, 3) := by decide +kernel
theorem dX9_wordNumber_21 : decode cX9_wordNumber 21 = .ok (.aload_n 0, 1) := by decide +kernel
theorem dX9_wordNumber_22 : decode cX9_wordNumber 22 = .ok (.iload_n 2, 1) := by decide +kernel
theorem dX9_wordNumber_23 : decode cX9_wordNumber 23 = .ok (.invokevirtual 67, 3) := by decide +kernel
theorem dX9_wordNumber_26 : decode cX9_wordNumber 26 = .ok (.if_icmp .ne 9, 3) := by decide +kernel
theorem dX9_wordNumber_29 : decode cX9_wordNumber 29 = .ok (.iinc 2 1, 3) := by decide +kernel
theorem dX9_wordNumber_32 : decode cX9_wordNumber 32 = .ok (.goto (-22), 3) := by decide +kernel
theorem dX9_wordNumber_35 : decode cX9_wordNumber 35 = .ok (.iload_n 2, 1) := by decide +kernel
theorem dX9_wordNumber_36 : decode cX9_wordNumber 36 = .ok (.bipush 8, 2) := by decide +kernel
theorem dX9_wordNumber_38 : decode cX9_wordNumber 38 = .ok (.if_icmp .ne 5, 3) := by decide +kernel
theorem dX9_wordNumber_41 : decode cX9_wordNumber 41 = .ok (.iload_n 1, 1) := by decide +kernel
theorem dX9_wordNumber_42 : decode cX9_wordNumber 42 = .ok (.ireturn, 1) := by decide +kernel
theorem dX9_wordNumber_43 : decode cX9_wordNumber 43 = .ok (.iinc 1 1, 3) := by decide +kernel
theorem dX9_wordNumber_46 : decode cX9_wordNumber 46 = .ok (.goto (-44), 3) := by decide +kernel
theorem dX9_wordNumber_49 : decode cX9_wordNumber 49 = .ok (.iconst (-1), 1) := by decide +kernel
theorem dX9_wordNumber_50 : decode cX9_wordNumber 50 = .ok (.ireturn, 1) := by decide +kernel
theorem dX9_letterOf_0 : decode cX9_letterOf 0 = .ok (.iload_n 0, 1) := by decide +kernel
theorem dX9_letterOf_1 : decode cX9_letterOf 1 = .ok (.bipush 8, 2) := by decide +kernel
theorem dX9_letterOf_3 : decode cX9_letterOf 3 = .ok (.imul, 1) := by decide +kernel
theorem dX9_letterOf_4 : decode cX9_letterOf 4 = .ok (.iload_n 1, 1) := by decide +kernel
theorem dX9_letterOf_5 : decode cX9_letterOf 5 = .ok (.iadd, 1) := by decide +kernel
theorem dX9_letterOf_6 : decode cX9_letterOf 6 = .ok (.istore_n 2, 1) := by decide +kernel
theorem dX9_letterOf_7 : decode cX9_letterOf 7 = .ok (.iload_n 2, 1) := by decide +kernel
theorem dX9_letterOf_8 : decode cX9_letterOf 8 = .ok (.ldc 70, 2) := by decide +kernel
theorem dX9_letterOf_10 : decode cX9_letterOf 10 = .ok (.invokevirtual 72, 3) := by decide +kernel
theorem dX9_letterOf_13 : decode cX9_letterOf 13 = .ok (.if_icmp .ge 12, 3) := by decide +kernel
theorem dX9_letterOf_16 : decode cX9_letterOf 16 = .ok (.ldc 70, 2) := by decide +kernel
theorem dX9_letterOf_18 : decode cX9_letterOf 18 = .ok (.iload_n 2, 1) := by decide +kernel
theorem dX9_letterOf_19 : decode cX9_letterOf 19 = .ok (.invokevirtual 75, 3) := by decide +kernel
theorem dX9_letterOf_22 : decode cX9_letterOf 22 = .ok (.goto 4, 3) := by decide +kernel
theorem dX9_letterOf_25 : decode cX9_letterOf 25 = .ok (.iconst (-1), 1) := by decide +kernel
theorem dX9_letterOf_26 : decode cX9_letterOf 26 = .ok (.ireturn, 1) := by decide +kernel
theorem dX9_letterHere_0 : decode cX9_letterHere 0 = .ok (.aload_n 0, 1) := by decide +kernel
theorem dX9_letterHere_1 : decode cX9_letterHere 1 = .ok (.getfield 15, 3) := by decide +kernel
theorem dX9_letterHere_4 : decode cX9_letterHere 4 = .ok (.iload_n 1, 1) := by decide +kernel
theorem dX9_letterHere_5 : decode cX9_letterHere 5 = .ok (.iadd, 1) := by decide +kernel
theorem dX9_letterHere_6 : decode cX9_letterHere 6 = .ok (.aload_n 0, 1) := by decide +kernel
theorem dX9_letterHere_7 : decode cX9_letterHere 7 = .ok (.getfield 25, 3) := by decide +kernel
theorem dX9_letterHere_10 : decode cX9_letterHere 10 = .ok (.if_icmp .ge 19, 3) := by decide +kernel
theorem dX9_letterHere_13 : decode cX9_letterHere 13 = .ok (.aload_n 0, 1) := by decide +kernel
theorem dX9_letterHere_14 : decode cX9_letterHere 14 = .ok (.getfield 9, 3) := by decide +kernel
theorem dX9_letterHere_17 : decode cX9_letterHere 17 = .ok (.aload_n 0, 1) := by decide +kernel
theorem dX9_letterHere_18 : decode cX9_letterHere 18 = .ok (.getfield 15, 3) := by decide +kernel
theorem dX9_letterHere_21 : decode cX9_letterHere 21 = .ok (.iload_n 1, 1) := by decide +kernel
theorem dX9_letterHere_22 : decode cX9_letterHere 22 = .ok (.iadd, 1) := by decide +kernel
theorem dX9_letterHere_23 : decode cX9_letterHere 23 = .ok (.invokevirtual 37, 3) := by decide +kernel
theorem dX9_letterHere_26 : decode cX9_letterHere 26 = .ok (.goto 5, 3) := by decide +kernel
theorem dX9_letterHere_29 : decode cX9_letterHere 29 = .ok (.bipush 32, 2) := by decide +kernel
theorem dX9_letterHere_31 : decode cX9_letterHere 31 = .ok (.ireturn, 1) := by decide +kernel
theorem dX9_isBlank_0 : decode cX9_isBlank 0 = .ok (.iload_n 0, 1) := by decide +kernel
theorem dX9_isBlank_1 : decode cX9_isBlank 1 = .ok (.bipush 32, 2) := by decide +kernel
theorem dX9_isBlank_3 : decode cX9_isBlank 3 = .ok (.if_icmp .eq 9, 3) := by decide +kernel
theorem dX9_isBlank_6 : decode cX9_isBlank 6 = .ok (.iload_n 0, 1) := by decide +kernel
theorem dX9_isBlank_7 : decode cX9_isBlank 7 = .ok (.bipush 10, 2) := by decide +kernel
theorem dX9_isBlank_9 : decode cX9_isBlank 9 = .ok (.if_icmp .ne 7, 3) := by decide +kernel
theorem dX9_isBlank_12 : decode cX9_isBlank 12 = .ok (.iconst 1, 1) := by decide +kernel
theorem dX9_isBlank_13 : decode cX9_isBlank 13 = .ok (.goto 4, 3) := by decide +kernel
theorem dX9_isBlank_16 : decode cX9_isBlank 16 = .ok (.iconst 0, 1) := by decide +kernel
theorem dX9_isBlank_17 : decode cX9_isBlank 17 = .ok (.ireturn, 1) := by decide +kernel
theorem dX9_isLetter_0 : decode cX9_isLetter 0 = .ok (.iload_n 0, 1) := by decide +kernel
theorem dX9_isLetter_1 : decode cX9_isLetter 1 = .ok (.bipush 97, 2) := by decide +kernel
theorem dX9_isLetter_3 : decode cX9_isLetter 3 = .ok (.if_icmp .lt 13, 3) := by decide +kernel
theorem dX9_isLetter_6 : decode cX9_isLetter 6 = .ok (.iload_n 0, 1) := by decide +kernel
theorem dX9_isLetter_7 : decode cX9_isLetter 7 = .ok (.bipush 122, 2) := by decide +kernel
theorem dX9_isLetter_9 : decode cX9_isLetter 9 = .ok (.if_icmp .gt 7, 3) := by decide +kernel
theorem dX9_isLetter_12 : decode cX9_isLetter 12 = .ok (.iconst 1, 1) := by decide +kernel
theorem dX9_isLetter_13 : decode cX9_isLetter 13 = .ok (.goto 4, 3) := by decide +kernel
theorem dX9_isLetter_16 : decode cX9_isLetter 16 = .ok (.iconst 0, 1) := by decide +kernel
theorem dX9_isLetter_17 : decode cX9_isLetter 17 = .ok (.ireturn, 1) := by decide +kernel
theorem dX9_isDigit_0 : decode cX9_isDigit 0 = .ok (.iload_n 0, 1) := by decide +kernel
theorem dX9_isDigit_1 : decode cX9_isDigit 1 = .ok (.bipush 48, 2) := by decide +kernel
theorem dX9_isDigit_3 : decode cX9_isDigit 3 = .ok (.if_icmp .lt 13, 3) := by decide +kernel
theorem dX9_isDigit_6 : decode cX9_isDigit 6 = .ok (.iload_n 0, 1) := by decide +kernel
theorem dX9_isDigit_7 : decode cX9_isDigit 7 = .ok (.bipush 57, 2) := by decide +kernel
theorem dX9_isDigit_9 : decode cX9_isDigit 9 = .ok (.if_icmp .gt 7, 3) := by decide +kernel
theorem dX9_isDigit_12 : decode cX9_isDigit 12 = .ok (.iconst 1, 1) := by decide +kernel
theorem dX9_isDigit_13 : decode cX9_isDigit 13 = .ok (.goto 4, 3) := by decide +kernel
theorem dX9_isDigit_16 : decode cX9_isDigit 16 = .ok (.iconst 0, 1) := by decide +kernel
theorem dX9_isDigit_17 : decode cX9_isDigit 17 = .ok (.ireturn, 1) := by decide +kernel
theorem dX9_isSign_0 : decode cX9_isSign 0 = .ok (.iload_n 0, 1) := by decide +kernel
theorem dX9_isSign_1 : decode cX9_isSign 1 = .ok (.tableswitch 109 40 62 #[107, 107, 109, 107, 109, 107, 109, 109, 109, 109, 109, 109, 109, 109, 109, 109, 109, 109, 109, 107, 107, 107, 107], 107) := by decide +kernel
theorem dX9_isSign_108 : decode cX9_isSign 108 = .ok (.iconst 1, 1) := by decide +kernel
theorem dX9_isSign_109 : decode cX9_isSign 109 = .ok (.ireturn, 1) := by decide +kernel
theorem dX9_isSign_110 : decode cX9_isSign 110 = .ok (.iconst 0, 1) := by decide +kernel
theorem dX9_isSign_111 : decode cX9_isSign 111 = .ok (.ireturn, 1) := by decide +kernel
theorem dX10_init_0 : decode cX10_init 0 = .ok (.aload_n 0, 1) := by decide +kernel
theorem dX10_init_1 : decode cX10_init 1 = .ok (.invokespecial 3, 3) := by decide +kernel
theorem dX10_init_4 : decode cX10_init 4 = .ok (.aload_n 0, 1) := by decide +kernel
theorem dX10_init_5 : decode cX10_init 5 = .ok (.sipush 200, 3) := by decide +kernel
theorem dX10_init_8 : decode cX10_init 8 = .ok (.newarray .int, 2) := by decide +kernel
theorem dX10_init_10 : decode cX10_init 10 = .ok (.putfield 9, 3) := by decide +kernel
theorem dX10_init_13 : decode cX10_init 13 = .ok (.aload_n 0, 1) := by decide +kernel
theorem dX10_init_14 : decode cX10_init 14 = .ok (.sipush 200, 3) := by decide +kernel
theorem dX10_init_17 : decode cX10_init 17 = .ok (.newarray .int, 2) := by decide +kernel
theorem dX10_init_19 : decode cX10_init 19 = .ok (.putfield 15, 3) := by decide +kernel
theorem dX10_init_22 : decode cX10_init 22 = .ok (.aload_n 0, 1) := by decide +kernel
theorem dX10_init_23 : decode cX10_init 23 = .ok (.sipush 200, 3) := by decide +kernel
theorem dX10_init_26 : decode cX10_init 26 = .ok (.newarray .int, 2) := by decide +kernel
theorem dX10_init_28 : decode cX10_init 28 = .ok (.putfield 18, 3) := by decide +kernel
theorem dX10_init_31 : decode cX10_init 31 = .ok (.aload_n 0, 1) := by decide +kernel
theorem dX10_init_32 : decode cX10_init 32 = .ok (.sipush 200, 3) := by decide +kernel
theorem dX10_init_35 : decode cX10_init 35 = .ok (.newarray .int, 2) := by decide +kernel
theorem dX10_init_37 : decode cX10_init 37 = .ok (.putfield 21, 3) := by decide +kernel
theorem dX10_init_40 : decode cX10_init 40 = .ok (.aload_n 0, 1) := by decide +kernel
theorem dX10_init_41 : decode cX10_init 41 = .ok (.bipush 36, 2) := by decide +kernel
theorem dX10_init_43 : decode cX10_init 43 = .ok (.newarray .int, 2) := by decide +kernel
theorem dX10_init_45 : decode cX10_init 45 = .ok (.putfield 24, 3) := by decide +kernel
theorem dX10_init_48 : decode cX10_init 48 = .ok (.aload_n 0, 1) := by decide +kernel
theorem dX10_init_49 : decode cX10_init 49 = .ok (.iconst 3, 1) := by decide +kernel
theorem dX10_init_50 : decode cX10_init 50 = .ok (.newarray .int, 2) := by decide +kernel
theorem dX10_init_52 : decode cX10_init 52 = .ok (.putfield 27, 3) := by decide +kernel
theorem dX10_init_55 : decode cX10_init 55 = .ok (.return_, 1) := by decide +kernel
theorem dX10_count_0 : decode cX10_count 0 = .ok (.aload_n 0, 1) := by decide +kernel
theorem dX10_count_1 : decode cX10_count 1 = .ok (.getfield 30, 3) := by decide +kernel
theorem dX10_count_4 : decode cX10_count 4 = .ok (.ireturn, 1) := by decide +kernel
theorem dX10_begin_0 : decode cX10_begin 0 = .ok (.iconst 0, 1) := by decide +kernel
theorem dX10_begin_1 : decode cX10_begin 1 = .ok (.istore_n 3, 1) := by decide +kernel
theorem dX10_begin_2 : decode cX10_begin 2 = .ok (.iload_n 3, 1) := by decide +kernel
theorem dX10_begin_3 : decode cX10_begin 3 = .ok (.iconst 3, 1) := by decide +kernel
theorem dX10_begin_4 : decode cX10_begin 4 = .ok (.if_icmp .ge 20, 3) := by decide +kernel
theorem dX10_begin_7 : decode cX10_begin 7 = .ok (.aload_n 0, 1) := by decide +kernel
theorem dX10_begin_8 : decode cX10_begin 8 = .ok (.getfield 24, 3) := by decide +kernel
theorem dX10_begin_11 : decode cX10_begin 11 = .ok (.iload_n 1, 1) := by decide +kernel
theorem dX10_begin_12 : decode cX10_begin 12 = .ok (.iconst 3, 1) := by decide +kernel
theorem dX10_begin_13 : decode cX10_begin 13 = .ok (.imul, 1) := by decide +kernel
theorem dX10_begin_14 : decode cX10_begin 14 = .ok (.iload_n 3, 1) := by decide +kernel
theorem dX10_begin_15 : decode cX10_begin 15 = .ok (.iadd, 1) := by decide +kernel
theorem dX10_begin_16 : decode cX10_begin 16 = .ok (.iload_n 2, 1) := by decide +kernel
theorem dX10_begin_17 : decode cX10_begin 17 = .ok (.iastore, 1) := by decide +kernel
theorem dX10_begin_18 : decode cX10_begin 18 = .ok (.iinc 3 1, 3) := by decide +kernel
theorem dX10_begin_21 : decode cX10_begin 21 = .ok (.goto (-19), 3) := by decide +kernel
theorem dX10_begin_24 : decode cX10_begin 24 = .ok (.return_, 1) := by decide +kernel
theorem dX10_setFall_0 : decode cX10_setFall 0 = .ok (.aload_n 0, 1) := by decide +kernel
theorem dX10_setFall_1 : decode cX10_setFall 1 = .ok (.getfield 27, 3) := by decide +kernel
theorem dX10_setFall_4 : decode cX10_setFall 4 = .ok (.iload_n 1, 1) := by decide +kernel
theorem dX10_setFall_5 : decode cX10_setFall 5 = .ok (.iload_n 2, 1) := by decide +kernel
theorem dX10_setFall_6 : decode cX10_setFall 6 = .ok (.iastore, 1) := by decide +kernel
theorem dX10_setFall_7 : decode cX10_setFall 7 = .ok (.return_, 1) := by decide +kernel
theorem dX10_add_0 : decode cX10_add 0 = .ok (.aload_n 0, 1) := by decide +kernel
theorem dX10_add_1 : decode cX10_add 1 = .ok (.getfield 30, 3) := by decide +kernel
theorem dX10_add_4 : decode cX10_add 4 = .ok (.sipush 200, 3) := by decide +kernel
theorem dX10_add_7 : decode cX10_add 7 = .ok (.if_icmp .lt 5, 3) := by decide +kernel
theorem dX10_add_10 : decode cX10_add 10 = .ok (.iconst (-1), 1) := by decide +kernel
theorem dX10_add_11 : decode cX10_add 11 = .ok (.ireturn, 1) := by decide +kernel
theorem dX10_add_12 : decode cX10_add 12 = .ok (.aload_n 0, 1) := by decide +kernel
theorem dX10_add_13 : decode cX10_add 13 = .ok (.getfield 9, 3) := by decide +kernel
theorem dX10_add_16 : decode cX10_add 16 = .ok (.aload_n 0, 1) := by decide +kernel
theorem dX10_add_17 : decode cX10_add 17 = .ok (.getfield 30, 3) := by decide +kernel
theorem dX10_add_20 : decode cX10_add 20 = .ok (.iload_n 1, 1) := by decide +kernel
theorem dX10_add_21 : decode cX10_add 21 = .ok (.iastore, 1) := by decide +kernel
theorem dX10_add_22 : decode cX10_add 22 = .ok (.aload_n 0, 1) := by decide +kernel
theorem dX10_add_23 : decode cX10_add 23 = .ok (.getfield 15, 3) := by decide +kernel
theorem dX10_add_26 : decode cX10_add 26 = .ok (.aload_n 0, 1) := by decide +kernel
theorem dX10_add_27 : decode cX10_add 27 = .ok (.getfield 30, 3) := by decide +kernel
theorem dX10_add_30 : decode cX10_add 30 = .ok (.iload_n 3, 1) := by decide +kernel
theorem dX10_add_31 : decode cX10_add 31 = .ok (.iastore, 1) := by decide +kernel
theorem dX10_add_32 : decode cX10_add 32 = .ok (.aload_n 0, 1) := by decide +kernel
theorem dX10_add_33 : decode cX10_add 33 = .ok (.getfield 18, 3) := by decide +kernel
theorem dX10_add_36 : decode cX10_add 36 = .ok (.aload_n 0, 1) := by decide +kernel
theorem dX10_add_37 : decode cX10_add 37 = .ok (.getfield 30, 3) := by decide +kernel
theorem dX10_add_40 : decode cX10_add 40 = .ok (.iload 4, 2) := by decide +kernel
theorem dX10_add_42 : decode cX10_add 42 = .ok (.iastore, 1) := by decide +kernel
theorem dX10_add_43 : decode cX10_add 43 = .ok (.aload_n 0, 1) := by decide +kernel
theorem dX10_add_44 : decode cX10_add 44 = .ok (.getfield 21, 3) := by decide +kernel
theorem dX10_add_47 : decode cX10_add 47 = .ok (.aload_n 0, 1) := by decide +kernel
theorem dX10_add_48 : decode cX10_add 48 = .ok (.getfield 30, 3) := by decide +kernel
theorem dX10_add_51 : decode cX10_add 51 = .ok (.iload 5, 2) := by decide +kernel
theorem dX10_add_53 : decode cX10_add 53 = .ok (.iastore, 1) := by decide +kernel
theorem dX10_add_54 : decode cX10_add 54 = .ok (.aload_n 0, 1) := by decide +kernel
theorem dX10_add_55 : decode cX10_add 55 = .ok (.dup, 1) := by decide +kernel
theorem dX10_add_56 : decode cX10_add 56 = .ok (.getfield 30, 3) := by decide +kernel
theorem dX10_add_59 : decode cX10_add 59 = .ok (.iconst 1, 1) := by decide +kernel
theorem dX10_add_60 : decode cX10_add 60 = .ok (.iadd, 1) := by decide +kernel
theorem dX10_add_61 : decode cX10_add 61 = .ok (.putfield 30, 3) := by decide +kernel
theorem dX10_add_64 : decode cX10_add 64 = .ok (.iload_n 1, 1) := by decide +kernel
theorem dX10_add_65 : decode cX10_add 65 = .ok (.iconst 3, 1) := by decide +kernel
theorem dX10_add_66 : decode cX10_add 66 = .ok (.imul, 1) := by decide +kernel
theorem dX10_add_67 : decode cX10_add 67 = .ok (.iload_n 2, 1) := by decide +kernel
theorem dX10_add_68 : decode cX10_add 68 = .ok (.iadd, 1) := by decide +kernel
theorem dX10_add_69 : decode cX10_add 69 = .ok (.istore 6, 2) := by decide +kernel
theorem dX10_add_71 : decode cX10_add 71 = .ok (.aload_n 0, 1) := by decide +kernel
theorem dX10_add_72 : decode cX10_add 72 = .ok (.getfield 24, 3) := by decide +kernel
theorem dX10_add_75 : decode cX10_add 75 = .ok (.iload 6, 2) := by decide +kernel
theorem dX10_add_77 : decode cX10_add 77 = .ok (.aload_n 0, 1) := by decide +kernel
theorem dX10_add_78 : decode cX10_add 78 = .ok (.getfield 24, 3) := by decide +kernel
theorem dX10_add_81 : decode cX10_add 81 = .ok (.iload 6, 2) := by decide +kernel
theorem dX10_add_83 : decode cX10_add 83 = .ok (.iaload, 1) := by decide +kernel
theorem dX10_add_84 : decode cX10_add 84 = .ok (.iload_n 3, 1) := by decide +kernel
theorem dX10_add_85 : decode cX10_add 85 = .ok (.invokestatic 34, 3) := by decide +kernel
theorem dX10_add_88 : decode cX10_add 88 = .ok (.iastore, 1) := by decide +kernel
theorem dX10_add_89 : decode cX10_add 89 = .ok (.aload_n 0, 1) := by decide +kernel
theorem dX10_add_90 : decode cX10_add 90 = .ok (.getfield 30, 3) := by decide +kernel
theorem dX10_add_93 : decode cX10_add 93 = .ok (.ireturn, 1) := by decide +kernel
theorem dX10_dueDay_0 : decode cX10_dueDay 0 = .ok (.aload_n 0, 1) := by decide +kernel
theorem dX10_dueDay_1 : decode cX10_dueDay 1 = .ok (.getfield 27, 3) := by decide +kernel
theorem dX10_dueDay_4 : decode cX10_dueDay 4 = .ok (.iload_n 2, 1) := by decide +kernel
theorem dX10_dueDay_5 : decode cX10_dueDay 5 = .ok (.iaload, 1) := by decide +kernel
theorem dX10_dueDay_6 : decode cX10_dueDay 6 = .ok (.istore_n 3, 1) := by decide +kernel
theorem dX10_dueDay_7 : decode cX10_dueDay 7 = .ok (.iload_n 3, 1) := by decide +kernel
theorem dX10_dueDay_8 : decode cX10_dueDay 8 = .ok (.ifCond .ne 7, 3) := by decide +kernel
theorem dX10_dueDay_11 : decode cX10_dueDay 11 = .ok (.iconst (-1), 1) := by decide +kernel
theorem dX10_dueDay_12 : decode cX10_dueDay 12 = .ok (.goto 15, 3) := by decide +kernel
theorem dX10_dueDay_15 : decode cX10_dueDay 15 = .ok (.aload_n 0, 1) := by decide +kernel
theorem dX10_dueDay_16 : decode cX10_dueDay 16 = .ok (.getfield 24, 3) := by decide +kernel
theorem dX10_dueDay_19 : decode cX10_dueDay 19 = .ok (.iload_n 1, 1) := by decide +kernel
theorem dX10_dueDay_20 : decode cX10_dueDay 20 = .ok (.iconst 3, 1) := by decide +kernel
theorem dX10_dueDay_21 : decode cX10_dueDay 21 = .ok (.imul, 1) := by decide +kernel
theorem dX10_dueDay_22 : decode cX10_dueDay 22 = .ok (.iload_n 2, 1) := by decide +kernel
theorem dX10_dueDay_23 : decode cX10_dueDay 23 = .ok (.iadd, 1) := by decide +kernel
theorem dX10_dueDay_24 : decode cX10_dueDay 24 = .ok (.iaload, 1) := by decide +kernel
theorem dX10_dueDay_25 : decode cX10_dueDay 25 = .ok (.iload_n 3, 1) := by decide +kernel
theorem dX10_dueDay_26 : decode cX10_dueDay 26 = .ok (.iadd, 1) := by decide +kernel
theorem dX10_dueDay_27 : decode cX10_dueDay 27 = .ok (.ireturn, 1) := by decide +kernel
theorem dX10_cost_0 : decode cX10_cost 0 = .ok (.iconst 0, 1) := by decide +kernel
theorem dX10_cost_1 : decode cX10_cost 1 = .ok (.istore 5, 2) := by decide +kernel
theorem dX10_cost_3 : decode cX10_cost 3 = .ok (.iconst 0, 1) := by decide +kernel
theorem dX10_cost_4 : decode cX10_cost 4 = .ok (.istore 6, 2) := by decide +kernel
theorem dX10_cost_6 : decode cX10_cost 6 = .ok (.iload 6, 2) := by decide +kernel
theorem dX10_cost_8 : decode cX10_cost 8 = .ok (.aload_n 0, 1) := by decide +kernel
theorem dX10_cost_9 : decode cX10_cost 9 = .ok (.getfield 30, 3) := by decide +kernel
theorem dX10_cost_12 : decode cX10_cost 12 = .ok (.if_icmp .ge 78, 3) := by decide +kernel
theorem dX10_cost_15 : decode cX10_cost 15 = .ok (.aload_n 0, 1) := by decide +kernel
theorem dX10_cost_16 : decode cX10_cost 16 = .ok (.getfield 15, 3) := by decide +kernel
theorem dX10_cost_19 : decode cX10_cost 19 = .ok (.iload 6, 2) := by decide +kernel
theorem dX10_cost_21 : decode cX10_cost 21 = .ok (.iaload, 1) := by decide +kernel
theorem dX10_cost_22 : decode cX10_cost 22 = .ok (.iload_n 2, 1) := by decide +kernel
theorem dX10_cost_23 : decode cX10_cost 23 = .ok (.if_icmp .lt 18, 3) := by decide +kernel
theorem dX10_cost_26 : decode cX10_cost 26 = .ok (.aload_n 0, 1) := by decide +kernel
theorem dX10_cost_27 : decode cX10_cost 27 = .ok (.getfield 15, 3) := by decide +kernel
theorem dX10_cost_30 : decode cX10_cost 30 = .ok (.iload 6, 2) := by decide +kernel
theorem dX10_cost_32 : decode cX10_cost 32 = .ok (.iaload, 1) := by decide +kernel
theorem dX10_cost_33 : decode cX10_cost 33 = .ok (.iload_n 3, 1) := by decide +kernel
theorem dX10_cost_34 : decode cX10_cost 34 = .ok (.if_icmp .gt 7, 3) := by decide +kernel
theorem dX10_cost_37 : decode cX10_cost 37 = .ok (.iconst 1, 1) := by decide +kernel
theorem dX10_cost_38 : decode cX10_cost 38 = .ok (.goto 4, 3) := by decide +kernel
theorem dX10_cost_41 : decode cX10_cost 41 = .ok (.iconst 0, 1) := by decide +kernel
theorem dX10_cost_42 : decode cX10_cost 42 = .ok (.istore 7, 2) := by decide +kernel
theorem dX10_cost_44 : decode cX10_cost 44 = .ok (.aload_n 0, 1) := by decide +kernel
theorem dX10_cost_45 : decode cX10_cost 45 = .ok (.getfield 9, 3) := by decide +kernel
theorem dX10_cost_48 : decode cX10_cost 48 = .ok (.iload 6, 2) := by decide +kernel
theorem dX10_cost_50 : decode cX10_cost 50 = .ok (.iaload, 1) := by decide +kernel
theorem dX10_cost_51 : decode cX10_cost 51 = .ok (.iload_n 1, 1) := by decide +kernel
theorem dX10_cost_52 : decode cX10_cost 52 = .ok (.if_icmp .ne 32, 3) := by decide +kernel
theorem dX10_cost_55 : decode cX10_cost 55 = .ok (.iload 7, 2) := by decide +kernel
theorem dX10_cost_57 : decode cX10_cost 57 = .ok (.ifCond .eq 27, 3) := by decide +kernel
theorem dX10_cost_60 : decode cX10_cost 60 = .ok (.aload_n 0, 1) := by decide +kernel
theorem dX10_cost_61 : decode cX10_cost 61 = .ok (.getfield 18, 3) := by decide +kernel
theorem dX10_cost_64 : decode cX10_cost 64 = .ok (.iload 6, 2) := by decide +kernel
theorem dX10_cost_66 : decode cX10_cost 66 = .ok (.iaload, 1) := by decide +kernel
theorem dX10_cost_67 : decode cX10_cost 67 = .ok (.iload 4, 2) := by decide +kernel
theorem dX10_cost_69 : decode cX10_cost 69 = .ok (.if_icmp .gt 15, 3) := by decide +kernel
theorem dX10_cost_72 : decode cX10_cost 72 = .ok (.iload 5, 2) := by decide +kernel
theorem dX10_cost_74 : decode cX10_cost 74 = .ok (.aload_n 0, 1) := by decide +kernel
theorem dX10_cost_75 : decode cX10_cost 75 = .ok (.getfield 21, 3) := by decide +kernel
theorem dX10_cost_78 : decode cX10_cost 78 = .ok (.iload 6, 2) := by decide +kernel
theorem dX10_cost_80 : decode cX10_cost 80 = .ok (.iaload, 1) := by decide +kernel
theorem dX10_cost_81 : decode cX10_cost 81 = .ok (.iadd, 1) := by decide +kernel
theorem dX10_cost_82 : decode cX10_cost 82 = .ok (.istore 5, 2) := by decide +kernel
theorem dX10_cost_84 : decode cX10_cost 84 = .ok (.iinc 6 1, 3) := by decide +kernel
theorem dX10_cost_87 : decode cX10_cost 87 = .ok (.goto (-81), 3) := by decide +kernel
theorem dX10_cost_90 : decode cX10_cost 90 = .ok (.iload 5, 2) := by decide +kernel
theorem dX10_cost_92 : decode cX10_cost 92 = .ok (.ireturn, 1) := by decide +kernel
theorem dX11_init_0 : decode cX11_init 0 = .ok (.aload_n 0, 1) := by decide +kernel
