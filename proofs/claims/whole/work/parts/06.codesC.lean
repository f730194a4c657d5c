theorem dX6_init_0 : decode cX6_init 0 = .ok (.aload_n 0, 1) := by decide +kernel
theorem dX6_init_1 : decode cX6_init 1 = .ok (.invokespecial 1, 3) := by decide +kernel
theorem dX6_init_4 : decode cX6_init 4 = .ok (.aload_n 0, 1) := by decide +kernel
theorem dX6_init_5 : decode cX6_init 5 = .ok (.sipush 149, 3) := by decide +kernel
theorem dX6_init_8 : decode cX6_init 8 = .ok (.newarray .int, 2) := by decide +kernel
theorem dX6_init_10 : decode cX6_init 10 = .ok (.putfield 7, 3) := by decide +kernel
theorem dX6_init_13 : decode cX6_init 13 = .ok (.aload_n 0, 1) := by decide +kernel
theorem dX6_init_14 : decode cX6_init 14 = .ok (.sipush 149, 3) := by decide +kernel
theorem dX6_init_17 : decode cX6_init 17 = .ok (.newarray .int, 2) := by decide +kernel
theorem dX6_init_19 : decode cX6_init 19 = .ok (.putfield 13, 3) := by decide +kernel
theorem dX6_init_22 : decode cX6_init 22 = .ok (.aload_n 0, 1) := by decide +kernel
theorem dX6_init_23 : decode cX6_init 23 = .ok (.sipush 1788, 3) := by decide +kernel
theorem dX6_init_26 : decode cX6_init 26 = .ok (.newarray .int, 2) := by decide +kernel
theorem dX6_init_28 : decode cX6_init 28 = .ok (.putfield 16, 3) := by decide +kernel
theorem dX6_init_31 : decode cX6_init 31 = .ok (.aload_n 0, 1) := by decide +kernel
theorem dX6_init_32 : decode cX6_init 32 = .ok (.sipush 298, 3) := by decide +kernel
theorem dX6_init_35 : decode cX6_init 35 = .ok (.newarray .int, 2) := by decide +kernel
theorem dX6_init_37 : decode cX6_init 37 = .ok (.putfield 19, 3) := by decide +kernel
theorem dX6_init_40 : decode cX6_init 40 = .ok (.aload_n 0, 1) := by decide +kernel
theorem dX6_init_41 : decode cX6_init 41 = .ok (.iconst 2, 1) := by decide +kernel
theorem dX6_init_42 : decode cX6_init 42 = .ok (.newarray .boolean, 2) := by decide +kernel
theorem dX6_init_44 : decode cX6_init 44 = .ok (.putfield 22, 3) := by decide +kernel
theorem dX6_init_47 : decode cX6_init 47 = .ok (.aload_n 0, 1) := by decide +kernel
theorem dX6_init_48 : decode cX6_init 48 = .ok (.sipush 250, 3) := by decide +kernel
theorem dX6_init_51 : decode cX6_init 51 = .ok (.newarray .int, 2) := by decide +kernel
theorem dX6_init_53 : decode cX6_init 53 = .ok (.putfield 26, 3) := by decide +kernel
theorem dX6_init_56 : decode cX6_init 56 = .ok (.aload_n 0, 1) := by decide +kernel
theorem dX6_init_57 : decode cX6_init 57 = .ok (.bipush 8, 2) := by decide +kernel
theorem dX6_init_59 : decode cX6_init 59 = .ok (.newarray .int, 2) := by decide +kernel
theorem dX6_init_61 : decode cX6_init 61 = .ok (.putfield 29, 3) := by decide +kernel
theorem dX6_init_64 : decode cX6_init 64 = .ok (.aload_n 0, 1) := by decide +kernel
theorem dX6_init_65 : decode cX6_init 65 = .ok (.bipush 8, 2) := by decide +kernel
theorem dX6_init_67 : decode cX6_init 67 = .ok (.newarray .int, 2) := by decide +kernel
theorem dX6_init_69 : decode cX6_init 69 = .ok (.putfield 32, 3) := by decide +kernel
theorem dX6_init_72 : decode cX6_init 72 = .ok (.aload_n 0, 1) := by decide +kernel
theorem dX6_init_73 : decode cX6_init 73 = .ok (.bipush 8, 2) := by decide +kernel
theorem dX6_init_75 : decode cX6_init 75 = .ok (.newarray .int, 2) := by decide +kernel
theorem dX6_init_77 : decode cX6_init 77 = .ok (.putfield 35, 3) := by decide +kernel
theorem dX6_init_80 : decode cX6_init 80 = .ok (.aload_n 0, 1) := by decide +kernel
theorem dX6_init_81 : decode cX6_init 81 = .ok (.bipush 24, 2) := by decide +kernel
theorem dX6_init_83 : decode cX6_init 83 = .ok (.newarray .int, 2) := by decide +kernel
theorem dX6_init_85 : decode cX6_init 85 = .ok (.putfield 38, 3) := by decide +kernel
theorem dX6_init_88 : decode cX6_init 88 = .ok (.return_, 1) := by decide +kernel
theorem dX6_in_0 : decode cX6_in 0 = .ok (.lload_n 0, 1) := by decide +kernel
theorem dX6_in_1 : decode cX6_in 1 = .ok (.lload_n 2, 1) := by decide +kernel
theorem dX6_in_2 : decode cX6_in 2 = .ok (.lcmp, 1) := by decide +kernel
theorem dX6_in_3 : decode cX6_in 3 = .ok (.ifCond .lt 14, 3) := by decide +kernel
theorem dX6_in_6 : decode cX6_in 6 = .ok (.lload_n 0, 1) := by decide +kernel
theorem dX6_in_7 : decode cX6_in 7 = .ok (.lload 4, 2) := by decide +kernel
theorem dX6_in_9 : decode cX6_in 9 = .ok (.lcmp, 1) := by decide +kernel
theorem dX6_in_10 : decode cX6_in 10 = .ok (.ifCond .gt 7, 3) := by decide +kernel
theorem dX6_in_13 : decode cX6_in 13 = .ok (.iconst 1, 1) := by decide +kernel
theorem dX6_in_14 : decode cX6_in 14 = .ok (.goto 4, 3) := by decide +kernel
theorem dX6_in_17 : decode cX6_in 17 = .ok (.iconst 0, 1) := by decide +kernel
theorem dX6_in_18 : decode cX6_in 18 = .ok (.ireturn, 1) := by decide +kernel
theorem dX6_copies_0 : decode cX6_copies 0 = .ok (.iconst 0, 1) := by decide +kernel
theorem dX6_copies_1 : decode cX6_copies 1 = .ok (.istore 4, 2) := by decide +kernel
theorem dX6_copies_3 : decode cX6_copies 3 = .ok (.iload 4, 2) := by decide +kernel
theorem dX6_copies_5 : decode cX6_copies 5 = .ok (.sipush 149, 3) := by decide +kernel
theorem dX6_copies_8 : decode cX6_copies 8 = .ok (.if_icmp .ge 21, 3) := by decide +kernel
theorem dX6_copies_11 : decode cX6_copies 11 = .ok (.aload_n 2, 1) := by decide +kernel
theorem dX6_copies_12 : decode cX6_copies 12 = .ok (.iload_n 3, 1) := by decide +kernel
theorem dX6_copies_13 : decode cX6_copies 13 = .ok (.iload 4, 2) := by decide +kernel
theorem dX6_copies_15 : decode cX6_copies 15 = .ok (.iadd, 1) := by decide +kernel
theorem dX6_copies_16 : decode cX6_copies 16 = .ok (.aload_n 0, 1) := by decide +kernel
theorem dX6_copies_17 : decode cX6_copies 17 = .ok (.iload_n 1, 1) := by decide +kernel
theorem dX6_copies_18 : decode cX6_copies 18 = .ok (.iload 4, 2) := by decide +kernel
theorem dX6_copies_20 : decode cX6_copies 20 = .ok (.iadd, 1) := by decide +kernel
theorem dX6_copies_21 : decode cX6_copies 21 = .ok (.iaload, 1) := by decide +kernel
theorem dX6_copies_22 : decode cX6_copies 22 = .ok (.iastore, 1) := by decide +kernel
theorem dX6_copies_23 : decode cX6_copies 23 = .ok (.iinc 4 1, 3) := by decide +kernel
theorem dX6_copies_26 : decode cX6_copies 26 = .ok (.goto (-23), 3) := by decide +kernel
theorem dX6_copies_29 : decode cX6_copies 29 = .ok (.return_, 1) := by decide +kernel
theorem dX6_isRights_0 : decode cX6_isRights 0 = .ok (.aload_n 0, 1) := by decide +kernel
theorem dX6_isRights_1 : decode cX6_isRights 1 = .ok (.getfield 7, 3) := by decide +kernel
theorem dX6_isRights_4 : decode cX6_isRights 4 = .ok (.iconst 0, 1) := by decide +kernel
theorem dX6_isRights_5 : decode cX6_isRights 5 = .ok (.iaload, 1) := by decide +kernel
theorem dX6_isRights_6 : decode cX6_isRights 6 = .ok (.ifCond .le 7, 3) := by decide +kernel
theorem dX6_isRights_9 : decode cX6_isRights 9 = .ok (.iconst 1, 1) := by decide +kernel
theorem dX6_isRights_10 : decode cX6_isRights 10 = .ok (.goto 4, 3) := by decide +kernel
theorem dX6_isRights_13 : decode cX6_isRights 13 = .ok (.iconst 0, 1) := by decide +kernel
theorem dX6_isRights_14 : decode cX6_isRights 14 = .ok (.ireturn, 1) := by decide +kernel
theorem dX6_isLand_0 : decode cX6_isLand 0 = .ok (.iload_n 1, 1) := by decide +kernel
theorem dX6_isLand_1 : decode cX6_isLand 1 = .ok (.i2l, 1) := by decide +kernel
theorem dX6_isLand_2 : decode cX6_isLand 2 = .ok (.lconst 0, 1) := by decide +kernel
theorem dX6_isLand_3 : decode cX6_isLand 3 = .ok (.aload_n 0, 1) := by decide +kernel
theorem dX6_isLand_4 : decode cX6_isLand 4 = .ok (.getfield 7, 3) := by decide +kernel
theorem dX6_isLand_7 : decode cX6_isLand 7 = .ok (.iconst 0, 1) := by decide +kernel
theorem dX6_isLand_8 : decode cX6_isLand 8 = .ok (.iaload, 1) := by decide +kernel
theorem dX6_isLand_9 : decode cX6_isLand 9 = .ok (.iconst 1, 1) := by decide +kernel
theorem dX6_isLand_10 : decode cX6_isLand 10 = .ok (.isub, 1) := by decide +kernel
theorem dX6_isLand_11 : decode cX6_isLand 11 = .ok (.i2l, 1) := by decide +kernel
theorem dX6_isLand_12 : decode cX6_isLand 12 = .ok (.invokestatic 41, 3) := by decide +kernel
theorem dX6_isLand_15 : decode cX6_isLand 15 = .ok (.ireturn, 1) := by decide +kernel
theorem dX6_isAct_0 : decode cX6_isAct 0 = .ok (.aload_n 0, 1) := by decide +kernel
theorem dX6_isAct_1 : decode cX6_isAct 1 = .ok (.iload_n 1, 1) := by decide +kernel
theorem dX6_isAct_2 : decode cX6_isAct 2 = .ok (.invokevirtual 45, 3) := by decide +kernel
theorem dX6_isAct_5 : decode cX6_isAct 5 = .ok (.ifCond .eq 27, 3) := by decide +kernel
theorem dX6_isAct_8 : decode cX6_isAct 8 = .ok (.iload_n 2, 1) := by decide +kernel
theorem dX6_isAct_9 : decode cX6_isAct 9 = .ok (.i2l, 1) := by decide +kernel
theorem dX6_isAct_10 : decode cX6_isAct 10 = .ok (.lconst 0, 1) := by decide +kernel
theorem dX6_isAct_11 : decode cX6_isAct 11 = .ok (.aload_n 0, 1) := by decide +kernel
theorem dX6_isAct_12 : decode cX6_isAct 12 = .ok (.getfield 7, 3) := by decide +kernel
theorem dX6_isAct_15 : decode cX6_isAct 15 = .ok (.iconst 3, 1) := by decide +kernel
theorem dX6_isAct_16 : decode cX6_isAct 16 = .ok (.iload_n 1, 1) := by decide +kernel
theorem dX6_isAct_17 : decode cX6_isAct 17 = .ok (.iadd, 1) := by decide +kernel
theorem dX6_isAct_18 : decode cX6_isAct 18 = .ok (.iaload, 1) := by decide +kernel
theorem dX6_isAct_19 : decode cX6_isAct 19 = .ok (.iconst 1, 1) := by decide +kernel
theorem dX6_isAct_20 : decode cX6_isAct 20 = .ok (.isub, 1) := by decide +kernel
theorem dX6_isAct_21 : decode cX6_isAct 21 = .ok (.i2l, 1) := by decide +kernel
theorem dX6_isAct_22 : decode cX6_isAct 22 = .ok (.invokestatic 41, 3) := by decide +kernel
theorem dX6_isAct_25 : decode cX6_isAct 25 = .ok (.ifCond .eq 7, 3) := by decide +kernel
theorem dX6_isAct_28 : decode cX6_isAct 28 = .ok (.iconst 1, 1) := by decide +kernel
theorem dX6_isAct_29 : decode cX6_isAct 29 = .ok (.goto 4, 3) := by decide +kernel
theorem dX6_isAct_32 : decode cX6_isAct 32 = .ok (.iconst 0, 1) := by decide +kernel
theorem dX6_isAct_33 : decode cX6_isAct 33 = .ok (.ireturn, 1) := by decide +kernel
theorem dX6_isAuthor_0 : decode cX6_isAuthor 0 = .ok (.iload_n 1, 1) := by decide +kernel
theorem dX6_isAuthor_1 : decode cX6_isAuthor 1 = .ok (.i2l, 1) := by decide +kernel
theorem dX6_isAuthor_2 : decode cX6_isAuthor 2 = .ok (.lconst 0, 1) := by decide +kernel
theorem dX6_isAuthor_3 : decode cX6_isAuthor 3 = .ok (.aload_n 0, 1) := by decide +kernel
theorem dX6_isAuthor_4 : decode cX6_isAuthor 4 = .ok (.getfield 7, 3) := by decide +kernel
theorem dX6_isAuthor_7 : decode cX6_isAuthor 7 = .ok (.iconst 1, 1) := by decide +kernel
theorem dX6_isAuthor_8 : decode cX6_isAuthor 8 = .ok (.iaload, 1) := by decide +kernel
theorem dX6_isAuthor_9 : decode cX6_isAuthor 9 = .ok (.iconst 1, 1) := by decide +kernel
theorem dX6_isAuthor_10 : decode cX6_isAuthor 10 = .ok (.isub, 1) := by decide +kernel
theorem dX6_isAuthor_11 : decode cX6_isAuthor 11 = .ok (.i2l, 1) := by decide +kernel
theorem dX6_isAuthor_12 : decode cX6_isAuthor 12 = .ok (.invokestatic 41, 3) := by decide +kernel
theorem dX6_isAuthor_15 : decode cX6_isAuthor 15 = .ok (.ireturn, 1) := by decide +kernel
theorem dX6_isWork_0 : decode cX6_isWork 0 = .ok (.iload_n 1, 1) := by decide +kernel
theorem dX6_isWork_1 : decode cX6_isWork 1 = .ok (.i2l, 1) := by decide +kernel
theorem dX6_isWork_2 : decode cX6_isWork 2 = .ok (.lconst 0, 1) := by decide +kernel
theorem dX6_isWork_3 : decode cX6_isWork 3 = .ok (.aload_n 0, 1) := by decide +kernel
theorem dX6_isWork_4 : decode cX6_isWork 4 = .ok (.getfield 7, 3) := by decide +kernel
theorem dX6_isWork_7 : decode cX6_isWork 7 = .ok (.iconst 2, 1) := by decide +kernel
theorem dX6_isWork_8 : decode cX6_isWork 8 = .ok (.iaload, 1) := by decide +kernel
theorem dX6_isWork_9 : decode cX6_isWork 9 = .ok (.iconst 1, 1) := by decide +kernel
theorem dX6_isWork_10 : decode cX6_isWork 10 = .ok (.isub, 1) := by decide +kernel
theorem dX6_isWork_11 : decode cX6_isWork 11 = .ok (.i2l, 1) := by decide +kernel
theorem dX6_isWork_12 : decode cX6_isWork 12 = .ok (.invokestatic 41, 3) := by decide +kernel
theorem dX6_isWork_15 : decode cX6_isWork 15 = .ok (.ireturn, 1) := by decide +kernel
theorem dX6_ofAct_0 : decode cX6_ofAct 0 = .ok (.aload_n 0, 1) := by decide +kernel
theorem dX6_ofAct_1 : decode cX6_ofAct 1 = .ok (.getfield 7, 3) := by decide +kernel
theorem dX6_ofAct_4 : decode cX6_ofAct 4 = .ok (.bipush 7, 2) := by decide +kernel
theorem dX6_ofAct_6 : decode cX6_ofAct 6 = .ok (.bipush 24, 2) := by decide +kernel
theorem dX6_ofAct_8 : decode cX6_ofAct 8 = .ok (.iload_n 1, 1) := by decide +kernel
theorem dX6_ofAct_9 : decode cX6_ofAct 9 = .ok (.imul, 1) := by decide +kernel
theorem dX6_ofAct_10 : decode cX6_ofAct 10 = .ok (.iadd, 1) := by decide +kernel
theorem dX6_ofAct_11 : decode cX6_ofAct 11 = .ok (.bipush 6, 2) := by decide +kernel
theorem dX6_ofAct_13 : decode cX6_ofAct 13 = .ok (.iload_n 2, 1) := by decide +kernel
theorem dX6_ofAct_14 : decode cX6_ofAct 14 = .ok (.imul, 1) := by decide +kernel
theorem dX6_ofAct_15 : decode cX6_ofAct 15 = .ok (.iadd, 1) := by decide +kernel
theorem dX6_ofAct_16 : decode cX6_ofAct 16 = .ok (.iload_n 3, 1) := by decide +kernel
theorem dX6_ofAct_17 : decode cX6_ofAct 17 = .ok (.iadd, 1) := by decide +kernel
theorem dX6_ofAct_18 : decode cX6_ofAct 18 = .ok (.iaload, 1) := by decide +kernel
theorem dX6_ofAct_19 : decode cX6_ofAct 19 = .ok (.ireturn, 1) := by decide +kernel
theorem dX6_ofWork_0 : decode cX6_ofWork 0 = .ok (.aload_n 0, 1) := by decide +kernel
theorem dX6_ofWork_1 : decode cX6_ofWork 1 = .ok (.getfield 7, 3) := by decide +kernel
theorem dX6_ofWork_4 : decode cX6_ofWork 4 = .ok (.bipush 119, 2) := by decide +kernel
theorem dX6_ofWork_6 : decode cX6_ofWork 6 = .ok (.iconst 5, 1) := by decide +kernel
theorem dX6_ofWork_7 : decode cX6_ofWork 7 = .ok (.iload_n 1, 1) := by decide +kernel
theorem dX6_ofWork_8 : decode cX6_ofWork 8 = .ok (.imul, 1) := by decide +kernel
theorem dX6_ofWork_9 : decode cX6_ofWork 9 = .ok (.iadd, 1) := by decide +kernel
theorem dX6_ofWork_10 : decode cX6_ofWork 10 = .ok (.iload_n 2, 1) := by decide +kernel
theorem dX6_ofWork_11 : decode cX6_ofWork 11 = .ok (.iadd, 1) := by decide +kernel
theorem dX6_ofWork_12 : decode cX6_ofWork 12 = .ok (.iaload, 1) := by decide +kernel
theorem dX6_ofWork_13 : decode cX6_ofWork 13 = .ok (.ireturn, 1) := by decide +kernel
theorem dX6_from_0 : decode cX6_from 0 = .ok (.aload_n 0, 1) := by decide +kernel
theorem dX6_from_1 : decode cX6_from 1 = .ok (.getfield 7, 3) := by decide +kernel
theorem dX6_from_4 : decode cX6_from 4 = .ok (.bipush 103, 2) := by decide +kernel
theorem dX6_from_6 : decode cX6_from 6 = .ok (.iconst 2, 1) := by decide +kernel
theorem dX6_from_7 : decode cX6_from 7 = .ok (.iload_n 1, 1) := by decide +kernel
theorem dX6_from_8 : decode cX6_from 8 = .ok (.imul, 1) := by decide +kernel
theorem dX6_from_9 : decode cX6_from 9 = .ok (.iadd, 1) := by decide +kernel
theorem dX6_from_10 : decode cX6_from 10 = .ok (.iaload, 1) := by decide +kernel
theorem dX6_from_11 : decode cX6_from 11 = .ok (.ireturn, 1) := by decide +kernel
theorem dX6_to_0 : decode cX6_to 0 = .ok (.aload_n 0, 1) := by decide +kernel
theorem dX6_to_1 : decode cX6_to 1 = .ok (.getfield 7, 3) := by decide +kernel
theorem dX6_to_4 : decode cX6_to 4 = .ok (.bipush 103, 2) := by decide +kernel
theorem dX6_to_6 : decode cX6_to 6 = .ok (.iconst 2, 1) := by decide +kernel
theorem dX6_to_7 : decode cX6_to 7 = .ok (.iload_n 1, 1) := by decide +kernel
theorem dX6_to_8 : decode cX6_to 8 = .ok (.imul, 1) := by decide +kernel
theorem dX6_to_9 : decode cX6_to 9 = .ok (.iadd, 1) := by decide +kernel
theorem dX6_to_10 : decode cX6_to 10 = .ok (.iconst 1, 1) := by decide +kernel
theorem dX6_to_11 : decode cX6_to 11 = .ok (.iadd, 1) := by decide +kernel
theorem dX6_to_12 : decode cX6_to 12 = .ok (.iaload, 1) := by decide +kernel
theorem dX6_to_13 : decode cX6_to 13 = .ok (.ireturn, 1) := by decide +kernel
theorem dX6_has_0 : decode cX6_has 0 = .ok (.iload_n 0, 1) := by decide +kernel
theorem dX6_has_1 : decode cX6_has 1 = .ok (.iload_n 1, 1) := by decide +kernel
theorem dX6_has_2 : decode cX6_has 2 = .ok (.ishr, 1) := by decide +kernel
theorem dX6_has_3 : decode cX6_has 3 = .ok (.iconst 1, 1) := by decide +kernel
theorem dX6_has_4 : decode cX6_has 4 = .ok (.iand, 1) := by decide +kernel
theorem dX6_has_5 : decode cX6_has 5 = .ok (.iconst 1, 1) := by decide +kernel
theorem dX6_has_6 : decode cX6_has 6 = .ok (.if_icmp .ne 7, 3) := by decide +kernel
theorem dX6_has_9 : decode cX6_has 9 = .ok (.iconst 1, 1) := by decide +kernel
theorem dX6_has_10 : decode cX6_has 10 = .ok (.goto 4, 3) := by decide +kernel
theorem dX6_has_13 : decode cX6_has 13 = .ok (.iconst 0, 1) := by decide +kernel
theorem dX6_has_14 : decode cX6_has 14 = .ok (.ireturn, 1) := by decide +kernel
theorem dX6_isFlag_0 : decode cX6_isFlag 0 = .ok (.aload_n 0, 1) := by decide +kernel
theorem dX6_isFlag_1 : decode cX6_isFlag 1 = .ok (.iload_n 1, 1) := by decide +kernel
theorem dX6_isFlag_2 : decode cX6_isFlag 2 = .ok (.iload_n 2, 1) := by decide +kernel
theorem dX6_isFlag_3 : decode cX6_isFlag 3 = .ok (.iconst 5, 1) := by decide +kernel
theorem dX6_isFlag_4 : decode cX6_isFlag 4 = .ok (.invokevirtual 49, 3) := by decide +kernel
theorem dX6_isFlag_7 : decode cX6_isFlag 7 = .ok (.iload_n 3, 1) := by decide +kernel
theorem dX6_isFlag_8 : decode cX6_isFlag 8 = .ok (.iand, 1) := by decide +kernel
theorem dX6_isFlag_9 : decode cX6_isFlag 9 = .ok (.ifCond .eq 7, 3) := by decide +kernel
theorem dX6_isFlag_12 : decode cX6_isFlag 12 = .ok (.iconst 1, 1) := by decide +kernel
theorem dX6_isFlag_13 : decode cX6_isFlag 13 = .ok (.goto 4, 3) := by decide +kernel
theorem dX6_isFlag_16 : decode cX6_isFlag 16 = .ok (.iconst 0, 1) := by decide +kernel
theorem dX6_isFlag_17 : decode cX6_isFlag 17 = .ok (.ireturn, 1) := by decide +kernel
theorem dX6_forceAt_0 : decode cX6_forceAt 0 = .ok (.iconst 0, 1) := by decide +kernel
theorem dX6_forceAt_1 : decode cX6_forceAt 1 = .ok (.istore_n 3, 1) := by decide +kernel
theorem dX6_forceAt_2 : decode cX6_forceAt 2 = .ok (.iconst 1, 1) := by decide +kernel
theorem dX6_forceAt_3 : decode cX6_forceAt 3 = .ok (.istore 4, 2) := by decide +kernel
theorem dX6_forceAt_5 : decode cX6_forceAt 5 = .ok (.iload 4, 2) := by decide +kernel
theorem dX6_forceAt_7 : decode cX6_forceAt 7 = .ok (.aload_n 0, 1) := by decide +kernel
theorem dX6_forceAt_8 : decode cX6_forceAt 8 = .ok (.getfield 7, 3) := by decide +kernel
theorem dX6_forceAt_11 : decode cX6_forceAt 11 = .ok (.iconst 3, 1) := by decide +kernel
theorem dX6_forceAt_12 : decode cX6_forceAt 12 = .ok (.iload_n 1, 1) := by decide +kernel
theorem dX6_forceAt_13 : decode cX6_forceAt 13 = .ok (.iadd, 1) := by decide +kernel
theorem dX6_forceAt_14 : decode cX6_forceAt 14 = .ok (.iaload, 1) := by decide +kernel
theorem dX6_forceAt_15 : decode cX6_forceAt 15 = .ok (.if_icmp .ge 28, 3) := by decide +kernel
theorem dX6_forceAt_18 : decode cX6_forceAt 18 = .ok (.aload_n 0, 1) := by decide +kernel
theorem dX6_forceAt_19 : decode cX6_forceAt 19 = .ok (.iload_n 1, 1) := by decide +kernel
theorem dX6_forceAt_20 : decode cX6_forceAt 20 = .ok (.iload 4, 2) := by decide +kernel
theorem dX6_forceAt_22 : decode cX6_forceAt 22 = .ok (.iconst 0, 1) := by decide +kernel
theorem dX6_forceAt_23 : decode cX6_forceAt 23 = .ok (.invokevirtual 49, 3) := by decide +kernel
theorem dX6_forceAt_26 : decode cX6_forceAt 26 = .ok (.iload_n 2, 1) := by decide +kernel
theorem dX6_forceAt_27 : decode cX6_forceAt 27 = .ok (.if_icmp .gt 8, 3) := by decide +kernel
theorem dX6_forceAt_30 : decode cX6_forceAt 30 = .ok (.iload 4, 2) := by decide +kernel
theorem dX6_forceAt_32 : decode cX6_forceAt 32 = .ok (.goto 4, 3) := by decide +kernel
theorem dX6_forceAt_35 : decode cX6_forceAt 35 = .ok (.iload_n 3, 1) := by decide +kernel
theorem dX6_forceAt_36 : decode cX6_forceAt 36 = .ok (.istore_n 3, 1) := by decide +kernel
theorem dX6_forceAt_37 : decode cX6_forceAt 37 = .ok (.iinc 4 1, 3) := by decide +kernel
theorem dX6_forceAt_40 : decode cX6_forceAt 40 = .ok (.goto (-35), 3) := by decide +kernel
theorem dX6_forceAt_43 : decode cX6_forceAt 43 = .ok (.iload_n 3, 1) := by decide +kernel
theorem dX6_forceAt_44 : decode cX6_forceAt 44 = .ok (.ireturn, 1) := by decide +kernel
theorem dX6_counting_0 : decode cX6_counting 0 = .ok (.iload_n 1, 1) := by decide +kernel
theorem dX6_counting_1 : decode cX6_counting 1 = .ok (.iconst 4, 1) := by decide +kernel
theorem dX6_counting_2 : decode cX6_counting 2 = .ok (.if_icmp .ne 7, 3) := by decide +kernel
theorem dX6_counting_5 : decode cX6_counting 5 = .ok (.iconst 2, 1) := by decide +kernel
theorem dX6_counting_6 : decode cX6_counting 6 = .ok (.goto 18, 3) := by decide +kernel
theorem dX6_counting_9 : decode cX6_counting 9 = .ok (.iload_n 1, 1) := by decide +kernel
theorem dX6_counting_10 : decode cX6_counting 10 = .ok (.iconst 1, 1) := by decide +kernel
theorem dX6_counting_11 : decode cX6_counting 11 = .ok (.if_icmp .ne 11, 3) := by decide +kernel
theorem dX6_counting_14 : decode cX6_counting 14 = .ok (.iload_n 2, 1) := by decide +kernel
theorem dX6_counting_15 : decode cX6_counting 15 = .ok (.ifCond .ne 7, 3) := by decide +kernel
theorem dX6_counting_18 : decode cX6_counting 18 = .ok (.iconst 1, 1) := by decide +kernel
theorem dX6_counting_19 : decode cX6_counting 19 = .ok (.goto 5, 3) := by decide +kernel
theorem dX6_counting_22 : decode cX6_counting 22 = .ok (.bipush 8, 2) := by decide +kernel
theorem dX6_counting_24 : decode cX6_counting 24 = .ok (.ireturn, 1) := by decide +kernel
theorem dX6_deathOf_0 : decode cX6_deathOf 0 = .ok (.aload_n 0, 1) := by decide +kernel
theorem dX6_deathOf_1 : decode cX6_deathOf 1 = .ok (.aload_n 0, 1) := by decide +kernel
theorem dX6_deathOf_2 : decode cX6_deathOf 2 = .ok (.iload_n 1, 1) := by decide +kernel
theorem dX6_deathOf_3 : decode cX6_deathOf 3 = .ok (.iconst 0, 1) := by decide +kernel
theorem dX6_deathOf_4 : decode cX6_deathOf 4 = .ok (.invokevirtual 53, 3) := by decide +kernel
theorem dX6_deathOf_7 : decode cX6_deathOf 7 = .ok (.aload_n 0, 1) := by decide +kernel
theorem dX6_deathOf_8 : decode cX6_deathOf 8 = .ok (.iload_n 2, 1) := by decide +kernel
theorem dX6_deathOf_9 : decode cX6_deathOf 9 = .ok (.iload_n 3, 1) := by decide +kernel
theorem dX6_deathOf_10 : decode cX6_deathOf 10 = .ok (.iconst 1, 1) := by decide +kernel
theorem dX6_deathOf_11 : decode cX6_deathOf 11 = .ok (.invokevirtual 57, 3) := by decide +kernel
theorem dX6_deathOf_14 : decode cX6_deathOf 14 = .ok (.invokevirtual 61, 3) := by decide +kernel
theorem dX6_deathOf_17 : decode cX6_deathOf 17 = .ok (.istore 5, 2) := by decide +kernel
theorem dX6_deathOf_19 : decode cX6_deathOf 19 = .ok (.iconst 0, 1) := by decide +kernel
theorem dX6_deathOf_20 : decode cX6_deathOf 20 = .ok (.istore 6, 2) := by decide +kernel
theorem dX6_deathOf_22 : decode cX6_deathOf 22 = .ok (.iconst 0, 1) := by decide +kernel
theorem dX6_deathOf_23 : decode cX6_deathOf 23 = .ok (.istore 7, 2) := by decide +kernel
theorem dX6_deathOf_25 : decode cX6_deathOf 25 = .ok (.iload 7, 2) := by decide +kernel
theorem dX6_deathOf_27 : decode cX6_deathOf 27 = .ok (.bipush 8, 2) := by decide +kernel
theorem dX6_deathOf_29 : decode cX6_deathOf 29 = .ok (.if_icmp .ge 100, 3) := by decide +kernel
theorem dX6_deathOf_32 : decode cX6_deathOf 32 = .ok (.iload 5, 2) := by decide +kernel
theorem dX6_deathOf_34 : decode cX6_deathOf 34 = .ok (.ifCond .le 95, 3) := by decide +kernel
theorem dX6_deathOf_37 : decode cX6_deathOf 37 = .ok (.aload_n 0, 1) := by decide +kernel
theorem dX6_deathOf_38 : decode cX6_deathOf 38 = .ok (.iload_n 1, 1) := by decide +kernel
theorem dX6_deathOf_39 : decode cX6_deathOf 39 = .ok (.iconst 4, 1) := by decide +kernel
theorem dX6_deathOf_40 : decode cX6_deathOf 40 = .ok (.invokevirtual 53, 3) := by decide +kernel
theorem dX6_deathOf_43 : decode cX6_deathOf 43 = .ok (.iload 7, 2) := by decide +kernel
theorem dX6_deathOf_45 : decode cX6_deathOf 45 = .ok (.invokestatic 65, 3) := by decide +kernel
theorem dX6_deathOf_48 : decode cX6_deathOf 48 = .ok (.ifCond .eq 75, 3) := by decide +kernel
theorem dX6_deathOf_51 : decode cX6_deathOf 51 = .ok (.aload_n 0, 1) := by decide +kernel
theorem dX6_deathOf_52 : decode cX6_deathOf 52 = .ok (.iload 7, 2) := by decide +kernel
theorem dX6_deathOf_54 : decode cX6_deathOf 54 = .ok (.invokevirtual 69, 3) := by decide +kernel
theorem dX6_deathOf_57 : decode cX6_deathOf 57 = .ok (.ifCond .ne 9, 3) := by decide +kernel
theorem dX6_deathOf_60 : decode cX6_deathOf 60 = .ok (.sipush 9999, 3) := by decide +kernel
theorem dX6_deathOf_63 : decode cX6_deathOf 63 = .ok (.goto 39, 3) := by decide +kernel
theorem dX6_deathOf_66 : decode cX6_deathOf 66 = .ok (.aload_n 0, 1) := by decide +kernel
theorem dX6_deathOf_67 : decode cX6_deathOf 67 = .ok (.iload 7, 2) := by decide +kernel
theorem dX6_deathOf_69 : decode cX6_deathOf 69 = .ok (.invokevirtual 69, 3) := by decide +kernel
theorem dX6_deathOf_72 : decode cX6_deathOf 72 = .ok (.iload 4, 2) := by decide +kernel
theorem dX6_deathOf_74 : decode cX6_deathOf 74 = .ok (.iadd, 1) := by decide +kernel
theorem dX6_deathOf_75 : decode cX6_deathOf 75 = .ok (.aload_n 0, 1) := by decide +kernel
theorem dX6_deathOf_76 : decode cX6_deathOf 76 = .ok (.iload 7, 2) := by decide +kernel
theorem dX6_deathOf_78 : decode cX6_deathOf 78 = .ok (.invokevirtual 73, 3) := by decide +kernel
theorem dX6_deathOf_81 : decode cX6_deathOf 81 = .ok (.if_icmp .ge 15, 3) := by decide +kernel
theorem dX6_deathOf_84 : decode cX6_deathOf 84 = .ok (.aload_n 0, 1) := by decide +kernel
theorem dX6_deathOf_85 : decode cX6_deathOf 85 = .ok (.iload 7, 2) := by decide +kernel
theorem dX6_deathOf_87 : decode cX6_deathOf 87 = .ok (.invokevirtual 69, 3) := by decide +kernel
theorem dX6_deathOf_90 : decode cX6_deathOf 90 = .ok (.iload 4, 2) := by decide +kernel
theorem dX6_deathOf_92 : decode cX6_deathOf 92 = .ok (.iadd, 1) := by decide +kernel
theorem dX6_deathOf_93 : decode cX6_deathOf 93 = .ok (.goto 9, 3) := by decide +kernel
theorem dX6_deathOf_96 : decode cX6_deathOf 96 = .ok (.aload_n 0, 1) := by decide +kernel
theorem dX6_deathOf_97 : decode cX6_deathOf 97 = .ok (.iload 7, 2) := by decide +kernel
theorem dX6_deathOf_99 : decode cX6_deathOf 99 = .ok (.invokevirtual 73, 3) := by decide +kernel
theorem dX6_deathOf_102 : decode cX6_deathOf 102 = .ok (.istore 8, 2) := by decide +kernel
theorem dX6_deathOf_104 : decode cX6_deathOf 104 = .ok (.iload 8, 2) := by decide +kernel
theorem dX6_deathOf_106 : decode cX6_deathOf 106 = .ok (.iload 6, 2) := by decide +kernel
theorem dX6_deathOf_108 : decode cX6_deathOf 108 = .ok (.if_icmp .le 8, 3) := by decide +kernel
theorem dX6_deathOf_111 : decode cX6_deathOf 111 = .ok (.iload 8, 2) := by decide +kernel
theorem dX6_deathOf_113 : decode cX6_deathOf 113 = .ok (.goto 5, 3) := by decide +kernel
theorem dX6_deathOf_116 : decode cX6_deathOf 116 = .ok (.iload 6, 2) := by decide +kernel
theorem dX6_deathOf_118 : decode cX6_deathOf 118 = .ok (.istore 6, 2) := by decide +kernel
theorem dX6_deathOf_120 : decode cX6_deathOf 120 = .ok (.iinc 5 (-1), 3) := by decide +kernel
theorem dX6_deathOf_123 : decode cX6_deathOf 123 = .ok (.iinc 7 1, 3) := by decide +kernel
theorem dX6_deathOf_126 : decode cX6_deathOf 126 = .ok (.goto (-101), 3) := by decide +kernel
theorem dX6_deathOf_129 : decode cX6_deathOf 129 = .ok (.iload 6, 2) := by decide +kernel
theorem dX6_deathOf_131 : decode cX6_deathOf 131 = .ok (.ireturn, 1) := by decide +kernel
theorem dX6_termBy_0 : decode cX6_termBy 0 = .ok (.aload_n 0, 1) := by decide +kernel
theorem dX6_termBy_1 : decode cX6_termBy 1 = .ok (.iload_n 1, 1) := by decide +kernel
theorem dX6_termBy_2 : decode cX6_termBy 2 = .ok (.iconst 0, 1) := by decide +kernel
theorem dX6_termBy_3 : decode cX6_termBy 3 = .ok (.invokevirtual 53, 3) := by decide +kernel
theorem dX6_termBy_6 : decode cX6_termBy 6 = .ok (.istore 5, 2) := by decide +kernel
theorem dX6_termBy_8 : decode cX6_termBy 8 = .ok (.aload_n 0, 1) := by decide +kernel
theorem dX6_termBy_9 : decode cX6_termBy 9 = .ok (.iload_n 1, 1) := by decide +kernel
theorem dX6_termBy_10 : decode cX6_termBy 10 = .ok (.iconst 2, 1) := by decide +kernel
theorem dX6_termBy_11 : decode cX6_termBy 11 = .ok (.invokevirtual 53, 3) := by decide +kernel
theorem dX6_termBy_14 : decode cX6_termBy 14 = .ok (.istore 6, 2) := by decide +kernel
theorem dX6_termBy_16 : decode cX6_termBy 16 = .ok (.aload_n 0, 1) := by decide +kernel
theorem dX6_termBy_17 : decode cX6_termBy 17 = .ok (.iload_n 1, 1) := by decide +kernel
theorem dX6_termBy_18 : decode cX6_termBy 18 = .ok (.iconst 3, 1) := by decide +kernel
theorem dX6_termBy_19 : decode cX6_termBy 19 = .ok (.invokevirtual 53, 3) := by decide +kernel
theorem dX6_termBy_22 : decode cX6_termBy 22 = .ok (.istore 7, 2) := by decide +kernel
theorem dX6_termBy_24 : decode cX6_termBy 24 = .ok (.iload 5, 2) := by decide +kernel
theorem dX6_termBy_26 : decode cX6_termBy 26 = .ok (.iconst 3, 1) := by decide +kernel
theorem dX6_termBy_27 : decode cX6_termBy 27 = .ok (.if_icmp .ne 14, 3) := by decide +kernel
theorem dX6_termBy_30 : decode cX6_termBy 30 = .ok (.iload 6, 2) := by decide +kernel
theorem dX6_termBy_32 : decode cX6_termBy 32 = .ok (.aload_n 0, 1) := by decide +kernel
theorem dX6_termBy_33 : decode cX6_termBy 33 = .ok (.iload_n 2, 1) := by decide +kernel
theorem dX6_termBy_34 : decode cX6_termBy 34 = .ok (.iload_n 3, 1) := by decide +kernel
theorem dX6_termBy_35 : decode cX6_termBy 35 = .ok (.iconst 3, 1) := by decide +kernel
theorem dX6_termBy_36 : decode cX6_termBy 36 = .ok (.invokevirtual 49, 3) := by decide +kernel
theorem dX6_termBy_39 : decode cX6_termBy 39 = .ok (.iadd, 1) := by decide +kernel
theorem dX6_termBy_40 : decode cX6_termBy 40 = .ok (.ireturn, 1) := by decide +kernel
theorem dX6_termBy_41 : decode cX6_termBy 41 = .ok (.iload 5, 2) := by decide +kernel
theorem dX6_termBy_43 : decode cX6_termBy 43 = .ok (.iconst 5, 1) := by decide +kernel
theorem dX6_termBy_44 : decode cX6_termBy 44 = .ok (.if_icmp .ne 41, 3) := by decide +kernel
theorem dX6_termBy_47 : decode cX6_termBy 47 = .ok (.aload_n 0, 1) := by decide +kernel
theorem dX6_termBy_48 : decode cX6_termBy 48 = .ok (.iload_n 2, 1) := by decide +kernel
theorem dX6_termBy_49 : decode cX6_termBy 49 = .ok (.iload_n 3, 1) := by decide +kernel
theorem dX6_termBy_50 : decode cX6_termBy 50 = .ok (.iconst 2, 1) := by decide +kernel
theorem dX6_termBy_51 : decode cX6_termBy 51 = .ok (.invokevirtual 49, 3) := by decide +kernel
theorem dX6_termBy_54 : decode cX6_termBy 54 = .ok (.istore 8, 2) := by decide +kernel
theorem dX6_termBy_56 : decode cX6_termBy 56 = .ok (.iload 7, 2) := by decide +kernel
theorem dX6_termBy_58 : decode cX6_termBy 58 = .ok (.ifCond .le 21, 3) := by decide +kernel
theorem dX6_termBy_61 : decode cX6_termBy 61 = .ok (.iload 7, 2) := by decide +kernel
theorem dX6_termBy_63 : decode cX6_termBy 63 = .ok (.iload 6, 2) := by decide +kernel
theorem dX6_termBy_65 : decode cX6_termBy 65 = .ok (.iload 8, 2) := by decide +kernel
theorem dX6_termBy_67 : decode cX6_termBy 67 = .ok (.iadd, 1) := by decide +kernel
theorem dX6_termBy_68 : decode cX6_termBy 68 = .ok (.if_icmp .gt 11, 3) := by decide +kernel
theorem dX6_termBy_71 : decode cX6_termBy 71 = .ok (.iload 7, 2) := by decide +kernel
theorem dX6_termBy_73 : decode cX6_termBy 73 = .ok (.iload 8, 2) := by decide +kernel
theorem dX6_termBy_75 : decode cX6_termBy 75 = .ok (.iadd, 1) := by decide +kernel
theorem dX6_termBy_76 : decode cX6_termBy 76 = .ok (.goto 8, 3) := by decide +kernel
theorem dX6_termBy_79 : decode cX6_termBy 79 = .ok (.iload 6, 2) := by decide +kernel
theorem dX6_termBy_81 : decode cX6_termBy 81 = .ok (.iload 8, 2) := by decide +kernel
theorem dX6_termBy_83 : decode cX6_termBy 83 = .ok (.iadd, 1) := by decide +kernel
theorem dX6_termBy_84 : decode cX6_termBy 84 = .ok (.ireturn, 1) := by decide +kernel
theorem dX6_termBy_85 : decode cX6_termBy 85 = .ok (.aload_n 0, 1) := by decide +kernel
theorem dX6_termBy_86 : decode cX6_termBy 86 = .ok (.iload_n 1, 1) := by decide +kernel
theorem dX6_termBy_87 : decode cX6_termBy 87 = .ok (.iload_n 2, 1) := by decide +kernel
theorem dX6_termBy_88 : decode cX6_termBy 88 = .ok (.iload_n 3, 1) := by decide +kernel
theorem dX6_termBy_89 : decode cX6_termBy 89 = .ok (.iload 4, 2) := by decide +kernel
theorem dX6_termBy_91 : decode cX6_termBy 91 = .ok (.invokevirtual 76, 3) := by decide +kernel
theorem dX6_termBy_94 : decode cX6_termBy 94 = .ok (.istore 8, 2) := by decide +kernel
theorem dX6_termBy_96 : decode cX6_termBy 96 = .ok (.iload 8, 2) := by decide +kernel
theorem dX6_termBy_98 : decode cX6_termBy 98 = .ok (.sipush 9999, 3) := by decide +kernel
theorem dX6_termBy_101 : decode cX6_termBy 101 = .ok (.if_icmp .ne 7, 3) := by decide +kernel
theorem dX6_termBy_104 : decode cX6_termBy 104 = .ok (.sipush 9999, 3) := by decide +kernel
theorem dX6_termBy_107 : decode cX6_termBy 107 = .ok (.ireturn, 1) := by decide +kernel
theorem dX6_termBy_108 : decode cX6_termBy 108 = .ok (.iload 8, 2) := by decide +kernel
theorem dX6_termBy_110 : decode cX6_termBy 110 = .ok (.aload_n 0, 1) := by decide +kernel
theorem dX6_termBy_111 : decode cX6_termBy 111 = .ok (.iload_n 2, 1) := by decide +kernel
theorem dX6_termBy_112 : decode cX6_termBy 112 = .ok (.iload_n 3, 1) := by decide +kernel
theorem dX6_termBy_113 : decode cX6_termBy 113 = .ok (.iconst 1, 1) := by decide +kernel
theorem dX6_termBy_114 : decode cX6_termBy 114 = .ok (.invokevirtual 49, 3) := by decide +kernel
theorem dX6_termBy_117 : decode cX6_termBy 117 = .ok (.iadd, 1) := by decide +kernel
theorem dX6_termBy_118 : decode cX6_termBy 118 = .ok (.istore 9, 2) := by decide +kernel
theorem dX6_termBy_120 : decode cX6_termBy 120 = .ok (.iload 7, 2) := by decide +kernel
theorem dX6_termBy_122 : decode cX6_termBy 122 = .ok (.iload 9, 2) := by decide +kernel
theorem dX6_termBy_124 : decode cX6_termBy 124 = .ok (.if_icmp .le 16, 3) := by decide +kernel
theorem dX6_termBy_127 : decode cX6_termBy 127 = .ok (.iload 7, 2) := by decide +kernel
theorem dX6_termBy_129 : decode cX6_termBy 129 = .ok (.aload_n 0, 1) := by decide +kernel
theorem dX6_termBy_130 : decode cX6_termBy 130 = .ok (.iload_n 2, 1) := by decide +kernel
theorem dX6_termBy_131 : decode cX6_termBy 131 = .ok (.iload_n 3, 1) := by decide +kernel
theorem dX6_termBy_132 : decode cX6_termBy 132 = .ok (.iconst 4, 1) := by decide +kernel
theorem dX6_termBy_133 : decode cX6_termBy 133 = .ok (.invokevirtual 49, 3) := by decide +kernel
theorem dX6_termBy_136 : decode cX6_termBy 136 = .ok (.iadd, 1) := by decide +kernel
theorem dX6_termBy_137 : decode cX6_termBy 137 = .ok (.goto 5, 3) := by decide +kernel
theorem dX6_termBy_140 : decode cX6_termBy 140 = .ok (.iload 9, 2) := by decide +kernel
theorem dX6_termBy_142 : decode cX6_termBy 142 = .ok (.ireturn, 1) := by decide +kernel
theorem dX6_termIn_0 : decode cX6_termIn 0 = .ok (.aload_n 0, 1) := by decide +kernel
theorem dX6_termIn_1 : decode cX6_termIn 1 = .ok (.iload_n 2, 1) := by decide +kernel
theorem dX6_termIn_2 : decode cX6_termIn 2 = .ok (.iload_n 3, 1) := by decide +kernel
theorem dX6_termIn_3 : decode cX6_termIn 3 = .ok (.invokevirtual 80, 3) := by decide +kernel
theorem dX6_termIn_6 : decode cX6_termIn 6 = .ok (.istore 5, 2) := by decide +kernel
theorem dX6_termIn_8 : decode cX6_termIn 8 = .ok (.aload_n 0, 1) := by decide +kernel
theorem dX6_termIn_9 : decode cX6_termIn 9 = .ok (.iload_n 1, 1) := by decide +kernel
theorem dX6_termIn_10 : decode cX6_termIn 10 = .ok (.iload_n 2, 1) := by decide +kernel
theorem dX6_termIn_11 : decode cX6_termIn 11 = .ok (.iload 5, 2) := by decide +kernel
theorem dX6_termIn_13 : decode cX6_termIn 13 = .ok (.iload 4, 2) := by decide +kernel
theorem dX6_termIn_15 : decode cX6_termIn 15 = .ok (.invokevirtual 83, 3) := by decide +kernel
theorem dX6_termIn_18 : decode cX6_termIn 18 = .ok (.istore 6, 2) := by decide +kernel
theorem dX6_termIn_20 : decode cX6_termIn 20 = .ok (.aload_n 0, 1) := by decide +kernel
theorem dX6_termIn_21 : decode cX6_termIn 21 = .ok (.iload_n 1, 1) := by decide +kernel
theorem dX6_termIn_22 : decode cX6_termIn 22 = .ok (.iconst 1, 1) := by decide +kernel
theorem dX6_termIn_23 : decode cX6_termIn 23 = .ok (.invokevirtual 53, 3) := by decide +kernel
theorem dX6_termIn_26 : decode cX6_termIn 26 = .ok (.istore 7, 2) := by decide +kernel
theorem dX6_termIn_28 : decode cX6_termIn 28 = .ok (.aload_n 0, 1) := by decide +kernel
theorem dX6_termIn_29 : decode cX6_termIn 29 = .ok (.iload_n 2, 1) := by decide +kernel
theorem dX6_termIn_30 : decode cX6_termIn 30 = .ok (.iload 5, 2) := by decide +kernel
theorem dX6_termIn_32 : decode cX6_termIn 32 = .ok (.bipush 8, 2) := by decide +kernel
theorem dX6_termIn_34 : decode cX6_termIn 34 = .ok (.invokevirtual 57, 3) := by decide +kernel
theorem dX6_termIn_37 : decode cX6_termIn 37 = .ok (.ifCond .eq 9, 3) := by decide +kernel
theorem dX6_termIn_40 : decode cX6_termIn 40 = .ok (.iload 7, 2) := by decide +kernel
theorem dX6_termIn_42 : decode cX6_termIn 42 = .ok (.iload_n 2, 1) := by decide +kernel
theorem dX6_termIn_43 : decode cX6_termIn 43 = .ok (.if_icmp .ne 6, 3) := by decide +kernel
theorem dX6_termIn_46 : decode cX6_termIn 46 = .ok (.iload 6, 2) := by decide +kernel
theorem dX6_termIn_48 : decode cX6_termIn 48 = .ok (.ireturn, 1) := by decide +kernel
theorem dX6_termIn_49 : decode cX6_termIn 49 = .ok (.aload_n 0, 1) := by decide +kernel
theorem dX6_termIn_50 : decode cX6_termIn 50 = .ok (.iload_n 1, 1) := by decide +kernel
theorem dX6_termIn_51 : decode cX6_termIn 51 = .ok (.iload 7, 2) := by decide +kernel
theorem dX6_termIn_53 : decode cX6_termIn 53 = .ok (.aload_n 0, 1) := by decide +kernel
theorem dX6_termIn_54 : decode cX6_termIn 54 = .ok (.iload 7, 2) := by decide +kernel
theorem dX6_termIn_56 : decode cX6_termIn 56 = .ok (.iload_n 3, 1) := by decide +kernel
theorem dX6_termIn_57 : decode cX6_termIn 57 = .ok (.invokevirtual 80, 3) := by decide +kernel
theorem dX6_termIn_60 : decode cX6_termIn 60 = .ok (.iload 4, 2) := by decide +kernel
theorem dX6_termIn_62 : decode cX6_termIn 62 = .ok (.invokevirtual 83, 3) := by decide +kernel
theorem dX6_termIn_65 : decode cX6_termIn 65 = .ok (.istore 8, 2) := by decide +kernel
theorem dX6_termIn_67 : decode cX6_termIn 67 = .ok (.iload 8, 2) := by decide +kernel
theorem dX6_termIn_69 : decode cX6_termIn 69 = .ok (.iload 6, 2) := by decide +kernel
theorem dX6_termIn_71 : decode cX6_termIn 71 = .ok (.if_icmp .ge 8, 3) := by decide +kernel
theorem dX6_termIn_74 : decode cX6_termIn 74 = .ok (.iload 8, 2) := by decide +kernel
theorem dX6_termIn_76 : decode cX6_termIn 76 = .ok (.goto 5, 3) := by decide +kernel
theorem dX6_termIn_79 : decode cX6_termIn 79 = .ok (.iload 6, 2) := by decide +kernel
theorem dX6_termIn_81 : decode cX6_termIn 81 = .ok (.ireturn, 1) := by decide +kernel
theorem dX6_comparesEver_0 : decode cX6_comparesEver 0 = .ok (.iconst 0, 1) := by decide +kernel
theorem dX6_comparesEver_1 : decode cX6_comparesEver 1 = .ok (.istore_n 2, 1) := by decide +kernel
theorem dX6_comparesEver_2 : decode cX6_comparesEver 2 = .ok (.iconst 0, 1) := by decide +kernel
theorem dX6_comparesEver_3 : decode cX6_comparesEver 3 = .ok (.istore_n 3, 1) := by decide +kernel
theorem dX6_comparesEver_4 : decode cX6_comparesEver 4 = .ok (.iload_n 3, 1) := by decide +kernel
theorem dX6_comparesEver_5 : decode cX6_comparesEver 5 = .ok (.aload_n 0, 1) := by decide +kernel
theorem dX6_comparesEver_6 : decode cX6_comparesEver 6 = .ok (.getfield 7, 3) := by decide +kernel
theorem dX6_comparesEver_9 : decode cX6_comparesEver 9 = .ok (.iconst 3, 1) := by decide +kernel
theorem dX6_comparesEver_10 : decode cX6_comparesEver 10 = .ok (.iload_n 1, 1) := by decide +kernel
theorem dX6_comparesEver_11 : decode cX6_comparesEver 11 = .ok (.iadd, 1) := by decide +kernel
theorem dX6_comparesEver_12 : decode cX6_comparesEver 12 = .ok (.iaload, 1) := by decide +kernel
theorem dX6_comparesEver_13 : decode cX6_comparesEver 13 = .ok (.if_icmp .ge 30, 3) := by decide +kernel
theorem dX6_comparesEver_16 : decode cX6_comparesEver 16 = .ok (.iload_n 2, 1) := by decide +kernel
theorem dX6_comparesEver_17 : decode cX6_comparesEver 17 = .ok (.ifCond .ne 14, 3) := by decide +kernel
theorem dX6_comparesEver_20 : decode cX6_comparesEver 20 = .ok (.aload_n 0, 1) := by decide +kernel
theorem dX6_comparesEver_21 : decode cX6_comparesEver 21 = .ok (.iload_n 1, 1) := by decide +kernel
theorem dX6_comparesEver_22 : decode cX6_comparesEver 22 = .ok (.iload_n 3, 1) := by decide +kernel
theorem dX6_comparesEver_23 : decode cX6_comparesEver 23 = .ok (.bipush 8, 2) := by decide +kernel
theorem dX6_comparesEver_25 : decode cX6_comparesEver 25 = .ok (.invokevirtual 57, 3) := by decide +kernel
theorem dX6_comparesEver_28 : decode cX6_comparesEver 28 = .ok (.ifCond .eq 7, 3) := by decide +kernel
theorem dX6_comparesEver_31 : decode cX6_comparesEver 31 = .ok (.iconst 1, 1) := by decide +kernel
theorem dX6_comparesEver_32 : decode cX6_comparesEver 32 = .ok (.goto 4, 3) := by decide +kernel
theorem dX6_comparesEver_35 : decode cX6_comparesEver 35 = .ok (.iconst 0, 1) := by decide +kernel
theorem dX6_comparesEver_36 : decode cX6_comparesEver 36 = .ok (.istore_n 2, 1) := by decide +kernel
theorem dX6_comparesEver_37 : decode cX6_comparesEver 37 = .ok (.iinc 3 1, 3) := by decide +kernel
theorem dX6_comparesEver_40 : decode cX6_comparesEver 40 = .ok (.goto (-36), 3) := by decide +kernel
theorem dX6_comparesEver_43 : decode cX6_comparesEver 43 = .ok (.iload_n 2, 1) := by decide +kernel
theorem dX6_comparesEver_44 : decode cX6_comparesEver 44 = .ok (.ireturn, 1) := by decide +kernel
theorem dX6_comes_0 : decode cX6_comes 0 = .ok (.aload_n 0, 1) := by decide +kernel
theorem dX6_comes_1 : decode cX6_comes 1 = .ok (.getfield 86, 3) := by decide +kernel
theorem dX6_comes_4 : decode cX6_comes 4 = .ok (.istore_n 3, 1) := by decide +kernel
theorem dX6_comes_5 : decode cX6_comes 5 = .ok (.iload_n 1, 1) := by decide +kernel
theorem dX6_comes_6 : decode cX6_comes 6 = .ok (.iload_n 2, 1) := by decide +kernel
theorem dX6_comes_7 : decode cX6_comes 7 = .ok (.if_icmp .le 7, 3) := by decide +kernel
theorem dX6_comes_10 : decode cX6_comes 10 = .ok (.iconst 1, 1) := by decide +kernel
theorem dX6_comes_11 : decode cX6_comes 11 = .ok (.goto 4, 3) := by decide +kernel
theorem dX6_comes_14 : decode cX6_comes 14 = .ok (.iconst 0, 1) := by decide +kernel
theorem dX6_comes_15 : decode cX6_comes 15 = .ok (.istore 4, 2) := by decide +kernel
theorem dX6_comes_17 : decode cX6_comes 17 = .ok (.iconst 0, 1) := by decide +kernel
theorem dX6_comes_18 : decode cX6_comes 18 = .ok (.istore 5, 2) := by decide +kernel
theorem dX6_comes_20 : decode cX6_comes 20 = .ok (.iload 5, 2) := by decide +kernel
theorem dX6_comes_22 : decode cX6_comes 22 = .ok (.aload_n 0, 1) := by decide +kernel
theorem dX6_comes_23 : decode cX6_comes 23 = .ok (.getfield 86, 3) := by decide +kernel
theorem dX6_comes_26 : decode cX6_comes 26 = .ok (.if_icmp .ge 32, 3) := by decide +kernel
theorem dX6_comes_29 : decode cX6_comes 29 = .ok (.iload 4, 2) := by decide +kernel
theorem dX6_comes_31 : decode cX6_comes 31 = .ok (.ifCond .eq 18, 3) := by decide +kernel
theorem dX6_comes_34 : decode cX6_comes 34 = .ok (.aload_n 0, 1) := by decide +kernel
theorem dX6_comes_35 : decode cX6_comes 35 = .ok (.getfield 29, 3) := by decide +kernel
theorem dX6_comes_38 : decode cX6_comes 38 = .ok (.iload 5, 2) := by decide +kernel
theorem dX6_comes_40 : decode cX6_comes 40 = .ok (.iaload, 1) := by decide +kernel
theorem dX6_comes_41 : decode cX6_comes 41 = .ok (.iload_n 1, 1) := by decide +kernel
theorem dX6_comes_42 : decode cX6_comes 42 = .ok (.if_icmp .eq 7, 3) := by decide +kernel
theorem dX6_comes_45 : decode cX6_comes 45 = .ok (.iconst 1, 1) := by decide +kernel
theorem dX6_comes_46 : decode cX6_comes 46 = .ok (.goto 4, 3) := by decide +kernel
theorem dX6_comes_49 : decode cX6_comes 49 = .ok (.iconst 0, 1) := by decide +kernel
theorem dX6_comes_50 : decode cX6_comes 50 = .ok (.istore 4, 2) := by decide +kernel
theorem dX6_comes_52 : decode cX6_comes 52 = .ok (.iinc 5 1, 3) := by decide +kernel
theorem dX6_comes_55 : decode cX6_comes 55 = .ok (.goto (-35), 3) := by decide +kernel
theorem dX6_comes_58 : decode cX6_comes 58 = .ok (.iload 4, 2) := by decide +kernel
theorem dX6_comes_60 : decode cX6_comes 60 = .ok (.ifCond .eq 56, 3) := by decide +kernel
theorem dX6_comes_63 : decode cX6_comes 63 = .ok (.iload_n 3, 1) := by decide +kernel
theorem dX6_comes_64 : decode cX6_comes 64 = .ok (.ifCond .le 35, 3) := by decide +kernel
theorem dX6_comes_67 : decode cX6_comes 67 = .ok (.aload_n 0, 1) := by decide +kernel
theorem dX6_comes_68 : decode cX6_comes 68 = .ok (.getfield 29, 3) := by decide +kernel
theorem dX6_comes_71 : decode cX6_comes 71 = .ok (.iload_n 3, 1) := by decide +kernel
theorem dX6_comes_72 : decode cX6_comes 72 = .ok (.iconst 1, 1) := by decide +kernel
theorem dX6_comes_73 : decode cX6_comes 73 = .ok (.isub, 1) := by decide +kernel
theorem dX6_comes_74 : decode cX6_comes 74 = .ok (.iaload, 1) := by decide +kernel
theorem dX6_comes_75 : decode cX6_comes 75 = .ok (.iload_n 1, 1) := by decide +kernel
theorem dX6_comes_76 : decode cX6_comes 76 = .ok (.if_icmp .le 23, 3) := by decide +kernel
theorem dX6_comes_79 : decode cX6_comes 79 = .ok (.aload_n 0, 1) := by decide +kernel
theorem dX6_comes_80 : decode cX6_comes 80 = .ok (.getfield 29, 3) := by decide +kernel
theorem dX6_comes_83 : decode cX6_comes 83 = .ok (.iload_n 3, 1) := by decide +kernel
theorem dX6_comes_84 : decode cX6_comes 84 = .ok (.aload_n 0, 1) := by decide +kernel
theorem dX6_comes_85 : decode cX6_comes 85 = .ok (.getfield 29, 3) := by decide +kernel
theorem dX6_comes_88 : decode cX6_comes 88 = .ok (.iload_n 3, 1) := by decide +kernel
theorem dX6_comes_89 : decode cX6_comes 89 = .ok (.iconst 1, 1) := by decide +kernel
theorem dX6_comes_90 : decode cX6_comes 90 = .ok (.isub, 1) := by decide +kernel
theorem dX6_comes_91 : decode cX6_comes 91 = .ok (.iaload, 1) := by decide +kernel
theorem dX6_comes_92 : decode cX6_comes 92 = .ok (.iastore, 1) := by decide +kernel
theorem dX6_comes_93 : decode cX6_comes 93 = .ok (.iinc 3 (-1), 3) := by decide +kernel
theorem dX6_comes_96 : decode cX6_comes 96 = .ok (.goto (-33), 3) := by decide +kernel
theorem dX6_comes_99 : decode cX6_comes 99 = .ok (.aload_n 0, 1) := by decide +kernel
theorem dX6_comes_100 : decode cX6_comes 100 = .ok (.getfield 29, 3) := by decide +kernel
theorem dX6_comes_103 : decode cX6_comes 103 = .ok (.iload_n 3, 1) := by decide +kernel
theorem dX6_comes_104 : decode cX6_comes 104 = .ok (.iload_n 1, 1) := by decide +kernel
theorem dX6_comes_105 : decode cX6_comes 105 = .ok (.iastore, 1) := by decide +kernel
theorem dX6_comes_106 : decode cX6_comes 106 = .ok (.aload_n 0, 1) := by decide +kernel
theorem dX6_comes_107 : decode cX6_comes 107 = .ok (.dup, 1) := by decide +kernel
theorem dX6_comes_108 : decode cX6_comes 108 = .ok (.getfield 86, 3) := by decide +kernel
theorem dX6_comes_111 : decode cX6_comes 111 = .ok (.iconst 1, 1) := by decide +kernel
theorem dX6_comes_112 : decode cX6_comes 112 = .ok (.iadd, 1) := by decide +kernel
theorem dX6_comes_113 : decode cX6_comes 113 = .ok (.putfield 86, 3) := by decide +kernel
theorem dX6_comes_116 : decode cX6_comes 116 = .ok (.return_, 1) := by decide +kernel
theorem dX6_laysEvents_0 : decode cX6_laysEvents 0 = .ok (.aload_n 0, 1) := by decide +kernel
theorem dX6_laysEvents_1 : decode cX6_laysEvents 1 = .ok (.iload_n 2, 1) := by decide +kernel
theorem dX6_laysEvents_2 : decode cX6_laysEvents 2 = .ok (.iconst 0, 1) := by decide +kernel
theorem dX6_laysEvents_3 : decode cX6_laysEvents 3 = .ok (.iconst 0, 1) := by decide +kernel
theorem dX6_laysEvents_4 : decode cX6_laysEvents 4 = .ok (.invokevirtual 49, 3) := by decide +kernel
theorem dX6_laysEvents_7 : decode cX6_laysEvents 7 = .ok (.istore_n 3, 1) := by decide +kernel
theorem dX6_laysEvents_8 : decode cX6_laysEvents 8 = .ok (.aload_n 0, 1) := by decide +kernel
theorem dX6_laysEvents_9 : decode cX6_laysEvents 9 = .ok (.iload_n 1, 1) := by decide +kernel
theorem dX6_laysEvents_10 : decode cX6_laysEvents 10 = .ok (.iconst 1, 1) := by decide +kernel
theorem dX6_laysEvents_11 : decode cX6_laysEvents 11 = .ok (.invokevirtual 53, 3) := by decide +kernel
theorem dX6_laysEvents_14 : decode cX6_laysEvents 14 = .ok (.istore 4, 2) := by decide +kernel
theorem dX6_laysEvents_16 : decode cX6_laysEvents 16 = .ok (.aload_n 0, 1) := by decide +kernel
theorem dX6_laysEvents_17 : decode cX6_laysEvents 17 = .ok (.iconst 0, 1) := by decide +kernel
theorem dX6_laysEvents_18 : decode cX6_laysEvents 18 = .ok (.putfield 86, 3) := by decide +kernel
theorem dX6_laysEvents_21 : decode cX6_laysEvents 21 = .ok (.iconst 0, 1) := by decide +kernel
theorem dX6_laysEvents_22 : decode cX6_laysEvents 22 = .ok (.istore 5, 2) := by decide +kernel
theorem dX6_laysEvents_24 : decode cX6_laysEvents 24 = .ok (.iload 5, 2) := by decide +kernel
theorem dX6_laysEvents_26 : decode cX6_laysEvents 26 = .ok (.aload_n 0, 1) := by decide +kernel
theorem dX6_laysEvents_27 : decode cX6_laysEvents 27 = .ok (.getfield 7, 3) := by decide +kernel
theorem dX6_laysEvents_30 : decode cX6_laysEvents 30 = .ok (.iconst 3, 1) := by decide +kernel
theorem dX6_laysEvents_31 : decode cX6_laysEvents 31 = .ok (.iload_n 2, 1) := by decide +kernel
theorem dX6_laysEvents_32 : decode cX6_laysEvents 32 = .ok (.iadd, 1) := by decide +kernel
theorem dX6_laysEvents_33 : decode cX6_laysEvents 33 = .ok (.iaload, 1) := by decide +kernel
theorem dX6_laysEvents_34 : decode cX6_laysEvents 34 = .ok (.if_icmp .ge 22, 3) := by decide +kernel
theorem dX6_laysEvents_37 : decode cX6_laysEvents 37 = .ok (.aload_n 0, 1) := by decide +kernel
theorem dX6_laysEvents_38 : decode cX6_laysEvents 38 = .ok (.aload_n 0, 1) := by decide +kernel
theorem dX6_laysEvents_39 : decode cX6_laysEvents 39 = .ok (.iload_n 2, 1) := by decide +kernel
theorem dX6_laysEvents_40 : decode cX6_laysEvents 40 = .ok (.iload 5, 2) := by decide +kernel
theorem dX6_laysEvents_42 : decode cX6_laysEvents 42 = .ok (.iconst 0, 1) := by decide +kernel
theorem dX6_laysEvents_43 : decode cX6_laysEvents 43 = .ok (.invokevirtual 49, 3) := by decide +kernel
theorem dX6_laysEvents_46 : decode cX6_laysEvents 46 = .ok (.iload_n 3, 1) := by decide +kernel
theorem dX6_laysEvents_47 : decode cX6_laysEvents 47 = .ok (.invokevirtual 90, 3) := by decide +kernel
theorem dX6_laysEvents_50 : decode cX6_laysEvents 50 = .ok (.iinc 5 1, 3) := by decide +kernel
theorem dX6_laysEvents_53 : decode cX6_laysEvents 53 = .ok (.goto (-29), 3) := by decide +kernel
theorem dX6_laysEvents_56 : decode cX6_laysEvents 56 = .ok (.iconst 0, 1) := by decide +kernel
theorem dX6_laysEvents_57 : decode cX6_laysEvents 57 = .ok (.istore 5, 2) := by decide +kernel
theorem dX6_laysEvents_59 : decode cX6_laysEvents 59 = .ok (.iload 5, 2) := by decide +kernel
theorem dX6_laysEvents_61 : decode cX6_laysEvents 61 = .ok (.aload_n 0, 1) := by decide +kernel
theorem dX6_laysEvents_62 : decode cX6_laysEvents 62 = .ok (.getfield 7, 3) := by decide +kernel
theorem dX6_laysEvents_65 : decode cX6_laysEvents 65 = .ok (.iconst 3, 1) := by decide +kernel
theorem dX6_laysEvents_66 : decode cX6_laysEvents 66 = .ok (.iload 4, 2) := by decide +kernel
theorem dX6_laysEvents_68 : decode cX6_laysEvents 68 = .ok (.iadd, 1) := by decide +kernel
theorem dX6_laysEvents_69 : decode cX6_laysEvents 69 = .ok (.iaload, 1) := by decide +kernel
theorem dX6_laysEvents_70 : decode cX6_laysEvents 70 = .ok (.if_icmp .ge 31, 3) := by decide +kernel
theorem dX6_laysEvents_73 : decode cX6_laysEvents 73 = .ok (.aload_n 0, 1) := by decide +kernel
theorem dX6_laysEvents_74 : decode cX6_laysEvents 74 = .ok (.iload_n 2, 1) := by decide +kernel
theorem dX6_laysEvents_75 : decode cX6_laysEvents 75 = .ok (.invokevirtual 94, 3) := by decide +kernel
theorem dX6_laysEvents_78 : decode cX6_laysEvents 78 = .ok (.ifCond .eq 23, 3) := by decide +kernel
theorem dX6_laysEvents_81 : decode cX6_laysEvents 81 = .ok (.aload_n 0, 1) := by decide +kernel
theorem dX6_laysEvents_82 : decode cX6_laysEvents 82 = .ok (.aload_n 0, 1) := by decide +kernel
theorem dX6_laysEvents_83 : decode cX6_laysEvents 83 = .ok (.iload 4, 2) := by decide +kernel
theorem dX6_laysEvents_85 : decode cX6_laysEvents 85 = .ok (.iload 5, 2) := by decide +kernel
theorem dX6_laysEvents_87 : decode cX6_laysEvents 87 = .ok (.iconst 0, 1) := by decide +kernel
theorem dX6_laysEvents_88 : decode cX6_laysEvents 88 = .ok (.invokevirtual 49, 3) := by decide +kernel
theorem dX6_laysEvents_91 : decode cX6_laysEvents 91 = .ok (.iload_n 3, 1) := by decide +kernel
theorem dX6_laysEvents_92 : decode cX6_laysEvents 92 = .ok (.invokevirtual 90, 3) := by decide +kernel
theorem dX6_laysEvents_95 : decode cX6_laysEvents 95 = .ok (.iinc 5 1, 3) := by decide +kernel
theorem dX6_laysEvents_98 : decode cX6_laysEvents 98 = .ok (.goto (-39), 3) := by decide +kernel
theorem dX6_laysEvents_101 : decode cX6_laysEvents 101 = .ok (.return_, 1) := by decide +kernel
theorem dX6_chains_0 : decode cX6_chains 0 = .ok (.aload_n 0, 1) := by decide +kernel
theorem dX6_chains_1 : decode cX6_chains 1 = .ok (.iload_n 1, 1) := by decide +kernel
theorem dX6_chains_2 : decode cX6_chains 2 = .ok (.iload_n 2, 1) := by decide +kernel
theorem dX6_chains_3 : decode cX6_chains 3 = .ok (.invokevirtual 97, 3) := by decide +kernel
theorem dX6_chains_6 : decode cX6_chains 6 = .ok (.aload_n 0, 1) := by decide +kernel
theorem dX6_chains_7 : decode cX6_chains 7 = .ok (.iconst 0, 1) := by decide +kernel
theorem dX6_chains_8 : decode cX6_chains 8 = .ok (.putfield 100, 3) := by decide +kernel
theorem dX6_chains_11 : decode cX6_chains 11 = .ok (.aload_n 0, 1) := by decide +kernel
theorem dX6_chains_12 : decode cX6_chains 12 = .ok (.ldc 103, 2) := by decide +kernel
theorem dX6_chains_14 : decode cX6_chains 14 = .ok (.putfield 104, 3) := by decide +kernel
theorem dX6_chains_17 : decode cX6_chains 17 = .ok (.aload_n 0, 1) := by decide +kernel
theorem dX6_chains_18 : decode cX6_chains 18 = .ok (.aload_n 0, 1) := by decide +kernel
theorem dX6_chains_19 : decode cX6_chains 19 = .ok (.iload_n 1, 1) := by decide +kernel
theorem dX6_chains_20 : decode cX6_chains 20 = .ok (.iload_n 2, 1) := by decide +kernel
theorem dX6_chains_21 : decode cX6_chains 21 = .ok (.aload_n 0, 1) := by decide +kernel
theorem dX6_chains_22 : decode cX6_chains 22 = .ok (.iload_n 2, 1) := by decide +kernel
theorem dX6_chains_23 : decode cX6_chains 23 = .ok (.iconst 0, 1) := by decide +kernel
theorem dX6_chains_24 : decode cX6_chains 24 = .ok (.iconst 0, 1) := by decide +kernel
theorem dX6_chains_25 : decode cX6_chains 25 = .ok (.invokevirtual 49, 3) := by decide +kernel
theorem dX6_chains_28 : decode cX6_chains 28 = .ok (.iload_n 3, 1) := by decide +kernel
theorem dX6_chains_29 : decode cX6_chains 29 = .ok (.invokevirtual 107, 3) := by decide +kernel
theorem dX6_chains_32 : decode cX6_chains 32 = .ok (.putfield 110, 3) := by decide +kernel
theorem dX6_chains_35 : decode cX6_chains 35 = .ok (.iconst 0, 1) := by decide +kernel
theorem dX6_chains_36 : decode cX6_chains 36 = .ok (.istore 4, 2) := by decide +kernel
theorem dX6_chains_38 : decode cX6_chains 38 = .ok (.iload 4, 2) := by decide +kernel
theorem dX6_chains_40 : decode cX6_chains 40 = .ok (.aload_n 0, 1) := by decide +kernel
theorem dX6_chains_41 : decode cX6_chains 41 = .ok (.getfield 86, 3) := by decide +kernel
theorem dX6_chains_44 : decode cX6_chains 44 = .ok (.if_icmp .ge 199, 3) := by decide +kernel
theorem dX6_chains_47 : decode cX6_chains 47 = .ok (.aload_n 0, 1) := by decide +kernel
theorem dX6_chains_48 : decode cX6_chains 48 = .ok (.getfield 29, 3) := by decide +kernel
theorem dX6_chains_51 : decode cX6_chains 51 = .ok (.iload 4, 2) := by decide +kernel
theorem dX6_chains_53 : decode cX6_chains 53 = .ok (.iaload, 1) := by decide +kernel
theorem dX6_chains_54 : decode cX6_chains 54 = .ok (.istore 5, 2) := by decide +kernel
theorem dX6_chains_56 : decode cX6_chains 56 = .ok (.aload_n 0, 1) := by decide +kernel
theorem dX6_chains_57 : decode cX6_chains 57 = .ok (.iload_n 1, 1) := by decide +kernel
theorem dX6_chains_58 : decode cX6_chains 58 = .ok (.iload_n 2, 1) := by decide +kernel
theorem dX6_chains_59 : decode cX6_chains 59 = .ok (.iload 5, 2) := by decide +kernel
theorem dX6_chains_61 : decode cX6_chains 61 = .ok (.iload_n 3, 1) := by decide +kernel
theorem dX6_chains_62 : decode cX6_chains 62 = .ok (.invokevirtual 107, 3) := by decide +kernel
theorem dX6_chains_65 : decode cX6_chains 65 = .ok (.istore 6, 2) := by decide +kernel
theorem dX6_chains_67 : decode cX6_chains 67 = .ok (.aload_n 0, 1) := by decide +kernel
theorem dX6_chains_68 : decode cX6_chains 68 = .ok (.iload_n 2, 1) := by decide +kernel
theorem dX6_chains_69 : decode cX6_chains 69 = .ok (.iload 5, 2) := by decide +kernel
theorem dX6_chains_71 : decode cX6_chains 71 = .ok (.invokevirtual 80, 3) := by decide +kernel
theorem dX6_chains_74 : decode cX6_chains 74 = .ok (.istore 7, 2) := by decide +kernel
theorem dX6_chains_76 : decode cX6_chains 76 = .ok (.aload_n 0, 1) := by decide +kernel
theorem dX6_chains_77 : decode cX6_chains 77 = .ok (.getfield 110, 3) := by decide +kernel
theorem dX6_chains_80 : decode cX6_chains 80 = .ok (.istore 8, 2) := by decide +kernel
theorem dX6_chains_82 : decode cX6_chains 82 = .ok (.aload_n 0, 1) := by decide +kernel
theorem dX6_chains_83 : decode cX6_chains 83 = .ok (.getfield 110, 3) := by decide +kernel
theorem dX6_chains_86 : decode cX6_chains 86 = .ok (.iload 5, 2) := by decide +kernel
theorem dX6_chains_88 : decode cX6_chains 88 = .ok (.if_icmp .lt 65, 3) := by decide +kernel
theorem dX6_chains_91 : decode cX6_chains 91 = .ok (.aload_n 0, 1) := by decide +kernel
theorem dX6_chains_92 : decode cX6_chains 92 = .ok (.aload_n 0, 1) := by decide +kernel
theorem dX6_chains_93 : decode cX6_chains 93 = .ok (.iload_n 2, 1) := by decide +kernel
theorem dX6_chains_94 : decode cX6_chains 94 = .ok (.iload 7, 2) := by decide +kernel
theorem dX6_chains_96 : decode cX6_chains 96 = .ok (.iconst 2, 1) := by decide +kernel
theorem dX6_chains_97 : decode cX6_chains 97 = .ok (.invokevirtual 57, 3) := by decide +kernel
theorem dX6_chains_100 : decode cX6_chains 100 = .ok (.ifCond .eq 19, 3) := by decide +kernel
theorem dX6_chains_103 : decode cX6_chains 103 = .ok (.aload_n 0, 1) := by decide +kernel
theorem dX6_chains_104 : decode cX6_chains 104 = .ok (.getfield 110, 3) := by decide +kernel
theorem dX6_chains_107 : decode cX6_chains 107 = .ok (.iload 6, 2) := by decide +kernel
theorem dX6_chains_109 : decode cX6_chains 109 = .ok (.if_icmp .le 10, 3) := by decide +kernel
theorem dX6_chains_112 : decode cX6_chains 112 = .ok (.aload_n 0, 1) := by decide +kernel
theorem dX6_chains_113 : decode cX6_chains 113 = .ok (.getfield 110, 3) := by decide +kernel
theorem dX6_chains_116 : decode cX6_chains 116 = .ok (.goto 5, 3) := by decide +kernel
theorem dX6_chains_119 : decode cX6_chains 119 = .ok (.iload 6, 2) := by decide +kernel
theorem dX6_chains_121 : decode cX6_chains 121 = .ok (.putfield 110, 3) := by decide +kernel
theorem dX6_chains_124 : decode cX6_chains 124 = .ok (.aload_n 0, 1) := by decide +kernel
theorem dX6_chains_125 : decode cX6_chains 125 = .ok (.aload_n 0, 1) := by decide +kernel
theorem dX6_chains_126 : decode cX6_chains 126 = .ok (.getfield 110, 3) := by decide +kernel
theorem dX6_chains_129 : decode cX6_chains 129 = .ok (.iload 5, 2) := by decide +kernel
theorem dX6_chains_131 : decode cX6_chains 131 = .ok (.iconst 1, 1) := by decide +kernel
theorem dX6_chains_132 : decode cX6_chains 132 = .ok (.isub, 1) := by decide +kernel
theorem dX6_chains_133 : decode cX6_chains 133 = .ok (.if_icmp .ge 10, 3) := by decide +kernel
theorem dX6_chains_136 : decode cX6_chains 136 = .ok (.iload 5, 2) := by decide +kernel
theorem dX6_chains_138 : decode cX6_chains 138 = .ok (.iconst 1, 1) := by decide +kernel
theorem dX6_chains_139 : decode cX6_chains 139 = .ok (.isub, 1) := by decide +kernel
theorem dX6_chains_140 : decode cX6_chains 140 = .ok (.goto 7, 3) := by decide +kernel
theorem dX6_chains_143 : decode cX6_chains 143 = .ok (.aload_n 0, 1) := by decide +kernel
theorem dX6_chains_144 : decode cX6_chains 144 = .ok (.getfield 110, 3) := by decide +kernel
theorem dX6_chains_147 : decode cX6_chains 147 = .ok (.putfield 110, 3) := by decide +kernel
theorem dX6_chains_150 : decode cX6_chains 150 = .ok (.goto 65, 3) := by decide +kernel
theorem dX6_chains_153 : decode cX6_chains 153 = .ok (.aload_n 0, 1) := by decide +kernel
theorem dX6_chains_154 : decode cX6_chains 154 = .ok (.iload_n 2, 1) := by decide +kernel
theorem dX6_chains_155 : decode cX6_chains 155 = .ok (.iload 7, 2) := by decide +kernel
theorem dX6_chains_157 : decode cX6_chains 157 = .ok (.iconst 4, 1) := by decide +kernel
theorem dX6_chains_158 : decode cX6_chains 158 = .ok (.invokevirtual 57, 3) := by decide +kernel
theorem dX6_chains_161 : decode cX6_chains 161 = .ok (.ifCond .eq 54, 3) := by decide +kernel
theorem dX6_chains_164 : decode cX6_chains 164 = .ok (.iload 6, 2) := by decide +kernel
theorem dX6_chains_166 : decode cX6_chains 166 = .ok (.iload 5, 2) := by decide +kernel
theorem dX6_chains_168 : decode cX6_chains 168 = .ok (.if_icmp .lt 47, 3) := by decide +kernel
theorem dX6_chains_171 : decode cX6_chains 171 = .ok (.aload_n 0, 1) := by decide +kernel
theorem dX6_chains_172 : decode cX6_chains 172 = .ok (.getfield 32, 3) := by decide +kernel
theorem dX6_chains_175 : decode cX6_chains 175 = .ok (.aload_n 0, 1) := by decide +kernel
theorem dX6_chains_176 : decode cX6_chains 176 = .ok (.getfield 100, 3) := by decide +kernel
theorem dX6_chains_179 : decode cX6_chains 179 = .ok (.aload_n 0, 1) := by decide +kernel
theorem dX6_chains_180 : decode cX6_chains 180 = .ok (.getfield 110, 3) := by decide +kernel
theorem dX6_chains_183 : decode cX6_chains 183 = .ok (.iconst 1, 1) := by decide +kernel
theorem dX6_chains_184 : decode cX6_chains 184 = .ok (.iadd, 1) := by decide +kernel
theorem dX6_chains_185 : decode cX6_chains 185 = .ok (.iastore, 1) := by decide +kernel
theorem dX6_chains_186 : decode cX6_chains 186 = .ok (.aload_n 0, 1) := by decide +kernel
theorem dX6_chains_187 : decode cX6_chains 187 = .ok (.getfield 35, 3) := by decide +kernel
theorem dX6_chains_190 : decode cX6_chains 190 = .ok (.aload_n 0, 1) := by decide +kernel
theorem dX6_chains_191 : decode cX6_chains 191 = .ok (.getfield 100, 3) := by decide +kernel
theorem dX6_chains_194 : decode cX6_chains 194 = .ok (.iload 5, 2) := by decide +kernel
theorem dX6_chains_196 : decode cX6_chains 196 = .ok (.iconst 1, 1) := by decide +kernel
theorem dX6_chains_197 : decode cX6_chains 197 = .ok (.isub, 1) := by decide +kernel
theorem dX6_chains_198 : decode cX6_chains 198 = .ok (.iastore, 1) := by decide +kernel
theorem dX6_chains_199 : decode cX6_chains 199 = .ok (.aload_n 0, 1) := by decide +kernel
theorem dX6_chains_200 : decode cX6_chains 200 = .ok (.dup, 1) := by decide +kernel
theorem dX6_chains_201 : decode cX6_chains 201 = .ok (.getfield 100, 3) := by decide +kernel
theorem dX6_chains_204 : decode cX6_chains 204 = .ok (.iconst 1, 1) := by decide +kernel
theorem dX6_chains_205 : decode cX6_chains 205 = .ok (.iadd, 1) := by decide +kernel
theorem dX6_chains_206 : decode cX6_chains 206 = .ok (.putfield 100, 3) := by decide +kernel
theorem dX6_chains_209 : decode cX6_chains 209 = .ok (.aload_n 0, 1) := by decide +kernel
theorem dX6_chains_210 : decode cX6_chains 210 = .ok (.iload 6, 2) := by decide +kernel
theorem dX6_chains_212 : decode cX6_chains 212 = .ok (.putfield 110, 3) := by decide +kernel
theorem dX6_chains_215 : decode cX6_chains 215 = .ok (.aload_n 0, 1) := by decide +kernel
theorem dX6_chains_216 : decode cX6_chains 216 = .ok (.aload_n 0, 1) := by decide +kernel
theorem dX6_chains_217 : decode cX6_chains 217 = .ok (.getfield 110, 3) := by decide +kernel
theorem dX6_chains_220 : decode cX6_chains 220 = .ok (.iload 8, 2) := by decide +kernel
theorem dX6_chains_222 : decode cX6_chains 222 = .ok (.if_icmp .eq 8, 3) := by decide +kernel
theorem dX6_chains_225 : decode cX6_chains 225 = .ok (.iload 5, 2) := by decide +kernel
theorem dX6_chains_227 : decode cX6_chains 227 = .ok (.goto 7, 3) := by decide +kernel
theorem dX6_chains_230 : decode cX6_chains 230 = .ok (.aload_n 0, 1) := by decide +kernel
theorem dX6_chains_231 : decode cX6_chains 231 = .ok (.getfield 104, 3) := by decide +kernel
theorem dX6_chains_234 : decode cX6_chains 234 = .ok (.putfield 104, 3) := by decide +kernel
theorem dX6_chains_237 : decode cX6_chains 237 = .ok (.iinc 4 1, 3) := by decide +kernel
theorem dX6_chains_240 : decode cX6_chains 240 = .ok (.goto (-202), 3) := by decide +kernel
theorem dX6_chains_243 : decode cX6_chains 243 = .ok (.return_, 1) := by decide +kernel
theorem dX6_isProtectedNow_0 : decode cX6_isProtectedNow 0 = .ok (.iload_n 2, 1) := by decide +kernel
theorem dX6_isProtectedNow_1 : decode cX6_isProtectedNow 1 = .ok (.i2l, 1) := by decide +kernel
theorem dX6_isProtectedNow_2 : decode cX6_isProtectedNow 2 = .ok (.aload_n 0, 1) := by decide +kernel
theorem dX6_isProtectedNow_3 : decode cX6_isProtectedNow 3 = .ok (.iload_n 1, 1) := by decide +kernel
theorem dX6_isProtectedNow_4 : decode cX6_isProtectedNow 4 = .ok (.iconst 2, 1) := by decide +kernel
theorem dX6_isProtectedNow_5 : decode cX6_isProtectedNow 5 = .ok (.invokevirtual 53, 3) := by decide +kernel
theorem dX6_isProtectedNow_8 : decode cX6_isProtectedNow 8 = .ok (.i2l, 1) := by decide +kernel
theorem dX6_isProtectedNow_9 : decode cX6_isProtectedNow 9 = .ok (.aload_n 0, 1) := by decide +kernel
theorem dX6_isProtectedNow_10 : decode cX6_isProtectedNow 10 = .ok (.getfield 110, 3) := by decide +kernel
theorem dX6_isProtectedNow_13 : decode cX6_isProtectedNow 13 = .ok (.i2l, 1) := by decide +kernel
theorem dX6_isProtectedNow_14 : decode cX6_isProtectedNow 14 = .ok (.invokestatic 41, 3) := by decide +kernel
theorem dX6_isProtectedNow_17 : decode cX6_isProtectedNow 17 = .ok (.istore_n 3, 1) := by decide +kernel
theorem dX6_isProtectedNow_18 : decode cX6_isProtectedNow 18 = .ok (.iconst 0, 1) := by decide +kernel
theorem dX6_isProtectedNow_19 : decode cX6_isProtectedNow 19 = .ok (.istore 4, 2) := by decide +kernel
theorem dX6_isProtectedNow_21 : decode cX6_isProtectedNow 21 = .ok (.iload 4, 2) := by decide +kernel
theorem dX6_isProtectedNow_23 : decode cX6_isProtectedNow 23 = .ok (.aload_n 0, 1) := by decide +kernel
theorem dX6_isProtectedNow_24 : decode cX6_isProtectedNow 24 = .ok (.getfield 100, 3) := by decide +kernel
theorem dX6_isProtectedNow_27 : decode cX6_isProtectedNow 27 = .ok (.if_icmp .ge 43, 3) := by decide +kernel
theorem dX6_isProtectedNow_30 : decode cX6_isProtectedNow 30 = .ok (.iload_n 3, 1) := by decide +kernel
theorem dX6_isProtectedNow_31 : decode cX6_isProtectedNow 31 = .ok (.ifCond .eq 31, 3) := by decide +kernel
theorem dX6_isProtectedNow_34 : decode cX6_isProtectedNow 34 = .ok (.iload_n 2, 1) := by decide +kernel
theorem dX6_isProtectedNow_35 : decode cX6_isProtectedNow 35 = .ok (.i2l, 1) := by decide +kernel
theorem dX6_isProtectedNow_36 : decode cX6_isProtectedNow 36 = .ok (.aload_n 0, 1) := by decide +kernel
theorem dX6_isProtectedNow_37 : decode cX6_isProtectedNow 37 = .ok (.getfield 32, 3) := by decide +kernel
theorem dX6_isProtectedNow_40 : decode cX6_isProtectedNow 40 = .ok (.iload 4, 2) := by decide +kernel
theorem dX6_isProtectedNow_42 : decode cX6_isProtectedNow 42 = .ok (.iaload, 1) := by decide +kernel
theorem dX6_isProtectedNow_43 : decode cX6_isProtectedNow 43 = .ok (.i2l, 1) := by decide +kernel
theorem dX6_isProtectedNow_44 : decode cX6_isProtectedNow 44 = .ok (.aload_n 0, 1) := by decide +kernel
theorem dX6_isProtectedNow_45 : decode cX6_isProtectedNow 45 = .ok (.getfield 35, 3) := by decide +kernel
theorem dX6_isProtectedNow_48 : decode cX6_isProtectedNow 48 = .ok (.iload 4, 2) := by decide +kernel
theorem dX6_isProtectedNow_50 : decode cX6_isProtectedNow 50 = .ok (.iaload, 1) := by decide +kernel
theorem dX6_isProtectedNow_51 : decode cX6_isProtectedNow 51 = .ok (.i2l, 1) := by decide +kernel
theorem dX6_isProtectedNow_52 : decode cX6_isProtectedNow 52 = .ok (.invokestatic 41, 3) := by decide +kernel
theorem dX6_isProtectedNow_55 : decode cX6_isProtectedNow 55 = .ok (.ifCond .ne 7, 3) := by decide +kernel
theorem dX6_isProtectedNow_58 : decode cX6_isProtectedNow 58 = .ok (.iconst 1, 1) := by decide +kernel
theorem dX6_isProtectedNow_59 : decode cX6_isProtectedNow 59 = .ok (.goto 4, 3) := by decide +kernel
theorem dX6_isProtectedNow_62 : decode cX6_isProtectedNow 62 = .ok (.iconst 0, 1) := by decide +kernel
theorem dX6_isProtectedNow_63 : decode cX6_isProtectedNow 63 = .ok (.istore_n 3, 1) := by decide +kernel
theorem dX6_isProtectedNow_64 : decode cX6_isProtectedNow 64 = .ok (.iinc 4 1, 3) := by decide +kernel
theorem dX6_isProtectedNow_67 : decode cX6_isProtectedNow 67 = .ok (.goto (-46), 3) := by decide +kernel
theorem dX6_isProtectedNow_70 : decode cX6_isProtectedNow 70 = .ok (.iload_n 3, 1) := by decide +kernel
theorem dX6_isProtectedNow_71 : decode cX6_isProtectedNow 71 = .ok (.ireturn, 1) := by decide +kernel
theorem dX6_spread_0 : decode cX6_spread 0 = .ok (.iconst 0, 1) := by decide +kernel
theorem dX6_spread_1 : decode cX6_spread 1 = .ok (.istore_n 2, 1) := by decide +kernel
theorem dX6_spread_2 : decode cX6_spread 2 = .ok (.iconst 0, 1) := by decide +kernel
theorem dX6_spread_3 : decode cX6_spread 3 = .ok (.istore_n 3, 1) := by decide +kernel
theorem dX6_spread_4 : decode cX6_spread 4 = .ok (.iload_n 3, 1) := by decide +kernel
theorem dX6_spread_5 : decode cX6_spread 5 = .ok (.aload_n 0, 1) := by decide +kernel
theorem dX6_spread_6 : decode cX6_spread 6 = .ok (.getfield 7, 3) := by decide +kernel
theorem dX6_spread_9 : decode cX6_spread 9 = .ok (.iconst 1, 1) := by decide +kernel
theorem dX6_spread_10 : decode cX6_spread 10 = .ok (.iaload, 1) := by decide +kernel
theorem dX6_spread_11 : decode cX6_spread 11 = .ok (.if_icmp .ge 52, 3) := by decide +kernel
theorem dX6_spread_14 : decode cX6_spread 14 = .ok (.aload_n 0, 1) := by decide +kernel
theorem dX6_spread_15 : decode cX6_spread 15 = .ok (.iload_n 1, 1) := by decide +kernel
theorem dX6_spread_16 : decode cX6_spread 16 = .ok (.iconst 4, 1) := by decide +kernel
theorem dX6_spread_17 : decode cX6_spread 17 = .ok (.invokevirtual 53, 3) := by decide +kernel
theorem dX6_spread_20 : decode cX6_spread 20 = .ok (.iload_n 3, 1) := by decide +kernel
theorem dX6_spread_21 : decode cX6_spread 21 = .ok (.invokestatic 65, 3) := by decide +kernel
theorem dX6_spread_24 : decode cX6_spread 24 = .ok (.ifCond .eq 17, 3) := by decide +kernel
theorem dX6_spread_27 : decode cX6_spread 27 = .ok (.aload_n 0, 1) := by decide +kernel
theorem dX6_spread_28 : decode cX6_spread 28 = .ok (.iload_n 3, 1) := by decide +kernel
theorem dX6_spread_29 : decode cX6_spread 29 = .ok (.invokevirtual 73, 3) := by decide +kernel
theorem dX6_spread_32 : decode cX6_spread 32 = .ok (.aload_n 0, 1) := by decide +kernel
theorem dX6_spread_33 : decode cX6_spread 33 = .ok (.iload_n 3, 1) := by decide +kernel
theorem dX6_spread_34 : decode cX6_spread 34 = .ok (.invokevirtual 69, 3) := by decide +kernel
theorem dX6_spread_37 : decode cX6_spread 37 = .ok (.isub, 1) := by decide +kernel
theorem dX6_spread_38 : decode cX6_spread 38 = .ok (.goto 4, 3) := by decide +kernel
theorem dX6_spread_41 : decode cX6_spread 41 = .ok (.iconst 0, 1) := by decide +kernel
theorem dX6_spread_42 : decode cX6_spread 42 = .ok (.istore 4, 2) := by decide +kernel
theorem dX6_spread_44 : decode cX6_spread 44 = .ok (.iload 4, 2) := by decide +kernel
theorem dX6_spread_46 : decode cX6_spread 46 = .ok (.iload_n 2, 1) := by decide +kernel
theorem dX6_spread_47 : decode cX6_spread 47 = .ok (.if_icmp .le 8, 3) := by decide +kernel
theorem dX6_spread_50 : decode cX6_spread 50 = .ok (.iload 4, 2) := by decide +kernel
theorem dX6_spread_52 : decode cX6_spread 52 = .ok (.goto 4, 3) := by decide +kernel
theorem dX6_spread_55 : decode cX6_spread 55 = .ok (.iload_n 2, 1) := by decide +kernel
theorem dX6_spread_56 : decode cX6_spread 56 = .ok (.istore_n 2, 1) := by decide +kernel
theorem dX6_spread_57 : decode cX6_spread 57 = .ok (.iinc 3 1, 3) := by decide +kernel
theorem dX6_spread_60 : decode cX6_spread 60 = .ok (.goto (-56), 3) := by decide +kernel
theorem dX6_spread_63 : decode cX6_spread 63 = .ok (.iload_n 2, 1) := by decide +kernel
theorem dX6_spread_64 : decode cX6_spread 64 = .ok (.bipush 60, 2) := by decide +kernel
theorem dX6_spread_66 : decode cX6_spread 66 = .ok (.if_icmp .ge 7, 3) := by decide +kernel
theorem dX6_spread_69 : decode cX6_spread 69 = .ok (.iload_n 2, 1) := by decide +kernel
theorem dX6_spread_70 : decode cX6_spread 70 = .ok (.goto 5, 3) := by decide +kernel
theorem dX6_spread_73 : decode cX6_spread 73 = .ok (.bipush 60, 2) := by decide +kernel
theorem dX6_spread_75 : decode cX6_spread 75 = .ok (.ireturn, 1) := by decide +kernel
theorem dX6_freeNow_0 : decode cX6_freeNow 0 = .ok (.aload_n 0, 1) := by decide +kernel
theorem dX6_freeNow_1 : decode cX6_freeNow 1 = .ok (.getfield 110, 3) := by decide +kernel
theorem dX6_freeNow_4 : decode cX6_freeNow 4 = .ok (.sipush 9999, 3) := by decide +kernel
theorem dX6_freeNow_7 : decode cX6_freeNow 7 = .ok (.if_icmp .ne 9, 3) := by decide +kernel
theorem dX6_freeNow_10 : decode cX6_freeNow 10 = .ok (.sipush 9999, 3) := by decide +kernel
theorem dX6_freeNow_13 : decode cX6_freeNow 13 = .ok (.goto 9, 3) := by decide +kernel
theorem dX6_freeNow_16 : decode cX6_freeNow 16 = .ok (.aload_n 0, 1) := by decide +kernel
theorem dX6_freeNow_17 : decode cX6_freeNow 17 = .ok (.getfield 110, 3) := by decide +kernel
theorem dX6_freeNow_20 : decode cX6_freeNow 20 = .ok (.iconst 1, 1) := by decide +kernel
theorem dX6_freeNow_21 : decode cX6_freeNow 21 = .ok (.iadd, 1) := by decide +kernel
theorem dX6_freeNow_22 : decode cX6_freeNow 22 = .ok (.ireturn, 1) := by decide +kernel
theorem dX6_laysFree_0 : decode cX6_laysFree 0 = .ok (.aload_n 0, 1) := by decide +kernel
theorem dX6_laysFree_1 : decode cX6_laysFree 1 = .ok (.iload_n 1, 1) := by decide +kernel
theorem dX6_laysFree_2 : decode cX6_laysFree 2 = .ok (.invokevirtual 113, 3) := by decide +kernel
theorem dX6_laysFree_5 : decode cX6_laysFree 5 = .ok (.istore_n 3, 1) := by decide +kernel
theorem dX6_laysFree_6 : decode cX6_laysFree 6 = .ok (.iconst 0, 1) := by decide +kernel
theorem dX6_laysFree_7 : decode cX6_laysFree 7 = .ok (.istore 4, 2) := by decide +kernel
theorem dX6_laysFree_9 : decode cX6_laysFree 9 = .ok (.iload 4, 2) := by decide +kernel
theorem dX6_laysFree_11 : decode cX6_laysFree 11 = .ok (.iload_n 3, 1) := by decide +kernel
theorem dX6_laysFree_12 : decode cX6_laysFree 12 = .ok (.if_icmp .gt 77, 3) := by decide +kernel
theorem dX6_laysFree_15 : decode cX6_laysFree 15 = .ok (.aload_n 0, 1) := by decide +kernel
theorem dX6_laysFree_16 : decode cX6_laysFree 16 = .ok (.iload_n 1, 1) := by decide +kernel
theorem dX6_laysFree_17 : decode cX6_laysFree 17 = .ok (.iload_n 2, 1) := by decide +kernel
theorem dX6_laysFree_18 : decode cX6_laysFree 18 = .ok (.iload 4, 2) := by decide +kernel
theorem dX6_laysFree_20 : decode cX6_laysFree 20 = .ok (.invokevirtual 116, 3) := by decide +kernel
theorem dX6_laysFree_23 : decode cX6_laysFree 23 = .ok (.aload_n 0, 1) := by decide +kernel
theorem dX6_laysFree_24 : decode cX6_laysFree 24 = .ok (.invokevirtual 120, 3) := by decide +kernel
theorem dX6_laysFree_27 : decode cX6_laysFree 27 = .ok (.istore 5, 2) := by decide +kernel
theorem dX6_laysFree_29 : decode cX6_laysFree 29 = .ok (.aload_n 0, 1) := by decide +kernel
theorem dX6_laysFree_30 : decode cX6_laysFree 30 = .ok (.iload 4, 2) := by decide +kernel
theorem dX6_laysFree_32 : decode cX6_laysFree 32 = .ok (.ifCond .eq 12, 3) := by decide +kernel
theorem dX6_laysFree_35 : decode cX6_laysFree 35 = .ok (.iload 5, 2) := by decide +kernel
theorem dX6_laysFree_37 : decode cX6_laysFree 37 = .ok (.aload_n 0, 1) := by decide +kernel
theorem dX6_laysFree_38 : decode cX6_laysFree 38 = .ok (.getfield 124, 3) := by decide +kernel
theorem dX6_laysFree_41 : decode cX6_laysFree 41 = .ok (.if_icmp .ge 8, 3) := by decide +kernel
theorem dX6_laysFree_44 : decode cX6_laysFree 44 = .ok (.iload 5, 2) := by decide +kernel
theorem dX6_laysFree_46 : decode cX6_laysFree 46 = .ok (.goto 7, 3) := by decide +kernel
theorem dX6_laysFree_49 : decode cX6_laysFree 49 = .ok (.aload_n 0, 1) := by decide +kernel
theorem dX6_laysFree_50 : decode cX6_laysFree 50 = .ok (.getfield 124, 3) := by decide +kernel
theorem dX6_laysFree_53 : decode cX6_laysFree 53 = .ok (.putfield 124, 3) := by decide +kernel
theorem dX6_laysFree_56 : decode cX6_laysFree 56 = .ok (.aload_n 0, 1) := by decide +kernel
theorem dX6_laysFree_57 : decode cX6_laysFree 57 = .ok (.iload 4, 2) := by decide +kernel
theorem dX6_laysFree_59 : decode cX6_laysFree 59 = .ok (.ifCond .eq 12, 3) := by decide +kernel
theorem dX6_laysFree_62 : decode cX6_laysFree 62 = .ok (.iload 5, 2) := by decide +kernel
theorem dX6_laysFree_64 : decode cX6_laysFree 64 = .ok (.aload_n 0, 1) := by decide +kernel
theorem dX6_laysFree_65 : decode cX6_laysFree 65 = .ok (.getfield 127, 3) := by decide +kernel
theorem dX6_laysFree_68 : decode cX6_laysFree 68 = .ok (.if_icmp .le 8, 3) := by decide +kernel
theorem dX6_laysFree_71 : decode cX6_laysFree 71 = .ok (.iload 5, 2) := by decide +kernel
theorem dX6_laysFree_73 : decode cX6_laysFree 73 = .ok (.goto 7, 3) := by decide +kernel
theorem dX6_laysFree_76 : decode cX6_laysFree 76 = .ok (.aload_n 0, 1) := by decide +kernel
theorem dX6_laysFree_77 : decode cX6_laysFree 77 = .ok (.getfield 127, 3) := by decide +kernel
theorem dX6_laysFree_80 : decode cX6_laysFree 80 = .ok (.putfield 127, 3) := by decide +kernel
theorem dX6_laysFree_83 : decode cX6_laysFree 83 = .ok (.iinc 4 1, 3) := by decide +kernel
theorem dX6_laysFree_86 : decode cX6_laysFree 86 = .ok (.goto (-77), 3) := by decide +kernel
theorem dX6_laysFree_89 : decode cX6_laysFree 89 = .ok (.return_, 1) := by decide +kernel
theorem dX6_byteAt_0 : decode cX6_byteAt 0 = .ok (.iload_n 1, 1) := by decide +kernel
theorem dX6_byteAt_1 : decode cX6_byteAt 1 = .ok (.aload_n 0, 1) := by decide +kernel
theorem dX6_byteAt_2 : decode cX6_byteAt 2 = .ok (.getfield 130, 3) := by decide +kernel
theorem dX6_byteAt_5 : decode cX6_byteAt 5 = .ok (.if_icmp .ge 12, 3) := by decide +kernel
theorem dX6_byteAt_8 : decode cX6_byteAt 8 = .ok (.aload_n 0, 1) := by decide +kernel
theorem dX6_byteAt_9 : decode cX6_byteAt 9 = .ok (.getfield 26, 3) := by decide +kernel
theorem dX6_byteAt_12 : decode cX6_byteAt 12 = .ok (.iload_n 1, 1) := by decide +kernel
theorem dX6_byteAt_13 : decode cX6_byteAt 13 = .ok (.iaload, 1) := by decide +kernel
theorem dX6_byteAt_14 : decode cX6_byteAt 14 = .ok (.goto 4, 3) := by decide +kernel
theorem dX6_byteAt_17 : decode cX6_byteAt 17 = .ok (.iconst (-1), 1) := by decide +kernel
theorem dX6_byteAt_18 : decode cX6_byteAt 18 = .ok (.ireturn, 1) := by decide +kernel
theorem dX6_reads_0 : decode cX6_reads 0 = .ok (.aload_n 0, 1) := by decide +kernel
theorem dX6_reads_1 : decode cX6_reads 1 = .ok (.aload_n 0, 1) := by decide +kernel
theorem dX6_reads_2 : decode cX6_reads 2 = .ok (.getfield 133, 3) := by decide +kernel
theorem dX6_reads_5 : decode cX6_reads 5 = .ok (.putfield 136, 3) := by decide +kernel
theorem dX6_reads_8 : decode cX6_reads 8 = .ok (.aload_n 0, 1) := by decide +kernel
theorem dX6_reads_9 : decode cX6_reads 9 = .ok (.aload_n 0, 1) := by decide +kernel
theorem dX6_reads_10 : decode cX6_reads 10 = .ok (.getfield 133, 3) := by decide +kernel
theorem dX6_reads_13 : decode cX6_reads 13 = .ok (.invokevirtual 139, 3) := by decide +kernel
theorem dX6_reads_16 : decode cX6_reads 16 = .ok (.istore_n 1, 1) := by decide +kernel
theorem dX6_reads_17 : decode cX6_reads 17 = .ok (.aload_n 0, 1) := by decide +kernel
theorem dX6_reads_18 : decode cX6_reads 18 = .ok (.iload_n 1, 1) := by decide +kernel
theorem dX6_reads_19 : decode cX6_reads 19 = .ok (.putfield 142, 3) := by decide +kernel
theorem dX6_reads_22 : decode cX6_reads 22 = .ok (.aload_n 0, 1) := by decide +kernel
theorem dX6_reads_23 : decode cX6_reads 23 = .ok (.dup, 1) := by decide +kernel
theorem dX6_reads_24 : decode cX6_reads 24 = .ok (.getfield 133, 3) := by decide +kernel
theorem dX6_reads_27 : decode cX6_reads 27 = .ok (.iload_n 1, 1) := by decide +kernel
theorem dX6_reads_28 : decode cX6_reads 28 = .ok (.ifCond .ge 7, 3) := by decide +kernel
theorem dX6_reads_31 : decode cX6_reads 31 = .ok (.iconst 0, 1) := by decide +kernel
theorem dX6_reads_32 : decode cX6_reads 32 = .ok (.goto 4, 3) := by decide +kernel
theorem dX6_reads_35 : decode cX6_reads 35 = .ok (.iconst 1, 1) := by decide +kernel
theorem dX6_reads_36 : decode cX6_reads 36 = .ok (.iadd, 1) := by decide +kernel
theorem dX6_reads_37 : decode cX6_reads 37 = .ok (.putfield 133, 3) := by decide +kernel
theorem dX6_reads_40 : decode cX6_reads 40 = .ok (.aload_n 0, 1) := by decide +kernel
theorem dX6_reads_41 : decode cX6_reads 41 = .ok (.iload_n 1, 1) := by decide +kernel
theorem dX6_reads_42 : decode cX6_reads 42 = .ok (.ifCond .ge 7, 3) := by decide +kernel
theorem dX6_reads_45 : decode cX6_reads 45 = .ok (.iconst 0, 1) := by decide +kernel
theorem dX6_reads_46 : decode cX6_reads 46 = .ok (.goto 56, 3) := by decide +kernel
theorem dX6_reads_49 : decode cX6_reads 49 = .ok (.iload_n 1, 1) := by decide +kernel
theorem dX6_reads_50 : decode cX6_reads 50 = .ok (.i2l, 1) := by decide +kernel
theorem dX6_reads_51 : decode cX6_reads 51 = .ok (.ldc2_w 145, 3) := by decide +kernel
theorem dX6_reads_54 : decode cX6_reads 54 = .ok (.ldc2_w 147, 3) := by decide +kernel
theorem dX6_reads_57 : decode cX6_reads 57 = .ok (.invokestatic 41, 3) := by decide +kernel
theorem dX6_reads_60 : decode cX6_reads 60 = .ok (.ifCond .eq 7, 3) := by decide +kernel
theorem dX6_reads_63 : decode cX6_reads 63 = .ok (.iconst 1, 1) := by decide +kernel
theorem dX6_reads_64 : decode cX6_reads 64 = .ok (.goto 38, 3) := by decide +kernel
theorem dX6_reads_67 : decode cX6_reads 67 = .ok (.iload_n 1, 1) := by decide +kernel
theorem dX6_reads_68 : decode cX6_reads 68 = .ok (.i2l, 1) := by decide +kernel
theorem dX6_reads_69 : decode cX6_reads 69 = .ok (.ldc2_w 149, 3) := by decide +kernel
theorem dX6_reads_72 : decode cX6_reads 72 = .ok (.ldc2_w 151, 3) := by decide +kernel
theorem dX6_reads_75 : decode cX6_reads 75 = .ok (.invokestatic 41, 3) := by decide +kernel
theorem dX6_reads_78 : decode cX6_reads 78 = .ok (.ifCond .eq 7, 3) := by decide +kernel
theorem dX6_reads_81 : decode cX6_reads 81 = .ok (.iconst 2, 1) := by decide +kernel
theorem dX6_reads_82 : decode cX6_reads 82 = .ok (.goto 20, 3) := by decide +kernel
theorem dX6_reads_85 : decode cX6_reads 85 = .ok (.iload_n 1, 1) := by decide +kernel
theorem dX6_reads_86 : decode cX6_reads 86 = .ok (.bipush 44, 2) := by decide +kernel
theorem dX6_reads_88 : decode cX6_reads 88 = .ok (.if_icmp .eq 9, 3) := by decide +kernel
theorem dX6_reads_91 : decode cX6_reads 91 = .ok (.iload_n 1, 1) := by decide +kernel
theorem dX6_reads_92 : decode cX6_reads 92 = .ok (.bipush 59, 2) := by decide +kernel
theorem dX6_reads_94 : decode cX6_reads 94 = .ok (.if_icmp .ne 7, 3) := by decide +kernel
theorem dX6_reads_97 : decode cX6_reads 97 = .ok (.iconst 3, 1) := by decide +kernel
theorem dX6_reads_98 : decode cX6_reads 98 = .ok (.goto 4, 3) := by decide +kernel
theorem dX6_reads_101 : decode cX6_reads 101 = .ok (.iconst 4, 1) := by decide +kernel
theorem dX6_reads_102 : decode cX6_reads 102 = .ok (.putfield 153, 3) := by decide +kernel
theorem dX6_reads_105 : decode cX6_reads 105 = .ok (.aload_n 0, 1) := by decide +kernel
theorem dX6_reads_106 : decode cX6_reads 106 = .ok (.getfield 153, 3) := by decide +kernel
theorem dX6_reads_109 : decode cX6_reads 109 = .ok (.iconst 2, 1) := by decide +kernel
theorem dX6_reads_110 : decode cX6_reads 110 = .ok (.if_icmp .ne 110, 3) := by decide +kernel
theorem dX6_reads_113 : decode cX6_reads 113 = .ok (.aload_n 0, 1) := by decide +kernel
theorem dX6_reads_114 : decode cX6_reads 114 = .ok (.iload_n 1, 1) := by decide +kernel
theorem dX6_reads_115 : decode cX6_reads 115 = .ok (.bipush 48, 2) := by decide +kernel
theorem dX6_reads_117 : decode cX6_reads 117 = .ok (.isub, 1) := by decide +kernel
theorem dX6_reads_118 : decode cX6_reads 118 = .ok (.putfield 142, 3) := by decide +kernel
theorem dX6_reads_121 : decode cX6_reads 121 = .ok (.aload_n 0, 1) := by decide +kernel
theorem dX6_reads_122 : decode cX6_reads 122 = .ok (.aload_n 0, 1) := by decide +kernel
theorem dX6_reads_123 : decode cX6_reads 123 = .ok (.getfield 133, 3) := by decide +kernel
theorem dX6_reads_126 : decode cX6_reads 126 = .ok (.invokevirtual 139, 3) := by decide +kernel
theorem dX6_reads_129 : decode cX6_reads 129 = .ok (.i2l, 1) := by decide +kernel
theorem dX6_reads_130 : decode cX6_reads 130 = .ok (.ldc2_w 149, 3) := by decide +kernel
theorem dX6_reads_133 : decode cX6_reads 133 = .ok (.ldc2_w 151, 3) := by decide +kernel
theorem dX6_reads_136 : decode cX6_reads 136 = .ok (.invokestatic 41, 3) := by decide +kernel
theorem dX6_reads_139 : decode cX6_reads 139 = .ok (.ifCond .eq 59, 3) := by decide +kernel
theorem dX6_reads_142 : decode cX6_reads 142 = .ok (.aload_n 0, 1) := by decide +kernel
theorem dX6_reads_143 : decode cX6_reads 143 = .ok (.aload_n 0, 1) := by decide +kernel
theorem dX6_reads_144 : decode cX6_reads 144 = .ok (.getfield 133, 3) := by decide +kernel
theorem dX6_reads_147 : decode cX6_reads 147 = .ok (.aload_n 0, 1) := by decide +kernel
theorem dX6_reads_148 : decode cX6_reads 148 = .ok (.getfield 136, 3) := by decide +kernel
theorem dX6_reads_151 : decode cX6_reads 151 = .ok (.isub, 1) := by decide +kernel
theorem dX6_reads_152 : decode cX6_reads 152 = .ok (.iconst 4, 1) := by decide +kernel
theorem dX6_reads_153 : decode cX6_reads 153 = .ok (.if_icmp .ge 25, 3) := by decide +kernel
theorem dX6_reads_156 : decode cX6_reads 156 = .ok (.bipush 10, 2) := by decide +kernel
theorem dX6_reads_158 : decode cX6_reads 158 = .ok (.aload_n 0, 1) := by decide +kernel
theorem dX6_reads_159 : decode cX6_reads 159 = .ok (.getfield 142, 3) := by decide +kernel
theorem dX6_reads_162 : decode cX6_reads 162 = .ok (.imul, 1) := by decide +kernel
theorem dX6_reads_163 : decode cX6_reads 163 = .ok (.aload_n 0, 1) := by decide +kernel
theorem dX6_reads_164 : decode cX6_reads 164 = .ok (.aload_n 0, 1) := by decide +kernel
theorem dX6_reads_165 : decode cX6_reads 165 = .ok (.getfield 133, 3) := by decide +kernel
theorem dX6_reads_168 : decode cX6_reads 168 = .ok (.invokevirtual 139, 3) := by decide +kernel
theorem dX6_reads_171 : decode cX6_reads 171 = .ok (.iadd, 1) := by decide +kernel
theorem dX6_reads_172 : decode cX6_reads 172 = .ok (.bipush 48, 2) := by decide +kernel
theorem dX6_reads_174 : decode cX6_reads 174 = .ok (.isub, 1) := by decide +kernel
theorem dX6_reads_175 : decode cX6_reads 175 = .ok (.goto 7, 3) := by decide +kernel
theorem dX6_reads_178 : decode cX6_reads 178 = .ok (.aload_n 0, 1) := by decide +kernel
theorem dX6_reads_179 : decode cX6_reads 179 = .ok (.getfield 142, 3) := by decide +kernel
theorem dX6_reads_182 : decode cX6_reads 182 = .ok (.putfield 142, 3) := by decide +kernel
theorem dX6_reads_185 : decode cX6_reads 185 = .ok (.aload_n 0, 1) := by decide +kernel
theorem dX6_reads_186 : decode cX6_reads 186 = .ok (.dup, 1) := by decide +kernel
theorem dX6_reads_187 : decode cX6_reads 187 = .ok (.getfield 133, 3) := by decide +kernel
theorem dX6_reads_190 : decode cX6_reads 190 = .ok (.iconst 1, 1) := by decide +kernel
theorem dX6_reads_191 : decode cX6_reads 191 = .ok (.iadd, 1) := by decide +kernel
theorem dX6_reads_192 : decode cX6_reads 192 = .ok (.putfield 133, 3) := by decide +kernel
theorem dX6_reads_195 : decode cX6_reads 195 = .ok (.goto (-74), 3) := by decide +kernel
theorem dX6_reads_198 : decode cX6_reads 198 = .ok (.aload_n 0, 1) := by decide +kernel
theorem dX6_reads_199 : decode cX6_reads 199 = .ok (.aload_n 0, 1) := by decide +kernel
theorem dX6_reads_200 : decode cX6_reads 200 = .ok (.getfield 133, 3) := by decide +kernel
theorem dX6_reads_203 : decode cX6_reads 203 = .ok (.aload_n 0, 1) := by decide +kernel
theorem dX6_reads_204 : decode cX6_reads 204 = .ok (.getfield 136, 3) := by decide +kernel
theorem dX6_reads_207 : decode cX6_reads 207 = .ok (.isub, 1) := by decide +kernel
theorem dX6_reads_208 : decode cX6_reads 208 = .ok (.iconst 4, 1) := by decide +kernel
theorem dX6_reads_209 : decode cX6_reads 209 = .ok (.if_icmp .le 7, 3) := by decide +kernel
theorem dX6_reads_212 : decode cX6_reads 212 = .ok (.iconst 4, 1) := by decide +kernel
theorem dX6_reads_213 : decode cX6_reads 213 = .ok (.goto 4, 3) := by decide +kernel
theorem dX6_reads_216 : decode cX6_reads 216 = .ok (.iconst 2, 1) := by decide +kernel
theorem dX6_reads_217 : decode cX6_reads 217 = .ok (.putfield 153, 3) := by decide +kernel
theorem dX6_reads_220 : decode cX6_reads 220 = .ok (.return_, 1) := by decide +kernel
theorem dX6_bad_0 : decode cX6_bad 0 = .ok (.aload_n 0, 1) := by decide +kernel
theorem dX6_bad_1 : decode cX6_bad 1 = .ok (.getfield 156, 3) := by decide +kernel
theorem dX6_bad_4 : decode cX6_bad 4 = .ok (.ifCond .ne 16, 3) := by decide +kernel
theorem dX6_bad_7 : decode cX6_bad 7 = .ok (.aload_n 0, 1) := by decide +kernel
theorem dX6_bad_8 : decode cX6_bad 8 = .ok (.iload_n 1, 1) := by decide +kernel
theorem dX6_bad_9 : decode cX6_bad 9 = .ok (.putfield 156, 3) := by decide +kernel
theorem dX6_bad_12 : decode cX6_bad 12 = .ok (.aload_n 0, 1) := by decide +kernel
theorem dX6_bad_13 : decode cX6_bad 13 = .ok (.aload_n 0, 1) := by decide +kernel
theorem dX6_bad_14 : decode cX6_bad 14 = .ok (.getfield 136, 3) := by decide +kernel
theorem dX6_bad_17 : decode cX6_bad 17 = .ok (.putfield 159, 3) := by decide +kernel
theorem dX6_bad_20 : decode cX6_bad 20 = .ok (.return_, 1) := by decide +kernel
theorem dX6_goesOn_0 : decode cX6_goesOn 0 = .ok (.aload_n 0, 1) := by decide +kernel
theorem dX6_goesOn_1 : decode cX6_goesOn 1 = .ok (.getfield 156, 3) := by decide +kernel
theorem dX6_goesOn_4 : decode cX6_goesOn 4 = .ok (.ifCond .ne 7, 3) := by decide +kernel
theorem dX6_goesOn_7 : decode cX6_goesOn 7 = .ok (.aload_n 0, 1) := by decide +kernel
theorem dX6_goesOn_8 : decode cX6_goesOn 8 = .ok (.invokevirtual 162, 3) := by decide +kernel
theorem dX6_goesOn_11 : decode cX6_goesOn 11 = .ok (.return_, 1) := by decide +kernel
theorem dX6_isLetter_0 : decode cX6_isLetter 0 = .ok (.aload_n 0, 1) := by decide +kernel
theorem dX6_isLetter_1 : decode cX6_isLetter 1 = .ok (.getfield 156, 3) := by decide +kernel
theorem dX6_isLetter_4 : decode cX6_isLetter 4 = .ok (.ifCond .ne 23, 3) := by decide +kernel
theorem dX6_isLetter_7 : decode cX6_isLetter 7 = .ok (.aload_n 0, 1) := by decide +kernel
theorem dX6_isLetter_8 : decode cX6_isLetter 8 = .ok (.getfield 153, 3) := by decide +kernel
theorem dX6_isLetter_11 : decode cX6_isLetter 11 = .ok (.iconst 1, 1) := by decide +kernel
theorem dX6_isLetter_12 : decode cX6_isLetter 12 = .ok (.if_icmp .ne 15, 3) := by decide +kernel
theorem dX6_isLetter_15 : decode cX6_isLetter 15 = .ok (.aload_n 0, 1) := by decide +kernel
theorem dX6_isLetter_16 : decode cX6_isLetter 16 = .ok (.getfield 142, 3) := by decide +kernel
theorem dX6_isLetter_19 : decode cX6_isLetter 19 = .ok (.iload_n 1, 1) := by decide +kernel
theorem dX6_isLetter_20 : decode cX6_isLetter 20 = .ok (.if_icmp .ne 7, 3) := by decide +kernel
theorem dX6_isLetter_23 : decode cX6_isLetter 23 = .ok (.iconst 1, 1) := by decide +kernel
theorem dX6_isLetter_24 : decode cX6_isLetter 24 = .ok (.goto 4, 3) := by decide +kernel
theorem dX6_isLetter_27 : decode cX6_isLetter 27 = .ok (.iconst 0, 1) := by decide +kernel
theorem dX6_isLetter_28 : decode cX6_isLetter 28 = .ok (.ireturn, 1) := by decide +kernel
theorem dX6_isSign_0 : decode cX6_isSign 0 = .ok (.aload_n 0, 1) := by decide +kernel
theorem dX6_isSign_1 : decode cX6_isSign 1 = .ok (.getfield 153, 3) := by decide +kernel
theorem dX6_isSign_4 : decode cX6_isSign 4 = .ok (.iconst 3, 1) := by decide +kernel
theorem dX6_isSign_5 : decode cX6_isSign 5 = .ok (.if_icmp .ne 15, 3) := by decide +kernel
theorem dX6_isSign_8 : decode cX6_isSign 8 = .ok (.aload_n 0, 1) := by decide +kernel
theorem dX6_isSign_9 : decode cX6_isSign 9 = .ok (.getfield 142, 3) := by decide +kernel
theorem dX6_isSign_12 : decode cX6_isSign 12 = .ok (.iload_n 1, 1) := by decide +kernel
theorem dX6_isSign_13 : decode cX6_isSign 13 = .ok (.if_icmp .ne 7, 3) := by decide +kernel
theorem dX6_isSign_16 : decode cX6_isSign 16 = .ok (.iconst 1, 1) := by decide +kernel
theorem dX6_isSign_17 : decode cX6_isSign 17 = .ok (.goto 4, 3) := by decide +kernel
theorem dX6_isSign_20 : decode cX6_isSign 20 = .ok (.iconst 0, 1) := by decide +kernel
theorem dX6_isSign_21 : decode cX6_isSign 21 = .ok (.ireturn, 1) := by decide +kernel
theorem dX6_sign_0 : decode cX6_sign 0 = .ok (.aload_n 0, 1) := by decide +kernel
theorem dX6_sign_1 : decode cX6_sign 1 = .ok (.iload_n 1, 1) := by decide +kernel
theorem dX6_sign_2 : decode cX6_sign 2 = .ok (.invokevirtual 165, 3) := by decide +kernel
theorem dX6_sign_5 : decode cX6_sign 5 = .ok (.ifCond .ne 8, 3) := by decide +kernel
theorem dX6_sign_8 : decode cX6_sign 8 = .ok (.aload_n 0, 1) := by decide +kernel
theorem dX6_sign_9 : decode cX6_sign 9 = .ok (.iconst 1, 1) := by decide +kernel
theorem dX6_sign_10 : decode cX6_sign 10 = .ok (.invokevirtual 168, 3) := by decide +kernel
theorem dX6_sign_13 : decode cX6_sign 13 = .ok (.aload_n 0, 1) := by decide +kernel
theorem dX6_sign_14 : decode cX6_sign 14 = .ok (.invokevirtual 172, 3) := by decide +kernel
theorem dX6_sign_17 : decode cX6_sign 17 = .ok (.return_, 1) := by decide +kernel
theorem dX6_seen_0 : decode cX6_seen 0 = .ok (.aload_n 0, 1) := by decide +kernel
theorem dX6_seen_1 : decode cX6_seen 1 = .ok (.getfield 153, 3) := by decide +kernel
theorem dX6_seen_4 : decode cX6_seen 4 = .ok (.iconst 2, 1) := by decide +kernel
theorem dX6_seen_5 : decode cX6_seen 5 = .ok (.if_icmp .eq 11, 3) := by decide +kernel
theorem dX6_seen_8 : decode cX6_seen 8 = .ok (.aload_n 0, 1) := by decide +kernel
theorem dX6_seen_9 : decode cX6_seen 9 = .ok (.iconst 1, 1) := by decide +kernel
theorem dX6_seen_10 : decode cX6_seen 10 = .ok (.invokevirtual 168, 3) := by decide +kernel
theorem dX6_seen_13 : decode cX6_seen 13 = .ok (.goto 12, 3) := by decide +kernel
theorem dX6_seen_16 : decode cX6_seen 16 = .ok (.iload_n 1, 1) := by decide +kernel
theorem dX6_seen_17 : decode cX6_seen 17 = .ok (.ifCond .ne 8, 3) := by decide +kernel
theorem dX6_seen_20 : decode cX6_seen 20 = .ok (.aload_n 0, 1) := by decide +kernel
theorem dX6_seen_21 : decode cX6_seen 21 = .ok (.iconst 2, 1) := by decide +kernel
theorem dX6_seen_22 : decode cX6_seen 22 = .ok (.invokevirtual 168, 3) := by decide +kernel
theorem dX6_seen_25 : decode cX6_seen 25 = .ok (.aload_n 0, 1) := by decide +kernel
theorem dX6_seen_26 : decode cX6_seen 26 = .ok (.getfield 156, 3) := by decide +kernel
theorem dX6_seen_29 : decode cX6_seen 29 = .ok (.ifCond .ne 10, 3) := by decide +kernel
theorem dX6_seen_32 : decode cX6_seen 32 = .ok (.aload_n 0, 1) := by decide +kernel
theorem dX6_seen_33 : decode cX6_seen 33 = .ok (.getfield 142, 3) := by decide +kernel
theorem dX6_seen_36 : decode cX6_seen 36 = .ok (.goto 4, 3) := by decide +kernel
theorem dX6_seen_39 : decode cX6_seen 39 = .ok (.iconst 0, 1) := by decide +kernel
theorem dX6_seen_40 : decode cX6_seen 40 = .ok (.istore_n 2, 1) := by decide +kernel
theorem dX6_seen_41 : decode cX6_seen 41 = .ok (.aload_n 0, 1) := by decide +kernel
theorem dX6_seen_42 : decode cX6_seen 42 = .ok (.invokevirtual 172, 3) := by decide +kernel
theorem dX6_seen_45 : decode cX6_seen 45 = .ok (.iload_n 2, 1) := by decide +kernel
theorem dX6_seen_46 : decode cX6_seen 46 = .ok (.ireturn, 1) := by decide +kernel
theorem dX6_number_0 : decode cX6_number 0 = .ok (.aload_n 0, 1) := by decide +kernel
theorem dX6_number_1 : decode cX6_number 1 = .ok (.aload_n 0, 1) := by decide +kernel
theorem dX6_number_2 : decode cX6_number 2 = .ok (.getfield 142, 3) := by decide +kernel
theorem dX6_number_5 : decode cX6_number 5 = .ok (.i2l, 1) := by decide +kernel
theorem dX6_number_6 : decode cX6_number 6 = .ok (.iload_n 1, 1) := by decide +kernel
theorem dX6_number_7 : decode cX6_number 7 = .ok (.i2l, 1) := by decide +kernel
theorem dX6_number_8 : decode cX6_number 8 = .ok (.iload_n 2, 1) := by decide +kernel
theorem dX6_number_9 : decode cX6_number 9 = .ok (.i2l, 1) := by decide +kernel
theorem dX6_number_10 : decode cX6_number 10 = .ok (.invokestatic 41, 3) := by decide +kernel
theorem dX6_number_13 : decode cX6_number 13 = .ok (.invokevirtual 175, 3) := by decide +kernel
theorem dX6_number_16 : decode cX6_number 16 = .ok (.istore 4, 2) := by decide +kernel
theorem dX6_number_18 : decode cX6_number 18 = .ok (.aload_n 0, 1) := by decide +kernel
theorem dX6_number_19 : decode cX6_number 19 = .ok (.iload_n 3, 1) := by decide +kernel
theorem dX6_number_20 : decode cX6_number 20 = .ok (.invokevirtual 179, 3) := by decide +kernel
theorem dX6_number_23 : decode cX6_number 23 = .ok (.iload 4, 2) := by decide +kernel
theorem dX6_number_25 : decode cX6_number 25 = .ok (.ireturn, 1) := by decide +kernel
theorem dX6_highOf_0 : decode cX6_highOf 0 = .ok (.iload_n 0, 1) := by decide +kernel
theorem dX6_highOf_1 : decode cX6_highOf 1 = .ok (.iconst 4, 1) := by decide +kernel
theorem dX6_highOf_2 : decode cX6_highOf 2 = .ok (.if_icmp .ne 8, 3) := by decide +kernel
theorem dX6_highOf_5 : decode cX6_highOf 5 = .ok (.bipush 50, 2) := by decide +kernel
theorem dX6_highOf_7 : decode cX6_highOf 7 = .ok (.goto 15, 3) := by decide +kernel
theorem dX6_highOf_10 : decode cX6_highOf 10 = .ok (.iload_n 0, 1) := by decide +kernel
theorem dX6_highOf_11 : decode cX6_highOf 11 = .ok (.iconst 5, 1) := by decide +kernel
theorem dX6_highOf_12 : decode cX6_highOf 12 = .ok (.if_icmp .ne 8, 3) := by decide +kernel
theorem dX6_highOf_15 : decode cX6_highOf 15 = .ok (.bipush 15, 2) := by decide +kernel
theorem dX6_highOf_17 : decode cX6_highOf 17 = .ok (.goto 5, 3) := by decide +kernel
theorem dX6_highOf_20 : decode cX6_highOf 20 = .ok (.bipush 99, 2) := by decide +kernel
theorem dX6_highOf_22 : decode cX6_highOf 22 = .ok (.ireturn, 1) := by decide +kernel
theorem dX6_readsAct_0 : decode cX6_readsAct 0 = .ok (.aload_n 0, 1) := by decide +kernel
theorem dX6_readsAct_1 : decode cX6_readsAct 1 = .ok (.getfield 13, 3) := by decide +kernel
theorem dX6_readsAct_4 : decode cX6_readsAct 4 = .ok (.iconst 3, 1) := by decide +kernel
theorem dX6_readsAct_5 : decode cX6_readsAct 5 = .ok (.iload_n 1, 1) := by decide +kernel
theorem dX6_readsAct_6 : decode cX6_readsAct 6 = .ok (.iadd, 1) := by decide +kernel
theorem dX6_readsAct_7 : decode cX6_readsAct 7 = .ok (.iaload, 1) := by decide +kernel
theorem dX6_readsAct_8 : decode cX6_readsAct 8 = .ok (.istore_n 2, 1) := by decide +kernel
theorem dX6_readsAct_9 : decode cX6_readsAct 9 = .ok (.iload_n 2, 1) := by decide +kernel
theorem dX6_readsAct_10 : decode cX6_readsAct 10 = .ok (.iconst 4, 1) := by decide +kernel
theorem dX6_readsAct_11 : decode cX6_readsAct 11 = .ok (.if_icmp .ne 8, 3) := by decide +kernel
theorem dX6_readsAct_14 : decode cX6_readsAct 14 = .ok (.aload_n 0, 1) := by decide +kernel
theorem dX6_readsAct_15 : decode cX6_readsAct 15 = .ok (.iconst 3, 1) := by decide +kernel
theorem dX6_readsAct_16 : decode cX6_readsAct 16 = .ok (.invokevirtual 168, 3) := by decide +kernel
theorem dX6_readsAct_19 : decode cX6_readsAct 19 = .ok (.aload_n 0, 1) := by decide +kernel
theorem dX6_readsAct_20 : decode cX6_readsAct 20 = .ok (.invokevirtual 172, 3) := by decide +kernel
theorem dX6_readsAct_23 : decode cX6_readsAct 23 = .ok (.bipush 7, 2) := by decide +kernel
theorem dX6_readsAct_25 : decode cX6_readsAct 25 = .ok (.bipush 24, 2) := by decide +kernel
theorem dX6_readsAct_27 : decode cX6_readsAct 27 = .ok (.iload_n 1, 1) := by decide +kernel
theorem dX6_readsAct_28 : decode cX6_readsAct 28 = .ok (.imul, 1) := by decide +kernel
theorem dX6_readsAct_29 : decode cX6_readsAct 29 = .ok (.iadd, 1) := by decide +kernel
theorem dX6_readsAct_30 : decode cX6_readsAct 30 = .ok (.bipush 6, 2) := by decide +kernel
theorem dX6_readsAct_32 : decode cX6_readsAct 32 = .ok (.iload_n 2, 1) := by decide +kernel
theorem dX6_readsAct_33 : decode cX6_readsAct 33 = .ok (.imul, 1) := by decide +kernel
theorem dX6_readsAct_34 : decode cX6_readsAct 34 = .ok (.iadd, 1) := by decide +kernel
theorem dX6_readsAct_35 : decode cX6_readsAct 35 = .ok (.istore_n 3, 1) := by decide +kernel
theorem dX6_readsAct_36 : decode cX6_readsAct 36 = .ok (.iload_n 2, 1) := by decide +kernel
theorem dX6_readsAct_37 : decode cX6_readsAct 37 = .ok (.ifCond .ne 9, 3) := by decide +kernel
theorem dX6_readsAct_40 : decode cX6_readsAct 40 = .ok (.sipush 1700, 3) := by decide +kernel
theorem dX6_readsAct_43 : decode cX6_readsAct 43 = .ok (.goto 14, 3) := by decide +kernel
theorem dX6_readsAct_46 : decode cX6_readsAct 46 = .ok (.aload_n 0, 1) := by decide +kernel
theorem dX6_readsAct_47 : decode cX6_readsAct 47 = .ok (.getfield 13, 3) := by decide +kernel
theorem dX6_readsAct_50 : decode cX6_readsAct 50 = .ok (.iload_n 3, 1) := by decide +kernel
theorem dX6_readsAct_51 : decode cX6_readsAct 51 = .ok (.bipush 6, 2) := by decide +kernel
theorem dX6_readsAct_53 : decode cX6_readsAct 53 = .ok (.isub, 1) := by decide +kernel
theorem dX6_readsAct_54 : decode cX6_readsAct 54 = .ok (.iaload, 1) := by decide +kernel
theorem dX6_readsAct_55 : decode cX6_readsAct 55 = .ok (.iconst 1, 1) := by decide +kernel
theorem dX6_readsAct_56 : decode cX6_readsAct 56 = .ok (.iadd, 1) := by decide +kernel
theorem dX6_readsAct_57 : decode cX6_readsAct 57 = .ok (.istore 4, 2) := by decide +kernel
theorem dX6_readsAct_59 : decode cX6_readsAct 59 = .ok (.aload_n 0, 1) := by decide +kernel
theorem dX6_readsAct_60 : decode cX6_readsAct 60 = .ok (.iload 4, 2) := by decide +kernel
theorem dX6_readsAct_62 : decode cX6_readsAct 62 = .ok (.sipush 2099, 3) := by decide +kernel
theorem dX6_readsAct_65 : decode cX6_readsAct 65 = .ok (.bipush 44, 2) := by decide +kernel
theorem dX6_readsAct_67 : decode cX6_readsAct 67 = .ok (.invokevirtual 182, 3) := by decide +kernel
theorem dX6_readsAct_70 : decode cX6_readsAct 70 = .ok (.istore 5, 2) := by decide +kernel
theorem dX6_readsAct_72 : decode cX6_readsAct 72 = .ok (.aload_n 0, 1) := by decide +kernel
theorem dX6_readsAct_73 : decode cX6_readsAct 73 = .ok (.getfield 156, 3) := by decide +kernel
theorem dX6_readsAct_76 : decode cX6_readsAct 76 = .ok (.ifCond .le 4, 3) := by decide +kernel
theorem dX6_readsAct_79 : decode cX6_readsAct 79 = .ok (.return_, 1) := by decide +kernel
theorem dX6_readsAct_80 : decode cX6_readsAct 80 = .ok (.aload_n 0, 1) := by decide +kernel
theorem dX6_readsAct_81 : decode cX6_readsAct 81 = .ok (.getfield 13, 3) := by decide +kernel
theorem dX6_readsAct_84 : decode cX6_readsAct 84 = .ok (.iload_n 3, 1) := by decide +kernel
theorem dX6_readsAct_85 : decode cX6_readsAct 85 = .ok (.iload 5, 2) := by decide +kernel
theorem dX6_readsAct_87 : decode cX6_readsAct 87 = .ok (.iastore, 1) := by decide +kernel
theorem dX6_readsAct_88 : decode cX6_readsAct 88 = .ok (.iconst 1, 1) := by decide +kernel
theorem dX6_readsAct_89 : decode cX6_readsAct 89 = .ok (.istore 6, 2) := by decide +kernel
theorem dX6_readsAct_91 : decode cX6_readsAct 91 = .ok (.iload 6, 2) := by decide +kernel
theorem dX6_readsAct_93 : decode cX6_readsAct 93 = .ok (.iconst 5, 1) := by decide +kernel
theorem dX6_readsAct_94 : decode cX6_readsAct 94 = .ok (.if_icmp .gt 41, 3) := by decide +kernel
theorem dX6_readsAct_97 : decode cX6_readsAct 97 = .ok (.aload_n 0, 1) := by decide +kernel
theorem dX6_readsAct_98 : decode cX6_readsAct 98 = .ok (.getfield 13, 3) := by decide +kernel
theorem dX6_readsAct_101 : decode cX6_readsAct 101 = .ok (.iload_n 3, 1) := by decide +kernel
theorem dX6_readsAct_102 : decode cX6_readsAct 102 = .ok (.iload 6, 2) := by decide +kernel
theorem dX6_readsAct_104 : decode cX6_readsAct 104 = .ok (.iadd, 1) := by decide +kernel
theorem dX6_readsAct_105 : decode cX6_readsAct 105 = .ok (.aload_n 0, 1) := by decide +kernel
theorem dX6_readsAct_106 : decode cX6_readsAct 106 = .ok (.iconst 0, 1) := by decide +kernel
theorem dX6_readsAct_107 : decode cX6_readsAct 107 = .ok (.iload 6, 2) := by decide +kernel
theorem dX6_readsAct_109 : decode cX6_readsAct 109 = .ok (.invokestatic 185, 3) := by decide +kernel
theorem dX6_readsAct_112 : decode cX6_readsAct 112 = .ok (.iload 6, 2) := by decide +kernel
theorem dX6_readsAct_114 : decode cX6_readsAct 114 = .ok (.iconst 5, 1) := by decide +kernel
theorem dX6_readsAct_115 : decode cX6_readsAct 115 = .ok (.if_icmp .ne 8, 3) := by decide +kernel
theorem dX6_readsAct_118 : decode cX6_readsAct 118 = .ok (.bipush 59, 2) := by decide +kernel
theorem dX6_readsAct_120 : decode cX6_readsAct 120 = .ok (.goto 5, 3) := by decide +kernel
theorem dX6_readsAct_123 : decode cX6_readsAct 123 = .ok (.bipush 44, 2) := by decide +kernel
theorem dX6_readsAct_125 : decode cX6_readsAct 125 = .ok (.invokevirtual 182, 3) := by decide +kernel
theorem dX6_readsAct_128 : decode cX6_readsAct 128 = .ok (.iastore, 1) := by decide +kernel
theorem dX6_readsAct_129 : decode cX6_readsAct 129 = .ok (.iinc 6 1, 3) := by decide +kernel
theorem dX6_readsAct_132 : decode cX6_readsAct 132 = .ok (.goto (-41), 3) := by decide +kernel
theorem dX6_readsAct_135 : decode cX6_readsAct 135 = .ok (.aload_n 0, 1) := by decide +kernel
theorem dX6_readsAct_136 : decode cX6_readsAct 136 = .ok (.getfield 13, 3) := by decide +kernel
theorem dX6_readsAct_139 : decode cX6_readsAct 139 = .ok (.iconst 3, 1) := by decide +kernel
theorem dX6_readsAct_140 : decode cX6_readsAct 140 = .ok (.iload_n 1, 1) := by decide +kernel
theorem dX6_readsAct_141 : decode cX6_readsAct 141 = .ok (.iadd, 1) := by decide +kernel
theorem dX6_readsAct_142 : decode cX6_readsAct 142 = .ok (.dup2, 1) := by decide +kernel
theorem dX6_readsAct_143 : decode cX6_readsAct 143 = .ok (.iaload, 1) := by decide +kernel
theorem dX6_readsAct_144 : decode cX6_readsAct 144 = .ok (.iconst 1, 1) := by decide +kernel
theorem dX6_readsAct_145 : decode cX6_readsAct 145 = .ok (.iadd, 1) := by decide +kernel
theorem dX6_readsAct_146 : decode cX6_readsAct 146 = .ok (.iastore, 1) := by decide +kernel
theorem dX6_readsAct_147 : decode cX6_readsAct 147 = .ok (.return_, 1) := by decide +kernel
theorem dX6_readsLand_0 : decode cX6_readsLand 0 = .ok (.aload_n 0, 1) := by decide +kernel
theorem dX6_readsLand_1 : decode cX6_readsLand 1 = .ok (.getfield 13, 3) := by decide +kernel
theorem dX6_readsLand_4 : decode cX6_readsLand 4 = .ok (.iconst 0, 1) := by decide +kernel
theorem dX6_readsLand_5 : decode cX6_readsLand 5 = .ok (.iaload, 1) := by decide +kernel
theorem dX6_readsLand_6 : decode cX6_readsLand 6 = .ok (.istore_n 1, 1) := by decide +kernel
theorem dX6_readsLand_7 : decode cX6_readsLand 7 = .ok (.iload_n 1, 1) := by decide +kernel
theorem dX6_readsLand_8 : decode cX6_readsLand 8 = .ok (.iconst 4, 1) := by decide +kernel
theorem dX6_readsLand_9 : decode cX6_readsLand 9 = .ok (.if_icmp .ne 8, 3) := by decide +kernel
theorem dX6_readsLand_12 : decode cX6_readsLand 12 = .ok (.aload_n 0, 1) := by decide +kernel
theorem dX6_readsLand_13 : decode cX6_readsLand 13 = .ok (.iconst 3, 1) := by decide +kernel
theorem dX6_readsLand_14 : decode cX6_readsLand 14 = .ok (.invokevirtual 168, 3) := by decide +kernel
theorem dX6_readsLand_17 : decode cX6_readsLand 17 = .ok (.aload_n 0, 1) := by decide +kernel
theorem dX6_readsLand_18 : decode cX6_readsLand 18 = .ok (.invokevirtual 172, 3) := by decide +kernel
theorem dX6_readsLand_21 : decode cX6_readsLand 21 = .ok (.aload_n 0, 1) := by decide +kernel
theorem dX6_readsLand_22 : decode cX6_readsLand 22 = .ok (.getfield 156, 3) := by decide +kernel
theorem dX6_readsLand_25 : decode cX6_readsLand 25 = .ok (.ifCond .le 4, 3) := by decide +kernel
theorem dX6_readsLand_28 : decode cX6_readsLand 28 = .ok (.return_, 1) := by decide +kernel
theorem dX6_readsLand_29 : decode cX6_readsLand 29 = .ok (.aload_n 0, 1) := by decide +kernel
theorem dX6_readsLand_30 : decode cX6_readsLand 30 = .ok (.bipush 121, 2) := by decide +kernel
theorem dX6_readsLand_32 : decode cX6_readsLand 32 = .ok (.invokevirtual 188, 3) := by decide +kernel
theorem dX6_readsLand_35 : decode cX6_readsLand 35 = .ok (.ifCond .ne 8, 3) := by decide +kernel
theorem dX6_readsLand_38 : decode cX6_readsLand 38 = .ok (.aload_n 0, 1) := by decide +kernel
theorem dX6_readsLand_39 : decode cX6_readsLand 39 = .ok (.iconst 1, 1) := by decide +kernel
theorem dX6_readsLand_40 : decode cX6_readsLand 40 = .ok (.invokevirtual 168, 3) := by decide +kernel
theorem dX6_readsLand_43 : decode cX6_readsLand 43 = .ok (.aload_n 0, 1) := by decide +kernel
theorem dX6_readsLand_44 : decode cX6_readsLand 44 = .ok (.bipush 121, 2) := by decide +kernel
theorem dX6_readsLand_46 : decode cX6_readsLand 46 = .ok (.invokevirtual 188, 3) := by decide +kernel
theorem dX6_readsLand_49 : decode cX6_readsLand 49 = .ok (.ifCond .eq 11, 3) := by decide +kernel
theorem dX6_readsLand_52 : decode cX6_readsLand 52 = .ok (.aload_n 0, 1) := by decide +kernel
theorem dX6_readsLand_53 : decode cX6_readsLand 53 = .ok (.iload_n 1, 1) := by decide +kernel
theorem dX6_readsLand_54 : decode cX6_readsLand 54 = .ok (.invokevirtual 191, 3) := by decide +kernel
theorem dX6_readsLand_57 : decode cX6_readsLand 57 = .ok (.goto (-14), 3) := by decide +kernel
theorem dX6_readsLand_60 : decode cX6_readsLand 60 = .ok (.aload_n 0, 1) := by decide +kernel
theorem dX6_readsLand_61 : decode cX6_readsLand 61 = .ok (.getfield 13, 3) := by decide +kernel
theorem dX6_readsLand_64 : decode cX6_readsLand 64 = .ok (.iconst 0, 1) := by decide +kernel
theorem dX6_readsLand_65 : decode cX6_readsLand 65 = .ok (.dup2, 1) := by decide +kernel
theorem dX6_readsLand_66 : decode cX6_readsLand 66 = .ok (.iaload, 1) := by decide +kernel
theorem dX6_readsLand_67 : decode cX6_readsLand 67 = .ok (.iconst 1, 1) := by decide +kernel
theorem dX6_readsLand_68 : decode cX6_readsLand 68 = .ok (.iadd, 1) := by decide +kernel
theorem dX6_readsLand_69 : decode cX6_readsLand 69 = .ok (.iastore, 1) := by decide +kernel
theorem dX6_readsLand_70 : decode cX6_readsLand 70 = .ok (.return_, 1) := by decide +kernel
theorem dX6_readsAuthor_0 : decode cX6_readsAuthor 0 = .ok (.aload_n 0, 1) := by decide +kernel
theorem dX6_readsAuthor_1 : decode cX6_readsAuthor 1 = .ok (.getfield 13, 3) := by decide +kernel
theorem dX6_readsAuthor_4 : decode cX6_readsAuthor 4 = .ok (.iconst 1, 1) := by decide +kernel
theorem dX6_readsAuthor_5 : decode cX6_readsAuthor 5 = .ok (.iaload, 1) := by decide +kernel
theorem dX6_readsAuthor_6 : decode cX6_readsAuthor 6 = .ok (.istore_n 1, 1) := by decide +kernel
theorem dX6_readsAuthor_7 : decode cX6_readsAuthor 7 = .ok (.iload_n 1, 1) := by decide +kernel
theorem dX6_readsAuthor_8 : decode cX6_readsAuthor 8 = .ok (.bipush 8, 2) := by decide +kernel
theorem dX6_readsAuthor_10 : decode cX6_readsAuthor 10 = .ok (.if_icmp .ne 8, 3) := by decide +kernel
theorem dX6_readsAuthor_13 : decode cX6_readsAuthor 13 = .ok (.aload_n 0, 1) := by decide +kernel
theorem dX6_readsAuthor_14 : decode cX6_readsAuthor 14 = .ok (.iconst 3, 1) := by decide +kernel
theorem dX6_readsAuthor_15 : decode cX6_readsAuthor 15 = .ok (.invokevirtual 168, 3) := by decide +kernel
theorem dX6_readsAuthor_18 : decode cX6_readsAuthor 18 = .ok (.aload_n 0, 1) := by decide +kernel
theorem dX6_readsAuthor_19 : decode cX6_readsAuthor 19 = .ok (.invokevirtual 172, 3) := by decide +kernel
theorem dX6_readsAuthor_22 : decode cX6_readsAuthor 22 = .ok (.aload_n 0, 1) := by decide +kernel
theorem dX6_readsAuthor_23 : decode cX6_readsAuthor 23 = .ok (.getfield 156, 3) := by decide +kernel
theorem dX6_readsAuthor_26 : decode cX6_readsAuthor 26 = .ok (.ifCond .le 4, 3) := by decide +kernel
theorem dX6_readsAuthor_29 : decode cX6_readsAuthor 29 = .ok (.return_, 1) := by decide +kernel
theorem dX6_readsAuthor_30 : decode cX6_readsAuthor 30 = .ok (.aload_n 0, 1) := by decide +kernel
theorem dX6_readsAuthor_31 : decode cX6_readsAuthor 31 = .ok (.bipush 59, 2) := by decide +kernel
theorem dX6_readsAuthor_33 : decode cX6_readsAuthor 33 = .ok (.invokevirtual 165, 3) := by decide +kernel
theorem dX6_readsAuthor_36 : decode cX6_readsAuthor 36 = .ok (.ifCond .eq 10, 3) := by decide +kernel
theorem dX6_readsAuthor_39 : decode cX6_readsAuthor 39 = .ok (.aload_n 0, 1) := by decide +kernel
theorem dX6_readsAuthor_40 : decode cX6_readsAuthor 40 = .ok (.invokevirtual 172, 3) := by decide +kernel
theorem dX6_readsAuthor_43 : decode cX6_readsAuthor 43 = .ok (.goto 51, 3) := by decide +kernel
theorem dX6_readsAuthor_46 : decode cX6_readsAuthor 46 = .ok (.aload_n 0, 1) := by decide +kernel
theorem dX6_readsAuthor_47 : decode cX6_readsAuthor 47 = .ok (.sipush 1500, 3) := by decide +kernel
theorem dX6_readsAuthor_50 : decode cX6_readsAuthor 50 = .ok (.sipush 2099, 3) := by decide +kernel
theorem dX6_readsAuthor_53 : decode cX6_readsAuthor 53 = .ok (.bipush 44, 2) := by decide +kernel
theorem dX6_readsAuthor_55 : decode cX6_readsAuthor 55 = .ok (.invokevirtual 182, 3) := by decide +kernel
theorem dX6_readsAuthor_58 : decode cX6_readsAuthor 58 = .ok (.istore_n 2, 1) := by decide +kernel
theorem dX6_readsAuthor_59 : decode cX6_readsAuthor 59 = .ok (.aload_n 0, 1) := by decide +kernel
theorem dX6_readsAuthor_60 : decode cX6_readsAuthor 60 = .ok (.getfield 13, 3) := by decide +kernel
theorem dX6_readsAuthor_63 : decode cX6_readsAuthor 63 = .ok (.bipush 103, 2) := by decide +kernel
theorem dX6_readsAuthor_65 : decode cX6_readsAuthor 65 = .ok (.iconst 2, 1) := by decide +kernel
theorem dX6_readsAuthor_66 : decode cX6_readsAuthor 66 = .ok (.iload_n 1, 1) := by decide +kernel
theorem dX6_readsAuthor_67 : decode cX6_readsAuthor 67 = .ok (.imul, 1) := by decide +kernel
theorem dX6_readsAuthor_68 : decode cX6_readsAuthor 68 = .ok (.iadd, 1) := by decide +kernel
theorem dX6_readsAuthor_69 : decode cX6_readsAuthor 69 = .ok (.iload_n 2, 1) := by decide +kernel
theorem dX6_readsAuthor_70 : decode cX6_readsAuthor 70 = .ok (.iastore, 1) := by decide +kernel
theorem dX6_readsAuthor_71 : decode cX6_readsAuthor 71 = .ok (.aload_n 0, 1) := by decide +kernel
theorem dX6_readsAuthor_72 : decode cX6_readsAuthor 72 = .ok (.getfield 13, 3) := by decide +kernel
theorem dX6_readsAuthor_75 : decode cX6_readsAuthor 75 = .ok (.bipush 103, 2) := by decide +kernel
theorem dX6_readsAuthor_77 : decode cX6_readsAuthor 77 = .ok (.iconst 2, 1) := by decide +kernel
theorem dX6_readsAuthor_78 : decode cX6_readsAuthor 78 = .ok (.iload_n 1, 1) := by decide +kernel
theorem dX6_readsAuthor_79 : decode cX6_readsAuthor 79 = .ok (.imul, 1) := by decide +kernel
theorem dX6_readsAuthor_80 : decode cX6_readsAuthor 80 = .ok (.iadd, 1) := by decide +kernel
theorem dX6_readsAuthor_81 : decode cX6_readsAuthor 81 = .ok (.iconst 1, 1) := by decide +kernel
theorem dX6_readsAuthor_82 : decode cX6_readsAuthor 82 = .ok (.iadd, 1) := by decide +kernel
theorem dX6_readsAuthor_83 : decode cX6_readsAuthor 83 = .ok (.aload_n 0, 1) := by decide +kernel
theorem dX6_readsAuthor_84 : decode cX6_readsAuthor 84 = .ok (.iload_n 2, 1) := by decide +kernel
theorem dX6_readsAuthor_85 : decode cX6_readsAuthor 85 = .ok (.sipush 2099, 3) := by decide +kernel
theorem dX6_readsAuthor_88 : decode cX6_readsAuthor 88 = .ok (.bipush 59, 2) := by decide +kernel
theorem dX6_readsAuthor_90 : decode cX6_readsAuthor 90 = .ok (.invokevirtual 182, 3) := by decide +kernel
theorem dX6_readsAuthor_93 : decode cX6_readsAuthor 93 = .ok (.iastore, 1) := by decide +kernel
theorem dX6_readsAuthor_94 : decode cX6_readsAuthor 94 = .ok (.aload_n 0, 1) := by decide +kernel
theorem dX6_readsAuthor_95 : decode cX6_readsAuthor 95 = .ok (.getfield 13, 3) := by decide +kernel
theorem dX6_readsAuthor_98 : decode cX6_readsAuthor 98 = .ok (.iconst 1, 1) := by decide +kernel
theorem dX6_readsAuthor_99 : decode cX6_readsAuthor 99 = .ok (.dup2, 1) := by decide +kernel
theorem dX6_readsAuthor_100 : decode cX6_readsAuthor 100 = .ok (.iaload, 1) := by decide +kernel
theorem dX6_readsAuthor_101 : decode cX6_readsAuthor 101 = .ok (.iconst 1, 1) := by decide +kernel
theorem dX6_readsAuthor_102 : decode cX6_readsAuthor 102 = .ok (.iadd, 1) := by decide +kernel
theorem dX6_readsAuthor_103 : decode cX6_readsAuthor 103 = .ok (.iastore, 1) := by decide +kernel
theorem dX6_readsAuthor_104 : decode cX6_readsAuthor 104 = .ok (.return_, 1) := by decide +kernel
theorem dX6_sort_0 : decode cX6_sort 0 = .ok (.aload_n 0, 1) := by decide +kernel
theorem dX6_sort_1 : decode cX6_sort 1 = .ok (.bipush 98, 2) := by decide +kernel
theorem dX6_sort_3 : decode cX6_sort 3 = .ok (.invokevirtual 188, 3) := by decide +kernel
theorem dX6_sort_6 : decode cX6_sort 6 = .ok (.ifCond .eq 7, 3) := by decide +kernel
theorem dX6_sort_9 : decode cX6_sort 9 = .ok (.iconst 1, 1) := by decide +kernel
theorem dX6_sort_10 : decode cX6_sort 10 = .ok (.goto 57, 3) := by decide +kernel
theorem dX6_sort_13 : decode cX6_sort 13 = .ok (.aload_n 0, 1) := by decide +kernel
theorem dX6_sort_14 : decode cX6_sort 14 = .ok (.bipush 115, 2) := by decide +kernel
theorem dX6_sort_16 : decode cX6_sort 16 = .ok (.invokevirtual 188, 3) := by decide +kernel
theorem dX6_sort_19 : decode cX6_sort 19 = .ok (.ifCond .eq 7, 3) := by decide +kernel
theorem dX6_sort_22 : decode cX6_sort 22 = .ok (.iconst 2, 1) := by decide +kernel
theorem dX6_sort_23 : decode cX6_sort 23 = .ok (.goto 44, 3) := by decide +kernel
theorem dX6_sort_26 : decode cX6_sort 26 = .ok (.aload_n 0, 1) := by decide +kernel
theorem dX6_sort_27 : decode cX6_sort 27 = .ok (.bipush 112, 2) := by decide +kernel
theorem dX6_sort_29 : decode cX6_sort 29 = .ok (.invokevirtual 188, 3) := by decide +kernel
theorem dX6_sort_32 : decode cX6_sort 32 = .ok (.ifCond .eq 7, 3) := by decide +kernel
theorem dX6_sort_35 : decode cX6_sort 35 = .ok (.iconst 3, 1) := by decide +kernel
theorem dX6_sort_36 : decode cX6_sort 36 = .ok (.goto 31, 3) := by decide +kernel
theorem dX6_sort_39 : decode cX6_sort 39 = .ok (.aload_n 0, 1) := by decide +kernel
theorem dX6_sort_40 : decode cX6_sort 40 = .ok (.bipush 102, 2) := by decide +kernel
theorem dX6_sort_42 : decode cX6_sort 42 = .ok (.invokevirtual 188, 3) := by decide +kernel
theorem dX6_sort_45 : decode cX6_sort 45 = .ok (.ifCond .eq 7, 3) := by decide +kernel
theorem dX6_sort_48 : decode cX6_sort 48 = .ok (.iconst 4, 1) := by decide +kernel
theorem dX6_sort_49 : decode cX6_sort 49 = .ok (.goto 18, 3) := by decide +kernel
theorem dX6_sort_52 : decode cX6_sort 52 = .ok (.aload_n 0, 1) := by decide +kernel
theorem dX6_sort_53 : decode cX6_sort 53 = .ok (.bipush 110, 2) := by decide +kernel
theorem dX6_sort_55 : decode cX6_sort 55 = .ok (.invokevirtual 188, 3) := by decide +kernel
theorem dX6_sort_58 : decode cX6_sort 58 = .ok (.ifCond .eq 7, 3) := by decide +kernel
theorem dX6_sort_61 : decode cX6_sort 61 = .ok (.iconst 5, 1) := by decide +kernel
theorem dX6_sort_62 : decode cX6_sort 62 = .ok (.goto 5, 3) := by decide +kernel
theorem dX6_sort_65 : decode cX6_sort 65 = .ok (.ldc 103, 2) := by decide +kernel
theorem dX6_sort_67 : decode cX6_sort 67 = .ok (.ireturn, 1) := by decide +kernel
theorem dX6_isBy_0 : decode cX6_isBy 0 = .ok (.iload_n 1, 1) := by decide +kernel
theorem dX6_isBy_1 : decode cX6_isBy 1 = .ok (.i2l, 1) := by decide +kernel
theorem dX6_isBy_2 : decode cX6_isBy 2 = .ok (.lconst 0, 1) := by decide +kernel
theorem dX6_isBy_3 : decode cX6_isBy 3 = .ok (.iconst 1, 1) := by decide +kernel
theorem dX6_isBy_4 : decode cX6_isBy 4 = .ok (.iload_n 2, 1) := by decide +kernel
theorem dX6_isBy_5 : decode cX6_isBy 5 = .ok (.ishl, 1) := by decide +kernel
theorem dX6_isBy_6 : decode cX6_isBy 6 = .ok (.iconst 1, 1) := by decide +kernel
theorem dX6_isBy_7 : decode cX6_isBy 7 = .ok (.isub, 1) := by decide +kernel
theorem dX6_isBy_8 : decode cX6_isBy 8 = .ok (.i2l, 1) := by decide +kernel
theorem dX6_isBy_9 : decode cX6_isBy 9 = .ok (.invokestatic 41, 3) := by decide +kernel
theorem dX6_isBy_12 : decode cX6_isBy 12 = .ok (.ifCond .eq 21, 3) := by decide +kernel
theorem dX6_isBy_15 : decode cX6_isBy 15 = .ok (.iload_n 1, 1) := by decide +kernel
theorem dX6_isBy_16 : decode cX6_isBy 16 = .ok (.ifCond .gt 13, 3) := by decide +kernel
theorem dX6_isBy_19 : decode cX6_isBy 19 = .ok (.iload_n 0, 1) := by decide +kernel
theorem dX6_isBy_20 : decode cX6_isBy 20 = .ok (.iconst 3, 1) := by decide +kernel
theorem dX6_isBy_21 : decode cX6_isBy 21 = .ok (.if_icmp .eq 8, 3) := by decide +kernel
theorem dX6_isBy_24 : decode cX6_isBy 24 = .ok (.iload_n 0, 1) := by decide +kernel
theorem dX6_isBy_25 : decode cX6_isBy 25 = .ok (.iconst 5, 1) := by decide +kernel
theorem dX6_isBy_26 : decode cX6_isBy 26 = .ok (.if_icmp .ne 7, 3) := by decide +kernel
theorem dX6_isBy_29 : decode cX6_isBy 29 = .ok (.iconst 1, 1) := by decide +kernel
theorem dX6_isBy_30 : decode cX6_isBy 30 = .ok (.goto 4, 3) := by decide +kernel
theorem dX6_isBy_33 : decode cX6_isBy 33 = .ok (.iconst 0, 1) := by decide +kernel
theorem dX6_isBy_34 : decode cX6_isBy 34 = .ok (.ireturn, 1) := by decide +kernel
theorem dX6_isPublished_0 : decode cX6_isPublished 0 = .ok (.iload_n 1, 1) := by decide +kernel
theorem dX6_isPublished_1 : decode cX6_isPublished 1 = .ok (.ifCond .eq 16, 3) := by decide +kernel
theorem dX6_isPublished_4 : decode cX6_isPublished 4 = .ok (.iload_n 1, 1) := by decide +kernel
theorem dX6_isPublished_5 : decode cX6_isPublished 5 = .ok (.i2l, 1) := by decide +kernel
theorem dX6_isPublished_6 : decode cX6_isPublished 6 = .ok (.iload_n 0, 1) := by decide +kernel
theorem dX6_isPublished_7 : decode cX6_isPublished 7 = .ok (.i2l, 1) := by decide +kernel
theorem dX6_isPublished_8 : decode cX6_isPublished 8 = .ok (.ldc2_w 194, 3) := by decide +kernel
theorem dX6_isPublished_11 : decode cX6_isPublished 11 = .ok (.invokestatic 41, 3) := by decide +kernel
theorem dX6_isPublished_14 : decode cX6_isPublished 14 = .ok (.ifCond .eq 7, 3) := by decide +kernel
theorem dX6_isPublished_17 : decode cX6_isPublished 17 = .ok (.iconst 1, 1) := by decide +kernel
theorem dX6_isPublished_18 : decode cX6_isPublished 18 = .ok (.goto 4, 3) := by decide +kernel
theorem dX6_isPublished_21 : decode cX6_isPublished 21 = .ok (.iconst 0, 1) := by decide +kernel
theorem dX6_isPublished_22 : decode cX6_isPublished 22 = .ok (.ireturn, 1) := by decide +kernel
theorem dX6_readsWork_0 : decode cX6_readsWork 0 = .ok (.aload_n 0, 1) := by decide +kernel
theorem dX6_readsWork_1 : decode cX6_readsWork 1 = .ok (.invokevirtual 196, 3) := by decide +kernel
theorem dX6_readsWork_4 : decode cX6_readsWork 4 = .ok (.istore_n 1, 1) := by decide +kernel
theorem dX6_readsWork_5 : decode cX6_readsWork 5 = .ok (.aload_n 0, 1) := by decide +kernel
theorem dX6_readsWork_6 : decode cX6_readsWork 6 = .ok (.getfield 13, 3) := by decide +kernel
theorem dX6_readsWork_9 : decode cX6_readsWork 9 = .ok (.iconst 2, 1) := by decide +kernel
theorem dX6_readsWork_10 : decode cX6_readsWork 10 = .ok (.iaload, 1) := by decide +kernel
theorem dX6_readsWork_11 : decode cX6_readsWork 11 = .ok (.istore_n 2, 1) := by decide +kernel
theorem dX6_readsWork_12 : decode cX6_readsWork 12 = .ok (.iload_n 2, 1) := by decide +kernel
theorem dX6_readsWork_13 : decode cX6_readsWork 13 = .ok (.bipush 6, 2) := by decide +kernel
theorem dX6_readsWork_15 : decode cX6_readsWork 15 = .ok (.if_icmp .ne 8, 3) := by decide +kernel
theorem dX6_readsWork_18 : decode cX6_readsWork 18 = .ok (.aload_n 0, 1) := by decide +kernel
theorem dX6_readsWork_19 : decode cX6_readsWork 19 = .ok (.iconst 3, 1) := by decide +kernel
theorem dX6_readsWork_20 : decode cX6_readsWork 20 = .ok (.invokevirtual 168, 3) := by decide +kernel
theorem dX6_readsWork_23 : decode cX6_readsWork 23 = .ok (.aload_n 0, 1) := by decide +kernel
theorem dX6_readsWork_24 : decode cX6_readsWork 24 = .ok (.invokevirtual 172, 3) := by decide +kernel
theorem dX6_readsWork_27 : decode cX6_readsWork 27 = .ok (.aload_n 0, 1) := by decide +kernel
theorem dX6_readsWork_28 : decode cX6_readsWork 28 = .ok (.iconst 0, 1) := by decide +kernel
theorem dX6_readsWork_29 : decode cX6_readsWork 29 = .ok (.aload_n 0, 1) := by decide +kernel
theorem dX6_readsWork_30 : decode cX6_readsWork 30 = .ok (.getfield 13, 3) := by decide +kernel
theorem dX6_readsWork_33 : decode cX6_readsWork 33 = .ok (.iconst 0, 1) := by decide +kernel
theorem dX6_readsWork_34 : decode cX6_readsWork 34 = .ok (.iaload, 1) := by decide +kernel
theorem dX6_readsWork_35 : decode cX6_readsWork 35 = .ok (.iconst 1, 1) := by decide +kernel
theorem dX6_readsWork_36 : decode cX6_readsWork 36 = .ok (.isub, 1) := by decide +kernel
theorem dX6_readsWork_37 : decode cX6_readsWork 37 = .ok (.bipush 44, 2) := by decide +kernel
theorem dX6_readsWork_39 : decode cX6_readsWork 39 = .ok (.invokevirtual 182, 3) := by decide +kernel
theorem dX6_readsWork_42 : decode cX6_readsWork 42 = .ok (.istore_n 3, 1) := by decide +kernel
theorem dX6_readsWork_43 : decode cX6_readsWork 43 = .ok (.aload_n 0, 1) := by decide +kernel
theorem dX6_readsWork_44 : decode cX6_readsWork 44 = .ok (.sipush 1500, 3) := by decide +kernel
theorem dX6_readsWork_47 : decode cX6_readsWork 47 = .ok (.sipush 2099, 3) := by decide +kernel
theorem dX6_readsWork_50 : decode cX6_readsWork 50 = .ok (.bipush 44, 2) := by decide +kernel
theorem dX6_readsWork_52 : decode cX6_readsWork 52 = .ok (.invokevirtual 182, 3) := by decide +kernel
theorem dX6_readsWork_55 : decode cX6_readsWork 55 = .ok (.istore 4, 2) := by decide +kernel
theorem dX6_readsWork_57 : decode cX6_readsWork 57 = .ok (.aload_n 0, 1) := by decide +kernel
theorem dX6_readsWork_58 : decode cX6_readsWork 58 = .ok (.iload 4, 2) := by decide +kernel
theorem dX6_readsWork_60 : decode cX6_readsWork 60 = .ok (.aload_n 0, 1) := by decide +kernel
theorem dX6_readsWork_61 : decode cX6_readsWork 61 = .ok (.getfield 142, 3) := by decide +kernel
theorem dX6_readsWork_64 : decode cX6_readsWork 64 = .ok (.invokestatic 199, 3) := by decide +kernel
theorem dX6_readsWork_67 : decode cX6_readsWork 67 = .ok (.invokevirtual 175, 3) := by decide +kernel
theorem dX6_readsWork_70 : decode cX6_readsWork 70 = .ok (.istore 5, 2) := by decide +kernel
theorem dX6_readsWork_72 : decode cX6_readsWork 72 = .ok (.aload_n 0, 1) := by decide +kernel
theorem dX6_readsWork_73 : decode cX6_readsWork 73 = .ok (.bipush 44, 2) := by decide +kernel
theorem dX6_readsWork_75 : decode cX6_readsWork 75 = .ok (.invokevirtual 179, 3) := by decide +kernel
theorem dX6_readsWork_78 : decode cX6_readsWork 78 = .ok (.aload_n 0, 1) := by decide +kernel
theorem dX6_readsWork_79 : decode cX6_readsWork 79 = .ok (.iload_n 1, 1) := by decide +kernel
theorem dX6_readsWork_80 : decode cX6_readsWork 80 = .ok (.aload_n 0, 1) := by decide +kernel
theorem dX6_readsWork_81 : decode cX6_readsWork 81 = .ok (.getfield 142, 3) := by decide +kernel
theorem dX6_readsWork_84 : decode cX6_readsWork 84 = .ok (.aload_n 0, 1) := by decide +kernel
theorem dX6_readsWork_85 : decode cX6_readsWork 85 = .ok (.getfield 13, 3) := by decide +kernel
theorem dX6_readsWork_88 : decode cX6_readsWork 88 = .ok (.iconst 1, 1) := by decide +kernel
theorem dX6_readsWork_89 : decode cX6_readsWork 89 = .ok (.iaload, 1) := by decide +kernel
theorem dX6_readsWork_90 : decode cX6_readsWork 90 = .ok (.invokestatic 202, 3) := by decide +kernel
theorem dX6_readsWork_93 : decode cX6_readsWork 93 = .ok (.invokevirtual 175, 3) := by decide +kernel
theorem dX6_readsWork_96 : decode cX6_readsWork 96 = .ok (.istore 6, 2) := by decide +kernel
theorem dX6_readsWork_98 : decode cX6_readsWork 98 = .ok (.aload_n 0, 1) := by decide +kernel
theorem dX6_readsWork_99 : decode cX6_readsWork 99 = .ok (.bipush 59, 2) := by decide +kernel
theorem dX6_readsWork_101 : decode cX6_readsWork 101 = .ok (.invokevirtual 179, 3) := by decide +kernel
theorem dX6_readsWork_104 : decode cX6_readsWork 104 = .ok (.aload_n 0, 1) := by decide +kernel
theorem dX6_readsWork_105 : decode cX6_readsWork 105 = .ok (.getfield 156, 3) := by decide +kernel
theorem dX6_readsWork_108 : decode cX6_readsWork 108 = .ok (.ifCond .ne 72, 3) := by decide +kernel
theorem dX6_readsWork_111 : decode cX6_readsWork 111 = .ok (.bipush 119, 2) := by decide +kernel
theorem dX6_readsWork_113 : decode cX6_readsWork 113 = .ok (.iconst 5, 1) := by decide +kernel
theorem dX6_readsWork_114 : decode cX6_readsWork 114 = .ok (.iload_n 2, 1) := by decide +kernel
theorem dX6_readsWork_115 : decode cX6_readsWork 115 = .ok (.imul, 1) := by decide +kernel
theorem dX6_readsWork_116 : decode cX6_readsWork 116 = .ok (.iadd, 1) := by decide +kernel
theorem dX6_readsWork_117 : decode cX6_readsWork 117 = .ok (.istore 7, 2) := by decide +kernel
theorem dX6_readsWork_119 : decode cX6_readsWork 119 = .ok (.aload_n 0, 1) := by decide +kernel
theorem dX6_readsWork_120 : decode cX6_readsWork 120 = .ok (.getfield 13, 3) := by decide +kernel
theorem dX6_readsWork_123 : decode cX6_readsWork 123 = .ok (.iload 7, 2) := by decide +kernel
theorem dX6_readsWork_125 : decode cX6_readsWork 125 = .ok (.iload_n 1, 1) := by decide +kernel
theorem dX6_readsWork_126 : decode cX6_readsWork 126 = .ok (.iastore, 1) := by decide +kernel
theorem dX6_readsWork_127 : decode cX6_readsWork 127 = .ok (.aload_n 0, 1) := by decide +kernel
theorem dX6_readsWork_128 : decode cX6_readsWork 128 = .ok (.getfield 13, 3) := by decide +kernel
theorem dX6_readsWork_131 : decode cX6_readsWork 131 = .ok (.iload 7, 2) := by decide +kernel
theorem dX6_readsWork_133 : decode cX6_readsWork 133 = .ok (.iconst 1, 1) := by decide +kernel
theorem dX6_readsWork_134 : decode cX6_readsWork 134 = .ok (.iadd, 1) := by decide +kernel
theorem dX6_readsWork_135 : decode cX6_readsWork 135 = .ok (.iload_n 3, 1) := by decide +kernel
theorem dX6_readsWork_136 : decode cX6_readsWork 136 = .ok (.iastore, 1) := by decide +kernel
theorem dX6_readsWork_137 : decode cX6_readsWork 137 = .ok (.aload_n 0, 1) := by decide +kernel
theorem dX6_readsWork_138 : decode cX6_readsWork 138 = .ok (.getfield 13, 3) := by decide +kernel
theorem dX6_readsWork_141 : decode cX6_readsWork 141 = .ok (.iload 7, 2) := by decide +kernel
theorem dX6_readsWork_143 : decode cX6_readsWork 143 = .ok (.iconst 2, 1) := by decide +kernel
theorem dX6_readsWork_144 : decode cX6_readsWork 144 = .ok (.iadd, 1) := by decide +kernel
theorem dX6_readsWork_145 : decode cX6_readsWork 145 = .ok (.iload 4, 2) := by decide +kernel
theorem dX6_readsWork_147 : decode cX6_readsWork 147 = .ok (.iastore, 1) := by decide +kernel
theorem dX6_readsWork_148 : decode cX6_readsWork 148 = .ok (.aload_n 0, 1) := by decide +kernel
theorem dX6_readsWork_149 : decode cX6_readsWork 149 = .ok (.getfield 13, 3) := by decide +kernel
theorem dX6_readsWork_152 : decode cX6_readsWork 152 = .ok (.iload 7, 2) := by decide +kernel
theorem dX6_readsWork_154 : decode cX6_readsWork 154 = .ok (.iconst 3, 1) := by decide +kernel
theorem dX6_readsWork_155 : decode cX6_readsWork 155 = .ok (.iadd, 1) := by decide +kernel
theorem dX6_readsWork_156 : decode cX6_readsWork 156 = .ok (.iload 5, 2) := by decide +kernel
theorem dX6_readsWork_158 : decode cX6_readsWork 158 = .ok (.iastore, 1) := by decide +kernel
theorem dX6_readsWork_159 : decode cX6_readsWork 159 = .ok (.aload_n 0, 1) := by decide +kernel
theorem dX6_readsWork_160 : decode cX6_readsWork 160 = .ok (.getfield 13, 3) := by decide +kernel
theorem dX6_readsWork_163 : decode cX6_readsWork 163 = .ok (.iload 7, 2) := by decide +kernel
theorem dX6_readsWork_165 : decode cX6_readsWork 165 = .ok (.iconst 4, 1) := by decide +kernel
theorem dX6_readsWork_166 : decode cX6_readsWork 166 = .ok (.iadd, 1) := by decide +kernel
theorem dX6_readsWork_167 : decode cX6_readsWork 167 = .ok (.iload 6, 2) := by decide +kernel
theorem dX6_readsWork_169 : decode cX6_readsWork 169 = .ok (.iastore, 1) := by decide +kernel
theorem dX6_readsWork_170 : decode cX6_readsWork 170 = .ok (.aload_n 0, 1) := by decide +kernel
theorem dX6_readsWork_171 : decode cX6_readsWork 171 = .ok (.getfield 13, 3) := by decide +kernel
theorem dX6_readsWork_174 : decode cX6_readsWork 174 = .ok (.iconst 2, 1) := by decide +kernel
theorem dX6_readsWork_175 : decode cX6_readsWork 175 = .ok (.dup2, 1) := by decide +kernel
theorem dX6_readsWork_176 : decode cX6_readsWork 176 = .ok (.iaload, 1) := by decide +kernel
theorem dX6_readsWork_177 : decode cX6_readsWork 177 = .ok (.iconst 1, 1) := by decide +kernel
theorem dX6_readsWork_178 : decode cX6_readsWork 178 = .ok (.iadd, 1) := by decide +kernel
theorem dX6_readsWork_179 : decode cX6_readsWork 179 = .ok (.iastore, 1) := by decide +kernel
theorem dX6_readsWork_180 : decode cX6_readsWork 180 = .ok (.return_, 1) := by decide +kernel
theorem dX6_feed_0 : decode cX6_feed 0 = .ok (.iload_n 1, 1) := by decide +kernel
theorem dX6_feed_1 : decode cX6_feed 1 = .ok (.i2l, 1) := by decide +kernel
theorem dX6_feed_2 : decode cX6_feed 2 = .ok (.lconst 0, 1) := by decide +kernel
theorem dX6_feed_3 : decode cX6_feed 3 = .ok (.ldc2_w 205, 3) := by decide +kernel
theorem dX6_feed_6 : decode cX6_feed 6 = .ok (.invokestatic 41, 3) := by decide +kernel
theorem dX6_feed_9 : decode cX6_feed 9 = .ok (.ifCond .ne 6, 3) := by decide +kernel
theorem dX6_feed_12 : decode cX6_feed 12 = .ok (.ldc 207, 2) := by decide +kernel
theorem dX6_feed_14 : decode cX6_feed 14 = .ok (.ireturn, 1) := by decide +kernel
theorem dX6_feed_15 : decode cX6_feed 15 = .ok (.aload_n 0, 1) := by decide +kernel
theorem dX6_feed_16 : decode cX6_feed 16 = .ok (.getfield 130, 3) := by decide +kernel
theorem dX6_feed_19 : decode cX6_feed 19 = .ok (.sipush 250, 3) := by decide +kernel
theorem dX6_feed_22 : decode cX6_feed 22 = .ok (.if_icmp .ne 6, 3) := by decide +kernel
theorem dX6_feed_25 : decode cX6_feed 25 = .ok (.ldc 208, 2) := by decide +kernel
theorem dX6_feed_27 : decode cX6_feed 27 = .ok (.ireturn, 1) := by decide +kernel
theorem dX6_feed_28 : decode cX6_feed 28 = .ok (.aload_n 0, 1) := by decide +kernel
theorem dX6_feed_29 : decode cX6_feed 29 = .ok (.getfield 26, 3) := by decide +kernel
theorem dX6_feed_32 : decode cX6_feed 32 = .ok (.aload_n 0, 1) := by decide +kernel
theorem dX6_feed_33 : decode cX6_feed 33 = .ok (.getfield 130, 3) := by decide +kernel
theorem dX6_feed_36 : decode cX6_feed 36 = .ok (.iload_n 1, 1) := by decide +kernel
theorem dX6_feed_37 : decode cX6_feed 37 = .ok (.iastore, 1) := by decide +kernel
theorem dX6_feed_38 : decode cX6_feed 38 = .ok (.aload_n 0, 1) := by decide +kernel
theorem dX6_feed_39 : decode cX6_feed 39 = .ok (.dup, 1) := by decide +kernel
theorem dX6_feed_40 : decode cX6_feed 40 = .ok (.getfield 130, 3) := by decide +kernel
theorem dX6_feed_43 : decode cX6_feed 43 = .ok (.iconst 1, 1) := by decide +kernel
theorem dX6_feed_44 : decode cX6_feed 44 = .ok (.iadd, 1) := by decide +kernel
theorem dX6_feed_45 : decode cX6_feed 45 = .ok (.putfield 130, 3) := by decide +kernel
theorem dX6_feed_48 : decode cX6_feed 48 = .ok (.aload_n 0, 1) := by decide +kernel
theorem dX6_feed_49 : decode cX6_feed 49 = .ok (.getfield 130, 3) := by decide +kernel
theorem dX6_feed_52 : decode cX6_feed 52 = .ok (.ireturn, 1) := by decide +kernel
theorem dX6_rights_0 : decode cX6_rights 0 = .ok (.iconst 0, 1) := by decide +kernel
theorem dX6_rights_1 : decode cX6_rights 1 = .ok (.istore_n 1, 1) := by decide +kernel
theorem dX6_rights_2 : decode cX6_rights 2 = .ok (.iload_n 1, 1) := by decide +kernel
theorem dX6_rights_3 : decode cX6_rights 3 = .ok (.sipush 149, 3) := by decide +kernel
theorem dX6_rights_6 : decode cX6_rights 6 = .ok (.if_icmp .ge 16, 3) := by decide +kernel
theorem dX6_rights_9 : decode cX6_rights 9 = .ok (.aload_n 0, 1) := by decide +kernel
theorem dX6_rights_10 : decode cX6_rights 10 = .ok (.getfield 13, 3) := by decide +kernel
theorem dX6_rights_13 : decode cX6_rights 13 = .ok (.iload_n 1, 1) := by decide +kernel
theorem dX6_rights_14 : decode cX6_rights 14 = .ok (.iconst 0, 1) := by decide +kernel
theorem dX6_rights_15 : decode cX6_rights 15 = .ok (.iastore, 1) := by decide +kernel
theorem dX6_rights_16 : decode cX6_rights 16 = .ok (.iinc 1 1, 3) := by decide +kernel
theorem dX6_rights_19 : decode cX6_rights 19 = .ok (.goto (-17), 3) := by decide +kernel
theorem dX6_rights_22 : decode cX6_rights 22 = .ok (.aload_n 0, 1) := by decide +kernel
theorem dX6_rights_23 : decode cX6_rights 23 = .ok (.iconst 0, 1) := by decide +kernel
theorem dX6_rights_24 : decode cX6_rights 24 = .ok (.putfield 133, 3) := by decide +kernel
theorem dX6_rights_27 : decode cX6_rights 27 = .ok (.aload_n 0, 1) := by decide +kernel
theorem dX6_rights_28 : decode cX6_rights 28 = .ok (.iconst 0, 1) := by decide +kernel
theorem dX6_rights_29 : decode cX6_rights 29 = .ok (.putfield 156, 3) := by decide +kernel
theorem dX6_rights_32 : decode cX6_rights 32 = .ok (.aload_n 0, 1) := by decide +kernel
theorem dX6_rights_33 : decode cX6_rights 33 = .ok (.invokevirtual 162, 3) := by decide +kernel
theorem dX6_rights_36 : decode cX6_rights 36 = .ok (.aload_n 0, 1) := by decide +kernel
theorem dX6_rights_37 : decode cX6_rights 37 = .ok (.bipush 108, 2) := by decide +kernel
theorem dX6_rights_39 : decode cX6_rights 39 = .ok (.invokevirtual 188, 3) := by decide +kernel
theorem dX6_rights_42 : decode cX6_rights 42 = .ok (.ifCond .ne 8, 3) := by decide +kernel
theorem dX6_rights_45 : decode cX6_rights 45 = .ok (.aload_n 0, 1) := by decide +kernel
theorem dX6_rights_46 : decode cX6_rights 46 = .ok (.iconst 1, 1) := by decide +kernel
theorem dX6_rights_47 : decode cX6_rights 47 = .ok (.invokevirtual 168, 3) := by decide +kernel
theorem dX6_rights_50 : decode cX6_rights 50 = .ok (.aload_n 0, 1) := by decide +kernel
theorem dX6_rights_51 : decode cX6_rights 51 = .ok (.bipush 108, 2) := by decide +kernel
theorem dX6_rights_53 : decode cX6_rights 53 = .ok (.invokevirtual 188, 3) := by decide +kernel
theorem dX6_rights_56 : decode cX6_rights 56 = .ok (.ifCond .eq 10, 3) := by decide +kernel
theorem dX6_rights_59 : decode cX6_rights 59 = .ok (.aload_n 0, 1) := by decide +kernel
theorem dX6_rights_60 : decode cX6_rights 60 = .ok (.invokevirtual 209, 3) := by decide +kernel
theorem dX6_rights_63 : decode cX6_rights 63 = .ok (.goto (-13), 3) := by decide +kernel
theorem dX6_rights_66 : decode cX6_rights 66 = .ok (.aload_n 0, 1) := by decide +kernel
theorem dX6_rights_67 : decode cX6_rights 67 = .ok (.bipush 97, 2) := by decide +kernel
theorem dX6_rights_69 : decode cX6_rights 69 = .ok (.invokevirtual 188, 3) := by decide +kernel
theorem dX6_rights_72 : decode cX6_rights 72 = .ok (.ifCond .eq 10, 3) := by decide +kernel
theorem dX6_rights_75 : decode cX6_rights 75 = .ok (.aload_n 0, 1) := by decide +kernel
theorem dX6_rights_76 : decode cX6_rights 76 = .ok (.invokevirtual 212, 3) := by decide +kernel
theorem dX6_rights_79 : decode cX6_rights 79 = .ok (.goto (-13), 3) := by decide +kernel
theorem dX6_rights_82 : decode cX6_rights 82 = .ok (.aload_n 0, 1) := by decide +kernel
theorem dX6_rights_83 : decode cX6_rights 83 = .ok (.invokevirtual 196, 3) := by decide +kernel
theorem dX6_rights_86 : decode cX6_rights 86 = .ok (.ldc 103, 2) := by decide +kernel
theorem dX6_rights_88 : decode cX6_rights 88 = .ok (.if_icmp .eq 10, 3) := by decide +kernel
theorem dX6_rights_91 : decode cX6_rights 91 = .ok (.aload_n 0, 1) := by decide +kernel
theorem dX6_rights_92 : decode cX6_rights 92 = .ok (.invokevirtual 215, 3) := by decide +kernel
theorem dX6_rights_95 : decode cX6_rights 95 = .ok (.goto (-13), 3) := by decide +kernel
theorem dX6_rights_98 : decode cX6_rights 98 = .ok (.aload_n 0, 1) := by decide +kernel
theorem dX6_rights_99 : decode cX6_rights 99 = .ok (.getfield 153, 3) := by decide +kernel
theorem dX6_rights_102 : decode cX6_rights 102 = .ok (.ifCond .eq 8, 3) := by decide +kernel
theorem dX6_rights_105 : decode cX6_rights 105 = .ok (.aload_n 0, 1) := by decide +kernel
theorem dX6_rights_106 : decode cX6_rights 106 = .ok (.iconst 1, 1) := by decide +kernel
theorem dX6_rights_107 : decode cX6_rights 107 = .ok (.invokevirtual 168, 3) := by decide +kernel
theorem dX6_rights_110 : decode cX6_rights 110 = .ok (.aload_n 0, 1) := by decide +kernel
theorem dX6_rights_111 : decode cX6_rights 111 = .ok (.iconst 0, 1) := by decide +kernel
theorem dX6_rights_112 : decode cX6_rights 112 = .ok (.putfield 130, 3) := by decide +kernel
theorem dX6_rights_115 : decode cX6_rights 115 = .ok (.aload_n 0, 1) := by decide +kernel
theorem dX6_rights_116 : decode cX6_rights 116 = .ok (.getfield 156, 3) := by decide +kernel
theorem dX6_rights_119 : decode cX6_rights 119 = .ok (.ifCond .le 19, 3) := by decide +kernel
theorem dX6_rights_122 : decode cX6_rights 122 = .ok (.aload_n 0, 1) := by decide +kernel
theorem dX6_rights_123 : decode cX6_rights 123 = .ok (.aload_n 0, 1) := by decide +kernel
theorem dX6_rights_124 : decode cX6_rights 124 = .ok (.getfield 156, 3) := by decide +kernel
theorem dX6_rights_127 : decode cX6_rights 127 = .ok (.putfield 218, 3) := by decide +kernel
theorem dX6_rights_130 : decode cX6_rights 130 = .ok (.ldc 221, 2) := by decide +kernel
theorem dX6_rights_132 : decode cX6_rights 132 = .ok (.aload_n 0, 1) := by decide +kernel
theorem dX6_rights_133 : decode cX6_rights 133 = .ok (.getfield 159, 3) := by decide +kernel
theorem dX6_rights_136 : decode cX6_rights 136 = .ok (.isub, 1) := by decide +kernel
theorem dX6_rights_137 : decode cX6_rights 137 = .ok (.ireturn, 1) := by decide +kernel
theorem dX6_rights_138 : decode cX6_rights 138 = .ok (.aload_n 0, 1) := by decide +kernel
theorem dX6_rights_139 : decode cX6_rights 139 = .ok (.getfield 13, 3) := by decide +kernel
theorem dX6_rights_142 : decode cX6_rights 142 = .ok (.iconst 0, 1) := by decide +kernel
theorem dX6_rights_143 : decode cX6_rights 143 = .ok (.aload_n 0, 1) := by decide +kernel
theorem dX6_rights_144 : decode cX6_rights 144 = .ok (.getfield 7, 3) := by decide +kernel
theorem dX6_rights_147 : decode cX6_rights 147 = .ok (.iconst 0, 1) := by decide +kernel
theorem dX6_rights_148 : decode cX6_rights 148 = .ok (.invokestatic 222, 3) := by decide +kernel
theorem dX6_rights_151 : decode cX6_rights 151 = .ok (.aload_n 0, 1) := by decide +kernel
theorem dX6_rights_152 : decode cX6_rights 152 = .ok (.iconst 0, 1) := by decide +kernel
theorem dX6_rights_153 : decode cX6_rights 153 = .ok (.putfield 226, 3) := by decide +kernel
theorem dX6_rights_156 : decode cX6_rights 156 = .ok (.aload_n 0, 1) := by decide +kernel
theorem dX6_rights_157 : decode cX6_rights 157 = .ok (.getfield 7, 3) := by decide +kernel
theorem dX6_rights_160 : decode cX6_rights 160 = .ok (.iconst 2, 1) := by decide +kernel
theorem dX6_rights_161 : decode cX6_rights 161 = .ok (.iaload, 1) := by decide +kernel
theorem dX6_rights_162 : decode cX6_rights 162 = .ok (.ireturn, 1) := by decide +kernel
theorem dX6_fault_0 : decode cX6_fault 0 = .ok (.aload_n 0, 1) := by decide +kernel
theorem dX6_fault_1 : decode cX6_fault 1 = .ok (.getfield 218, 3) := by decide +kernel
theorem dX6_fault_4 : decode cX6_fault 4 = .ok (.ireturn, 1) := by decide +kernel
theorem dX6_notes_0 : decode cX6_notes 0 = .ok (.aload_n 0, 1) := by decide +kernel
theorem dX6_notes_1 : decode cX6_notes 1 = .ok (.getfield 226, 3) := by decide +kernel
theorem dX6_notes_4 : decode cX6_notes 4 = .ok (.bipush 12, 2) := by decide +kernel
theorem dX6_notes_6 : decode cX6_notes 6 = .ok (.if_icmp .ne 44, 3) := by decide +kernel
theorem dX6_notes_9 : decode cX6_notes 9 = .ok (.iconst 0, 1) := by decide +kernel
theorem dX6_notes_10 : decode cX6_notes 10 = .ok (.istore_n 1, 1) := by decide +kernel
theorem dX6_notes_11 : decode cX6_notes 11 = .ok (.iload_n 1, 1) := by decide +kernel
theorem dX6_notes_12 : decode cX6_notes 12 = .ok (.sipush 1639, 3) := by decide +kernel
theorem dX6_notes_15 : decode cX6_notes 15 = .ok (.if_icmp .ge 25, 3) := by decide +kernel
theorem dX6_notes_18 : decode cX6_notes 18 = .ok (.aload_n 0, 1) := by decide +kernel
theorem dX6_notes_19 : decode cX6_notes 19 = .ok (.getfield 16, 3) := by decide +kernel
theorem dX6_notes_22 : decode cX6_notes 22 = .ok (.iload_n 1, 1) := by decide +kernel
theorem dX6_notes_23 : decode cX6_notes 23 = .ok (.aload_n 0, 1) := by decide +kernel
theorem dX6_notes_24 : decode cX6_notes 24 = .ok (.getfield 16, 3) := by decide +kernel
theorem dX6_notes_27 : decode cX6_notes 27 = .ok (.iload_n 1, 1) := by decide +kernel
theorem dX6_notes_28 : decode cX6_notes 28 = .ok (.sipush 149, 3) := by decide +kernel
theorem dX6_notes_31 : decode cX6_notes 31 = .ok (.iadd, 1) := by decide +kernel
theorem dX6_notes_32 : decode cX6_notes 32 = .ok (.iaload, 1) := by decide +kernel
theorem dX6_notes_33 : decode cX6_notes 33 = .ok (.iastore, 1) := by decide +kernel
theorem dX6_notes_34 : decode cX6_notes 34 = .ok (.iinc 1 1, 3) := by decide +kernel
theorem dX6_notes_37 : decode cX6_notes 37 = .ok (.goto (-26), 3) := by decide +kernel
theorem dX6_notes_40 : decode cX6_notes 40 = .ok (.aload_n 0, 1) := by decide +kernel
theorem dX6_notes_41 : decode cX6_notes 41 = .ok (.dup, 1) := by decide +kernel
theorem dX6_notes_42 : decode cX6_notes 42 = .ok (.getfield 226, 3) := by decide +kernel
theorem dX6_notes_45 : decode cX6_notes 45 = .ok (.iconst 1, 1) := by decide +kernel
theorem dX6_notes_46 : decode cX6_notes 46 = .ok (.isub, 1) := by decide +kernel
theorem dX6_notes_47 : decode cX6_notes 47 = .ok (.putfield 226, 3) := by decide +kernel
theorem dX6_notes_50 : decode cX6_notes 50 = .ok (.aload_n 0, 1) := by decide +kernel
theorem dX6_notes_51 : decode cX6_notes 51 = .ok (.getfield 7, 3) := by decide +kernel
theorem dX6_notes_54 : decode cX6_notes 54 = .ok (.iconst 0, 1) := by decide +kernel
theorem dX6_notes_55 : decode cX6_notes 55 = .ok (.aload_n 0, 1) := by decide +kernel
theorem dX6_notes_56 : decode cX6_notes 56 = .ok (.getfield 16, 3) := by decide +kernel
theorem dX6_notes_59 : decode cX6_notes 59 = .ok (.sipush 149, 3) := by decide +kernel
theorem dX6_notes_62 : decode cX6_notes 62 = .ok (.aload_n 0, 1) := by decide +kernel
theorem dX6_notes_63 : decode cX6_notes 63 = .ok (.getfield 226, 3) := by decide +kernel
theorem dX6_notes_66 : decode cX6_notes 66 = .ok (.imul, 1) := by decide +kernel
theorem dX6_notes_67 : decode cX6_notes 67 = .ok (.invokestatic 222, 3) := by decide +kernel
theorem dX6_notes_70 : decode cX6_notes 70 = .ok (.aload_n 0, 1) := by decide +kernel
theorem dX6_notes_71 : decode cX6_notes 71 = .ok (.dup, 1) := by decide +kernel
theorem dX6_notes_72 : decode cX6_notes 72 = .ok (.getfield 226, 3) := by decide +kernel
theorem dX6_notes_75 : decode cX6_notes 75 = .ok (.iconst 1, 1) := by decide +kernel
theorem dX6_notes_76 : decode cX6_notes 76 = .ok (.iadd, 1) := by decide +kernel
theorem dX6_notes_77 : decode cX6_notes 77 = .ok (.putfield 226, 3) := by decide +kernel
theorem dX6_notes_80 : decode cX6_notes 80 = .ok (.return_, 1) := by decide +kernel
theorem dX6_undo_0 : decode cX6_undo 0 = .ok (.aload_n 0, 1) := by decide +kernel
theorem dX6_undo_1 : decode cX6_undo 1 = .ok (.getfield 226, 3) := by decide +kernel
theorem dX6_undo_4 : decode cX6_undo 4 = .ok (.ifCond .ne 6, 3) := by decide +kernel
theorem dX6_undo_7 : decode cX6_undo 7 = .ok (.ldc 229, 2) := by decide +kernel
theorem dX6_undo_9 : decode cX6_undo 9 = .ok (.ireturn, 1) := by decide +kernel
theorem dX6_undo_10 : decode cX6_undo 10 = .ok (.aload_n 0, 1) := by decide +kernel
theorem dX6_undo_11 : decode cX6_undo 11 = .ok (.dup, 1) := by decide +kernel
theorem dX6_undo_12 : decode cX6_undo 12 = .ok (.getfield 226, 3) := by decide +kernel
theorem dX6_undo_15 : decode cX6_undo 15 = .ok (.iconst 1, 1) := by decide +kernel
theorem dX6_undo_16 : decode cX6_undo 16 = .ok (.isub, 1) := by decide +kernel
theorem dX6_undo_17 : decode cX6_undo 17 = .ok (.putfield 226, 3) := by decide +kernel
theorem dX6_undo_20 : decode cX6_undo 20 = .ok (.aload_n 0, 1) := by decide +kernel
theorem dX6_undo_21 : decode cX6_undo 21 = .ok (.getfield 16, 3) := by decide +kernel
theorem dX6_undo_24 : decode cX6_undo 24 = .ok (.sipush 149, 3) := by decide +kernel
theorem dX6_undo_27 : decode cX6_undo 27 = .ok (.aload_n 0, 1) := by decide +kernel
theorem dX6_undo_28 : decode cX6_undo 28 = .ok (.getfield 226, 3) := by decide +kernel
theorem dX6_undo_31 : decode cX6_undo 31 = .ok (.imul, 1) := by decide +kernel
theorem dX6_undo_32 : decode cX6_undo 32 = .ok (.aload_n 0, 1) := by decide +kernel
theorem dX6_undo_33 : decode cX6_undo 33 = .ok (.getfield 7, 3) := by decide +kernel
theorem dX6_undo_36 : decode cX6_undo 36 = .ok (.iconst 0, 1) := by decide +kernel
theorem dX6_undo_37 : decode cX6_undo 37 = .ok (.invokestatic 222, 3) := by decide +kernel
theorem dX6_undo_40 : decode cX6_undo 40 = .ok (.aload_n 0, 1) := by decide +kernel
theorem dX6_undo_41 : decode cX6_undo 41 = .ok (.getfield 226, 3) := by decide +kernel
theorem dX6_undo_44 : decode cX6_undo 44 = .ok (.ireturn, 1) := by decide +kernel
theorem dX6_enact_0 : decode cX6_enact 0 = .ok (.aload_n 0, 1) := by decide +kernel
theorem dX6_enact_1 : decode cX6_enact 1 = .ok (.iload_n 1, 1) := by decide +kernel
theorem dX6_enact_2 : decode cX6_enact 2 = .ok (.invokevirtual 45, 3) := by decide +kernel
theorem dX6_enact_5 : decode cX6_enact 5 = .ok (.ifCond .eq 28, 3) := by decide +kernel
theorem dX6_enact_8 : decode cX6_enact 8 = .ok (.iload_n 3, 1) := by decide +kernel
theorem dX6_enact_9 : decode cX6_enact 9 = .ok (.i2l, 1) := by decide +kernel
theorem dX6_enact_10 : decode cX6_enact 10 = .ok (.lconst 0, 1) := by decide +kernel
theorem dX6_enact_11 : decode cX6_enact 11 = .ok (.ldc2_w 230, 3) := by decide +kernel
theorem dX6_enact_14 : decode cX6_enact 14 = .ok (.invokestatic 41, 3) := by decide +kernel
theorem dX6_enact_17 : decode cX6_enact 17 = .ok (.ifCond .eq 16, 3) := by decide +kernel
theorem dX6_enact_20 : decode cX6_enact 20 = .ok (.iload 4, 2) := by decide +kernel
theorem dX6_enact_22 : decode cX6_enact 22 = .ok (.i2l, 1) := by decide +kernel
theorem dX6_enact_23 : decode cX6_enact 23 = .ok (.lconst 0, 1) := by decide +kernel
theorem dX6_enact_24 : decode cX6_enact 24 = .ok (.ldc2_w 232, 3) := by decide +kernel
theorem dX6_enact_27 : decode cX6_enact 27 = .ok (.invokestatic 41, 3) := by decide +kernel
theorem dX6_enact_30 : decode cX6_enact 30 = .ok (.ifCond .ne 6, 3) := by decide +kernel
theorem dX6_enact_33 : decode cX6_enact 33 = .ok (.ldc 207, 2) := by decide +kernel
theorem dX6_enact_35 : decode cX6_enact 35 = .ok (.ireturn, 1) := by decide +kernel
theorem dX6_enact_36 : decode cX6_enact 36 = .ok (.aload_n 0, 1) := by decide +kernel
theorem dX6_enact_37 : decode cX6_enact 37 = .ok (.getfield 7, 3) := by decide +kernel
theorem dX6_enact_40 : decode cX6_enact 40 = .ok (.iconst 3, 1) := by decide +kernel
theorem dX6_enact_41 : decode cX6_enact 41 = .ok (.iload_n 1, 1) := by decide +kernel
theorem dX6_enact_42 : decode cX6_enact 42 = .ok (.iadd, 1) := by decide +kernel
theorem dX6_enact_43 : decode cX6_enact 43 = .ok (.iaload, 1) := by decide +kernel
theorem dX6_enact_44 : decode cX6_enact 44 = .ok (.istore 5, 2) := by decide +kernel
theorem dX6_enact_46 : decode cX6_enact 46 = .ok (.iload_n 2, 1) := by decide +kernel
theorem dX6_enact_47 : decode cX6_enact 47 = .ok (.i2l, 1) := by decide +kernel
theorem dX6_enact_48 : decode cX6_enact 48 = .ok (.aload_n 0, 1) := by decide +kernel
theorem dX6_enact_49 : decode cX6_enact 49 = .ok (.iload_n 1, 1) := by decide +kernel
theorem dX6_enact_50 : decode cX6_enact 50 = .ok (.iload 5, 2) := by decide +kernel
theorem dX6_enact_52 : decode cX6_enact 52 = .ok (.iconst 1, 1) := by decide +kernel
theorem dX6_enact_53 : decode cX6_enact 53 = .ok (.isub, 1) := by decide +kernel
theorem dX6_enact_54 : decode cX6_enact 54 = .ok (.iconst 0, 1) := by decide +kernel
theorem dX6_enact_55 : decode cX6_enact 55 = .ok (.invokevirtual 49, 3) := by decide +kernel
theorem dX6_enact_58 : decode cX6_enact 58 = .ok (.iconst 1, 1) := by decide +kernel
theorem dX6_enact_59 : decode cX6_enact 59 = .ok (.iadd, 1) := by decide +kernel
theorem dX6_enact_60 : decode cX6_enact 60 = .ok (.i2l, 1) := by decide +kernel
theorem dX6_enact_61 : decode cX6_enact 61 = .ok (.ldc2_w 194, 3) := by decide +kernel
theorem dX6_enact_64 : decode cX6_enact 64 = .ok (.invokestatic 41, 3) := by decide +kernel
theorem dX6_enact_67 : decode cX6_enact 67 = .ok (.ifCond .ne 6, 3) := by decide +kernel
theorem dX6_enact_70 : decode cX6_enact 70 = .ok (.ldc 207, 2) := by decide +kernel
theorem dX6_enact_72 : decode cX6_enact 72 = .ok (.ireturn, 1) := by decide +kernel
theorem dX6_enact_73 : decode cX6_enact 73 = .ok (.iload 5, 2) := by decide +kernel
theorem dX6_enact_75 : decode cX6_enact 75 = .ok (.iconst 4, 1) := by decide +kernel
theorem dX6_enact_76 : decode cX6_enact 76 = .ok (.if_icmp .ne 6, 3) := by decide +kernel
theorem dX6_enact_79 : decode cX6_enact 79 = .ok (.ldc 208, 2) := by decide +kernel
theorem dX6_enact_81 : decode cX6_enact 81 = .ok (.ireturn, 1) := by decide +kernel
theorem dX6_enact_82 : decode cX6_enact 82 = .ok (.aload_n 0, 1) := by decide +kernel
theorem dX6_enact_83 : decode cX6_enact 83 = .ok (.invokevirtual 234, 3) := by decide +kernel
theorem dX6_enact_86 : decode cX6_enact 86 = .ok (.bipush 7, 2) := by decide +kernel
theorem dX6_enact_88 : decode cX6_enact 88 = .ok (.bipush 24, 2) := by decide +kernel
theorem dX6_enact_90 : decode cX6_enact 90 = .ok (.iload_n 1, 1) := by decide +kernel
theorem dX6_enact_91 : decode cX6_enact 91 = .ok (.imul, 1) := by decide +kernel
theorem dX6_enact_92 : decode cX6_enact 92 = .ok (.iadd, 1) := by decide +kernel
theorem dX6_enact_93 : decode cX6_enact 93 = .ok (.bipush 6, 2) := by decide +kernel
theorem dX6_enact_95 : decode cX6_enact 95 = .ok (.iload 5, 2) := by decide +kernel
theorem dX6_enact_97 : decode cX6_enact 97 = .ok (.imul, 1) := by decide +kernel
theorem dX6_enact_98 : decode cX6_enact 98 = .ok (.iadd, 1) := by decide +kernel
theorem dX6_enact_99 : decode cX6_enact 99 = .ok (.istore 6, 2) := by decide +kernel
theorem dX6_enact_101 : decode cX6_enact 101 = .ok (.iconst 0, 1) := by decide +kernel
theorem dX6_enact_102 : decode cX6_enact 102 = .ok (.istore 7, 2) := by decide +kernel
theorem dX6_enact_104 : decode cX6_enact 104 = .ok (.iload 7, 2) := by decide +kernel
theorem dX6_enact_106 : decode cX6_enact 106 = .ok (.bipush 6, 2) := by decide +kernel
theorem dX6_enact_108 : decode cX6_enact 108 = .ok (.if_icmp .ge 62, 3) := by decide +kernel
theorem dX6_enact_111 : decode cX6_enact 111 = .ok (.aload_n 0, 1) := by decide +kernel
theorem dX6_enact_112 : decode cX6_enact 112 = .ok (.getfield 7, 3) := by decide +kernel
theorem dX6_enact_115 : decode cX6_enact 115 = .ok (.iload 6, 2) := by decide +kernel
theorem dX6_enact_117 : decode cX6_enact 117 = .ok (.iload 7, 2) := by decide +kernel
theorem dX6_enact_119 : decode cX6_enact 119 = .ok (.iadd, 1) := by decide +kernel
theorem dX6_enact_120 : decode cX6_enact 120 = .ok (.iload 7, 2) := by decide +kernel
theorem dX6_enact_122 : decode cX6_enact 122 = .ok (.ifCond .ne 7, 3) := by decide +kernel
theorem dX6_enact_125 : decode cX6_enact 125 = .ok (.iload_n 2, 1) := by decide +kernel
theorem dX6_enact_126 : decode cX6_enact 126 = .ok (.goto 37, 3) := by decide +kernel
theorem dX6_enact_129 : decode cX6_enact 129 = .ok (.iload 7, 2) := by decide +kernel
theorem dX6_enact_131 : decode cX6_enact 131 = .ok (.iconst 1, 1) := by decide +kernel
theorem dX6_enact_132 : decode cX6_enact 132 = .ok (.if_icmp .ne 7, 3) := by decide +kernel
theorem dX6_enact_135 : decode cX6_enact 135 = .ok (.iload_n 3, 1) := by decide +kernel
theorem dX6_enact_136 : decode cX6_enact 136 = .ok (.goto 27, 3) := by decide +kernel
theorem dX6_enact_139 : decode cX6_enact 139 = .ok (.iload 7, 2) := by decide +kernel
theorem dX6_enact_141 : decode cX6_enact 141 = .ok (.iconst 5, 1) := by decide +kernel
theorem dX6_enact_142 : decode cX6_enact 142 = .ok (.if_icmp .ne 8, 3) := by decide +kernel
theorem dX6_enact_145 : decode cX6_enact 145 = .ok (.iload 4, 2) := by decide +kernel
theorem dX6_enact_147 : decode cX6_enact 147 = .ok (.goto 16, 3) := by decide +kernel
theorem dX6_enact_150 : decode cX6_enact 150 = .ok (.aload_n 0, 1) := by decide +kernel
theorem dX6_enact_151 : decode cX6_enact 151 = .ok (.getfield 7, 3) := by decide +kernel
theorem dX6_enact_154 : decode cX6_enact 154 = .ok (.iload 6, 2) := by decide +kernel
theorem dX6_enact_156 : decode cX6_enact 156 = .ok (.iload 7, 2) := by decide +kernel
theorem dX6_enact_158 : decode cX6_enact 158 = .ok (.iadd, 1) := by decide +kernel
theorem dX6_enact_159 : decode cX6_enact 159 = .ok (.bipush 6, 2) := by decide +kernel
theorem dX6_enact_161 : decode cX6_enact 161 = .ok (.isub, 1) := by decide +kernel
theorem dX6_enact_162 : decode cX6_enact 162 = .ok (.iaload, 1) := by decide +kernel
theorem dX6_enact_163 : decode cX6_enact 163 = .ok (.iastore, 1) := by decide +kernel
theorem dX6_enact_164 : decode cX6_enact 164 = .ok (.iinc 7 1, 3) := by decide +kernel
theorem dX6_enact_167 : decode cX6_enact 167 = .ok (.goto (-63), 3) := by decide +kernel
theorem dX6_enact_170 : decode cX6_enact 170 = .ok (.aload_n 0, 1) := by decide +kernel
theorem dX6_enact_171 : decode cX6_enact 171 = .ok (.getfield 7, 3) := by decide +kernel
theorem dX6_enact_174 : decode cX6_enact 174 = .ok (.iconst 3, 1) := by decide +kernel
theorem dX6_enact_175 : decode cX6_enact 175 = .ok (.iload_n 1, 1) := by decide +kernel
theorem dX6_enact_176 : decode cX6_enact 176 = .ok (.iadd, 1) := by decide +kernel
theorem dX6_enact_177 : decode cX6_enact 177 = .ok (.dup2, 1) := by decide +kernel
theorem dX6_enact_178 : decode cX6_enact 178 = .ok (.iaload, 1) := by decide +kernel
theorem dX6_enact_179 : decode cX6_enact 179 = .ok (.iconst 1, 1) := by decide +kernel
theorem dX6_enact_180 : decode cX6_enact 180 = .ok (.iadd, 1) := by decide +kernel
theorem dX6_enact_181 : decode cX6_enact 181 = .ok (.iastore, 1) := by decide +kernel
theorem dX6_enact_182 : decode cX6_enact 182 = .ok (.iload 5, 2) := by decide +kernel
theorem dX6_enact_184 : decode cX6_enact 184 = .ok (.ireturn, 1) := by decide +kernel
theorem dX6_repeal_0 : decode cX6_repeal 0 = .ok (.aload_n 0, 1) := by decide +kernel
theorem dX6_repeal_1 : decode cX6_repeal 1 = .ok (.iload_n 1, 1) := by decide +kernel
theorem dX6_repeal_2 : decode cX6_repeal 2 = .ok (.invokevirtual 45, 3) := by decide +kernel
theorem dX6_repeal_5 : decode cX6_repeal 5 = .ok (.ifCond .ne 6, 3) := by decide +kernel
theorem dX6_repeal_8 : decode cX6_repeal 8 = .ok (.ldc 207, 2) := by decide +kernel
theorem dX6_repeal_10 : decode cX6_repeal 10 = .ok (.ireturn, 1) := by decide +kernel
theorem dX6_repeal_11 : decode cX6_repeal 11 = .ok (.aload_n 0, 1) := by decide +kernel
theorem dX6_repeal_12 : decode cX6_repeal 12 = .ok (.getfield 7, 3) := by decide +kernel
theorem dX6_repeal_15 : decode cX6_repeal 15 = .ok (.iconst 3, 1) := by decide +kernel
theorem dX6_repeal_16 : decode cX6_repeal 16 = .ok (.iload_n 1, 1) := by decide +kernel
theorem dX6_repeal_17 : decode cX6_repeal 17 = .ok (.iadd, 1) := by decide +kernel
theorem dX6_repeal_18 : decode cX6_repeal 18 = .ok (.iaload, 1) := by decide +kernel
theorem dX6_repeal_19 : decode cX6_repeal 19 = .ok (.iconst 1, 1) := by decide +kernel
theorem dX6_repeal_20 : decode cX6_repeal 20 = .ok (.if_icmp .ne 6, 3) := by decide +kernel
theorem dX6_repeal_23 : decode cX6_repeal 23 = .ok (.ldc 229, 2) := by decide +kernel
theorem dX6_repeal_25 : decode cX6_repeal 25 = .ok (.ireturn, 1) := by decide +kernel
theorem dX6_repeal_26 : decode cX6_repeal 26 = .ok (.aload_n 0, 1) := by decide +kernel
theorem dX6_repeal_27 : decode cX6_repeal 27 = .ok (.invokevirtual 234, 3) := by decide +kernel
theorem dX6_repeal_30 : decode cX6_repeal 30 = .ok (.aload_n 0, 1) := by decide +kernel
theorem dX6_repeal_31 : decode cX6_repeal 31 = .ok (.getfield 7, 3) := by decide +kernel
theorem dX6_repeal_34 : decode cX6_repeal 34 = .ok (.iconst 3, 1) := by decide +kernel
theorem dX6_repeal_35 : decode cX6_repeal 35 = .ok (.iload_n 1, 1) := by decide +kernel
theorem dX6_repeal_36 : decode cX6_repeal 36 = .ok (.iadd, 1) := by decide +kernel
theorem dX6_repeal_37 : decode cX6_repeal 37 = .ok (.dup2, 1) := by decide +kernel
theorem dX6_repeal_38 : decode cX6_repeal 38 = .ok (.iaload, 1) := by decide +kernel
theorem dX6_repeal_39 : decode cX6_repeal 39 = .ok (.iconst 1, 1) := by decide +kernel
theorem dX6_repeal_40 : decode cX6_repeal 40 = .ok (.isub, 1) := by decide +kernel
theorem dX6_repeal_41 : decode cX6_repeal 41 = .ok (.iastore, 1) := by decide +kernel
theorem dX6_repeal_42 : decode cX6_repeal 42 = .ok (.aload_n 0, 1) := by decide +kernel
theorem dX6_repeal_43 : decode cX6_repeal 43 = .ok (.getfield 7, 3) := by decide +kernel
theorem dX6_repeal_46 : decode cX6_repeal 46 = .ok (.iconst 3, 1) := by decide +kernel
theorem dX6_repeal_47 : decode cX6_repeal 47 = .ok (.iload_n 1, 1) := by decide +kernel
theorem dX6_repeal_48 : decode cX6_repeal 48 = .ok (.iadd, 1) := by decide +kernel
theorem dX6_repeal_49 : decode cX6_repeal 49 = .ok (.iaload, 1) := by decide +kernel
theorem dX6_repeal_50 : decode cX6_repeal 50 = .ok (.ireturn, 1) := by decide +kernel
theorem dX6_alter_0 : decode cX6_alter 0 = .ok (.aload_n 0, 1) := by decide +kernel
theorem dX6_alter_1 : decode cX6_alter 1 = .ok (.iload_n 1, 1) := by decide +kernel
theorem dX6_alter_2 : decode cX6_alter 2 = .ok (.iload_n 2, 1) := by decide +kernel
theorem dX6_alter_3 : decode cX6_alter 3 = .ok (.invokevirtual 237, 3) := by decide +kernel
theorem dX6_alter_6 : decode cX6_alter 6 = .ok (.ifCond .eq 30, 3) := by decide +kernel
theorem dX6_alter_9 : decode cX6_alter 9 = .ok (.iload_n 3, 1) := by decide +kernel
theorem dX6_alter_10 : decode cX6_alter 10 = .ok (.i2l, 1) := by decide +kernel
theorem dX6_alter_11 : decode cX6_alter 11 = .ok (.lconst 1, 1) := by decide +kernel
theorem dX6_alter_12 : decode cX6_alter 12 = .ok (.ldc2_w 240, 3) := by decide +kernel
theorem dX6_alter_15 : decode cX6_alter 15 = .ok (.invokestatic 41, 3) := by decide +kernel
theorem dX6_alter_18 : decode cX6_alter 18 = .ok (.ifCond .eq 18, 3) := by decide +kernel
theorem dX6_alter_21 : decode cX6_alter 21 = .ok (.iload 4, 2) := by decide +kernel
theorem dX6_alter_23 : decode cX6_alter 23 = .ok (.i2l, 1) := by decide +kernel
theorem dX6_alter_24 : decode cX6_alter 24 = .ok (.lconst 0, 1) := by decide +kernel
theorem dX6_alter_25 : decode cX6_alter 25 = .ok (.iload_n 3, 1) := by decide +kernel
theorem dX6_alter_26 : decode cX6_alter 26 = .ok (.invokestatic 185, 3) := by decide +kernel
theorem dX6_alter_29 : decode cX6_alter 29 = .ok (.i2l, 1) := by decide +kernel
theorem dX6_alter_30 : decode cX6_alter 30 = .ok (.invokestatic 41, 3) := by decide +kernel
theorem dX6_alter_33 : decode cX6_alter 33 = .ok (.ifCond .ne 6, 3) := by decide +kernel
theorem dX6_alter_36 : decode cX6_alter 36 = .ok (.ldc 207, 2) := by decide +kernel
theorem dX6_alter_38 : decode cX6_alter 38 = .ok (.ireturn, 1) := by decide +kernel
theorem dX6_alter_39 : decode cX6_alter 39 = .ok (.aload_n 0, 1) := by decide +kernel
theorem dX6_alter_40 : decode cX6_alter 40 = .ok (.invokevirtual 234, 3) := by decide +kernel
theorem dX6_alter_43 : decode cX6_alter 43 = .ok (.aload_n 0, 1) := by decide +kernel
theorem dX6_alter_44 : decode cX6_alter 44 = .ok (.iload_n 1, 1) := by decide +kernel
theorem dX6_alter_45 : decode cX6_alter 45 = .ok (.iload_n 2, 1) := by decide +kernel
theorem dX6_alter_46 : decode cX6_alter 46 = .ok (.iload_n 3, 1) := by decide +kernel
theorem dX6_alter_47 : decode cX6_alter 47 = .ok (.invokevirtual 49, 3) := by decide +kernel
theorem dX6_alter_50 : decode cX6_alter 50 = .ok (.istore 5, 2) := by decide +kernel
theorem dX6_alter_52 : decode cX6_alter 52 = .ok (.aload_n 0, 1) := by decide +kernel
theorem dX6_alter_53 : decode cX6_alter 53 = .ok (.getfield 7, 3) := by decide +kernel
theorem dX6_alter_56 : decode cX6_alter 56 = .ok (.bipush 7, 2) := by decide +kernel
theorem dX6_alter_58 : decode cX6_alter 58 = .ok (.bipush 24, 2) := by decide +kernel
theorem dX6_alter_60 : decode cX6_alter 60 = .ok (.iload_n 1, 1) := by decide +kernel
theorem dX6_alter_61 : decode cX6_alter 61 = .ok (.imul, 1) := by decide +kernel
theorem dX6_alter_62 : decode cX6_alter 62 = .ok (.iadd, 1) := by decide +kernel
theorem dX6_alter_63 : decode cX6_alter 63 = .ok (.bipush 6, 2) := by decide +kernel
theorem dX6_alter_65 : decode cX6_alter 65 = .ok (.iload_n 2, 1) := by decide +kernel
theorem dX6_alter_66 : decode cX6_alter 66 = .ok (.imul, 1) := by decide +kernel
theorem dX6_alter_67 : decode cX6_alter 67 = .ok (.iadd, 1) := by decide +kernel
theorem dX6_alter_68 : decode cX6_alter 68 = .ok (.iload_n 3, 1) := by decide +kernel
theorem dX6_alter_69 : decode cX6_alter 69 = .ok (.iadd, 1) := by decide +kernel
theorem dX6_alter_70 : decode cX6_alter 70 = .ok (.iload 4, 2) := by decide +kernel
theorem dX6_alter_72 : decode cX6_alter 72 = .ok (.iastore, 1) := by decide +kernel
theorem dX6_alter_73 : decode cX6_alter 73 = .ok (.iload 5, 2) := by decide +kernel
theorem dX6_alter_75 : decode cX6_alter 75 = .ok (.ireturn, 1) := by decide +kernel
theorem dX6_die_0 : decode cX6_die 0 = .ok (.iload_n 2, 1) := by decide +kernel
theorem dX6_die_1 : decode cX6_die 1 = .ok (.ifCond .ne 11, 3) := by decide +kernel
theorem dX6_die_4 : decode cX6_die 4 = .ok (.iload_n 3, 1) := by decide +kernel
theorem dX6_die_5 : decode cX6_die 5 = .ok (.ifCond .ne 7, 3) := by decide +kernel
theorem dX6_die_8 : decode cX6_die 8 = .ok (.iconst 1, 1) := by decide +kernel
theorem dX6_die_9 : decode cX6_die 9 = .ok (.goto 4, 3) := by decide +kernel
theorem dX6_die_12 : decode cX6_die 12 = .ok (.iconst 0, 1) := by decide +kernel
theorem dX6_die_13 : decode cX6_die 13 = .ok (.istore 4, 2) := by decide +kernel
theorem dX6_die_15 : decode cX6_die 15 = .ok (.aload_n 0, 1) := by decide +kernel
theorem dX6_die_16 : decode cX6_die 16 = .ok (.iload_n 1, 1) := by decide +kernel
theorem dX6_die_17 : decode cX6_die 17 = .ok (.invokevirtual 242, 3) := by decide +kernel
theorem dX6_die_20 : decode cX6_die 20 = .ok (.ifCond .eq 35, 3) := by decide +kernel
theorem dX6_die_23 : decode cX6_die 23 = .ok (.iload 4, 2) := by decide +kernel
theorem dX6_die_25 : decode cX6_die 25 = .ok (.ifCond .ne 33, 3) := by decide +kernel
theorem dX6_die_28 : decode cX6_die 28 = .ok (.iload_n 2, 1) := by decide +kernel
theorem dX6_die_29 : decode cX6_die 29 = .ok (.i2l, 1) := by decide +kernel
theorem dX6_die_30 : decode cX6_die 30 = .ok (.ldc2_w 245, 3) := by decide +kernel
theorem dX6_die_33 : decode cX6_die 33 = .ok (.ldc2_w 194, 3) := by decide +kernel
theorem dX6_die_36 : decode cX6_die 36 = .ok (.invokestatic 41, 3) := by decide +kernel
theorem dX6_die_39 : decode cX6_die 39 = .ok (.ifCond .eq 16, 3) := by decide +kernel
theorem dX6_die_42 : decode cX6_die 42 = .ok (.iload_n 3, 1) := by decide +kernel
theorem dX6_die_43 : decode cX6_die 43 = .ok (.i2l, 1) := by decide +kernel
theorem dX6_die_44 : decode cX6_die 44 = .ok (.iload_n 2, 1) := by decide +kernel
theorem dX6_die_45 : decode cX6_die 45 = .ok (.i2l, 1) := by decide +kernel
theorem dX6_die_46 : decode cX6_die 46 = .ok (.ldc2_w 194, 3) := by decide +kernel
theorem dX6_die_49 : decode cX6_die 49 = .ok (.invokestatic 41, 3) := by decide +kernel
theorem dX6_die_52 : decode cX6_die 52 = .ok (.ifCond .ne 6, 3) := by decide +kernel
theorem dX6_die_55 : decode cX6_die 55 = .ok (.ldc 207, 2) := by decide +kernel
theorem dX6_die_57 : decode cX6_die 57 = .ok (.ireturn, 1) := by decide +kernel
theorem dX6_die_58 : decode cX6_die 58 = .ok (.aload_n 0, 1) := by decide +kernel
theorem dX6_die_59 : decode cX6_die 59 = .ok (.invokevirtual 234, 3) := by decide +kernel
theorem dX6_die_62 : decode cX6_die 62 = .ok (.aload_n 0, 1) := by decide +kernel
theorem dX6_die_63 : decode cX6_die 63 = .ok (.iload_n 1, 1) := by decide +kernel
theorem dX6_die_64 : decode cX6_die 64 = .ok (.invokevirtual 69, 3) := by decide +kernel
theorem dX6_die_67 : decode cX6_die 67 = .ok (.iload_n 2, 1) := by decide +kernel
theorem dX6_die_68 : decode cX6_die 68 = .ok (.if_icmp .ne 12, 3) := by decide +kernel
theorem dX6_die_71 : decode cX6_die 71 = .ok (.aload_n 0, 1) := by decide +kernel
theorem dX6_die_72 : decode cX6_die 72 = .ok (.iload_n 1, 1) := by decide +kernel
theorem dX6_die_73 : decode cX6_die 73 = .ok (.invokevirtual 73, 3) := by decide +kernel
theorem dX6_die_76 : decode cX6_die 76 = .ok (.iload_n 3, 1) := by decide +kernel
theorem dX6_die_77 : decode cX6_die 77 = .ok (.if_icmp .eq 7, 3) := by decide +kernel
theorem dX6_die_80 : decode cX6_die 80 = .ok (.iconst 1, 1) := by decide +kernel
theorem dX6_die_81 : decode cX6_die 81 = .ok (.goto 4, 3) := by decide +kernel
theorem dX6_die_84 : decode cX6_die 84 = .ok (.iconst 0, 1) := by decide +kernel
theorem dX6_die_85 : decode cX6_die 85 = .ok (.istore 5, 2) := by decide +kernel
theorem dX6_die_87 : decode cX6_die 87 = .ok (.aload_n 0, 1) := by decide +kernel
theorem dX6_die_88 : decode cX6_die 88 = .ok (.getfield 7, 3) := by decide +kernel
theorem dX6_die_91 : decode cX6_die 91 = .ok (.bipush 103, 2) := by decide +kernel
theorem dX6_die_93 : decode cX6_die 93 = .ok (.iconst 2, 1) := by decide +kernel
theorem dX6_die_94 : decode cX6_die 94 = .ok (.iload_n 1, 1) := by decide +kernel
theorem dX6_die_95 : decode cX6_die 95 = .ok (.imul, 1) := by decide +kernel
theorem dX6_die_96 : decode cX6_die 96 = .ok (.iadd, 1) := by decide +kernel
theorem dX6_die_97 : decode cX6_die 97 = .ok (.iload_n 2, 1) := by decide +kernel
theorem dX6_die_98 : decode cX6_die 98 = .ok (.iastore, 1) := by decide +kernel
theorem dX6_die_99 : decode cX6_die 99 = .ok (.aload_n 0, 1) := by decide +kernel
theorem dX6_die_100 : decode cX6_die 100 = .ok (.getfield 7, 3) := by decide +kernel
theorem dX6_die_103 : decode cX6_die 103 = .ok (.bipush 103, 2) := by decide +kernel
theorem dX6_die_105 : decode cX6_die 105 = .ok (.iconst 2, 1) := by decide +kernel
theorem dX6_die_106 : decode cX6_die 106 = .ok (.iload_n 1, 1) := by decide +kernel
theorem dX6_die_107 : decode cX6_die 107 = .ok (.imul, 1) := by decide +kernel
theorem dX6_die_108 : decode cX6_die 108 = .ok (.iadd, 1) := by decide +kernel
theorem dX6_die_109 : decode cX6_die 109 = .ok (.iconst 1, 1) := by decide +kernel
theorem dX6_die_110 : decode cX6_die 110 = .ok (.iadd, 1) := by decide +kernel
theorem dX6_die_111 : decode cX6_die 111 = .ok (.iload_n 3, 1) := by decide +kernel
theorem dX6_die_112 : decode cX6_die 112 = .ok (.iastore, 1) := by decide +kernel
theorem dX6_die_113 : decode cX6_die 113 = .ok (.iload 5, 2) := by decide +kernel
theorem dX6_die_115 : decode cX6_die 115 = .ok (.ifCond .eq 7, 3) := by decide +kernel
theorem dX6_die_118 : decode cX6_die 118 = .ok (.iconst 1, 1) := by decide +kernel
theorem dX6_die_119 : decode cX6_die 119 = .ok (.goto 4, 3) := by decide +kernel
theorem dX6_die_122 : decode cX6_die 122 = .ok (.iconst 0, 1) := by decide +kernel
theorem dX6_die_123 : decode cX6_die 123 = .ok (.ireturn, 1) := by decide +kernel
theorem dX6_mayBe_0 : decode cX6_mayBe 0 = .ok (.iload_n 2, 1) := by decide +kernel
theorem dX6_mayBe_1 : decode cX6_mayBe 1 = .ok (.tableswitch 98 1 4 #[31, 37, 70, 81], 31) := by decide +kernel
theorem dX6_mayBe_32 : decode cX6_mayBe 32 = .ok (.aload_n 0, 1) := by decide +kernel
theorem dX6_mayBe_33 : decode cX6_mayBe 33 = .ok (.iload_n 3, 1) := by decide +kernel
theorem dX6_mayBe_34 : decode cX6_mayBe 34 = .ok (.invokevirtual 45, 3) := by decide +kernel
theorem dX6_mayBe_37 : decode cX6_mayBe 37 = .ok (.ireturn, 1) := by decide +kernel
theorem dX6_mayBe_38 : decode cX6_mayBe 38 = .ok (.iload_n 3, 1) := by decide +kernel
theorem dX6_mayBe_39 : decode cX6_mayBe 39 = .ok (.i2l, 1) := by decide +kernel
theorem dX6_mayBe_40 : decode cX6_mayBe 40 = .ok (.ldc2_w 245, 3) := by decide +kernel
theorem dX6_mayBe_43 : decode cX6_mayBe 43 = .ok (.ldc2_w 194, 3) := by decide +kernel
theorem dX6_mayBe_46 : decode cX6_mayBe 46 = .ok (.invokestatic 41, 3) := by decide +kernel
theorem dX6_mayBe_49 : decode cX6_mayBe 49 = .ok (.ifCond .eq 20, 3) := by decide +kernel
theorem dX6_mayBe_52 : decode cX6_mayBe 52 = .ok (.iload_n 3, 1) := by decide +kernel
theorem dX6_mayBe_53 : decode cX6_mayBe 53 = .ok (.aload_n 0, 1) := by decide +kernel
theorem dX6_mayBe_54 : decode cX6_mayBe 54 = .ok (.iload_n 1, 1) := by decide +kernel
theorem dX6_mayBe_55 : decode cX6_mayBe 55 = .ok (.iconst 3, 1) := by decide +kernel
theorem dX6_mayBe_56 : decode cX6_mayBe 56 = .ok (.invokevirtual 53, 3) := by decide +kernel
theorem dX6_mayBe_59 : decode cX6_mayBe 59 = .ok (.invokestatic 199, 3) := by decide +kernel
theorem dX6_mayBe_62 : decode cX6_mayBe 62 = .ok (.ifCond .eq 7, 3) := by decide +kernel
theorem dX6_mayBe_65 : decode cX6_mayBe 65 = .ok (.iconst 1, 1) := by decide +kernel
theorem dX6_mayBe_66 : decode cX6_mayBe 66 = .ok (.goto 4, 3) := by decide +kernel
theorem dX6_mayBe_69 : decode cX6_mayBe 69 = .ok (.iconst 0, 1) := by decide +kernel
theorem dX6_mayBe_70 : decode cX6_mayBe 70 = .ok (.ireturn, 1) := by decide +kernel
theorem dX6_mayBe_71 : decode cX6_mayBe 71 = .ok (.aload_n 0, 1) := by decide +kernel
theorem dX6_mayBe_72 : decode cX6_mayBe 72 = .ok (.iload_n 1, 1) := by decide +kernel
theorem dX6_mayBe_73 : decode cX6_mayBe 73 = .ok (.iconst 2, 1) := by decide +kernel
theorem dX6_mayBe_74 : decode cX6_mayBe 74 = .ok (.invokevirtual 53, 3) := by decide +kernel
theorem dX6_mayBe_77 : decode cX6_mayBe 77 = .ok (.iload_n 3, 1) := by decide +kernel
theorem dX6_mayBe_78 : decode cX6_mayBe 78 = .ok (.invokestatic 199, 3) := by decide +kernel
theorem dX6_mayBe_81 : decode cX6_mayBe 81 = .ok (.ireturn, 1) := by decide +kernel
theorem dX6_mayBe_82 : decode cX6_mayBe 82 = .ok (.aload_n 0, 1) := by decide +kernel
theorem dX6_mayBe_83 : decode cX6_mayBe 83 = .ok (.iload_n 1, 1) := by decide +kernel
theorem dX6_mayBe_84 : decode cX6_mayBe 84 = .ok (.iconst 0, 1) := by decide +kernel
theorem dX6_mayBe_85 : decode cX6_mayBe 85 = .ok (.invokevirtual 53, 3) := by decide +kernel
theorem dX6_mayBe_88 : decode cX6_mayBe 88 = .ok (.iload_n 3, 1) := by decide +kernel
theorem dX6_mayBe_89 : decode cX6_mayBe 89 = .ok (.aload_n 0, 1) := by decide +kernel
theorem dX6_mayBe_90 : decode cX6_mayBe 90 = .ok (.getfield 7, 3) := by decide +kernel
theorem dX6_mayBe_93 : decode cX6_mayBe 93 = .ok (.iconst 1, 1) := by decide +kernel
theorem dX6_mayBe_94 : decode cX6_mayBe 94 = .ok (.iaload, 1) := by decide +kernel
theorem dX6_mayBe_95 : decode cX6_mayBe 95 = .ok (.invokestatic 202, 3) := by decide +kernel
theorem dX6_mayBe_98 : decode cX6_mayBe 98 = .ok (.ireturn, 1) := by decide +kernel
theorem dX6_mayBe_99 : decode cX6_mayBe 99 = .ok (.iconst 0, 1) := by decide +kernel
theorem dX6_mayBe_100 : decode cX6_mayBe 100 = .ok (.ireturn, 1) := by decide +kernel
theorem dX6_change_0 : decode cX6_change 0 = .ok (.aload_n 0, 1) := by decide +kernel
theorem dX6_change_1 : decode cX6_change 1 = .ok (.iload_n 1, 1) := by decide +kernel
theorem dX6_change_2 : decode cX6_change 2 = .ok (.invokevirtual 247, 3) := by decide +kernel
theorem dX6_change_5 : decode cX6_change 5 = .ok (.ifCond .eq 13, 3) := by decide +kernel
theorem dX6_change_8 : decode cX6_change 8 = .ok (.aload_n 0, 1) := by decide +kernel
theorem dX6_change_9 : decode cX6_change 9 = .ok (.iload_n 1, 1) := by decide +kernel
theorem dX6_change_10 : decode cX6_change 10 = .ok (.iload_n 2, 1) := by decide +kernel
theorem dX6_change_11 : decode cX6_change 11 = .ok (.iload_n 3, 1) := by decide +kernel
theorem dX6_change_12 : decode cX6_change 12 = .ok (.invokevirtual 250, 3) := by decide +kernel
theorem dX6_change_15 : decode cX6_change 15 = .ok (.ifCond .ne 6, 3) := by decide +kernel
theorem dX6_change_18 : decode cX6_change 18 = .ok (.ldc 207, 2) := by decide +kernel
theorem dX6_change_20 : decode cX6_change 20 = .ok (.ireturn, 1) := by decide +kernel
theorem dX6_change_21 : decode cX6_change 21 = .ok (.aload_n 0, 1) := by decide +kernel
theorem dX6_change_22 : decode cX6_change 22 = .ok (.invokevirtual 234, 3) := by decide +kernel
theorem dX6_change_25 : decode cX6_change 25 = .ok (.aload_n 0, 1) := by decide +kernel
theorem dX6_change_26 : decode cX6_change 26 = .ok (.iload_n 1, 1) := by decide +kernel
theorem dX6_change_27 : decode cX6_change 27 = .ok (.iload_n 2, 1) := by decide +kernel
theorem dX6_change_28 : decode cX6_change 28 = .ok (.invokevirtual 53, 3) := by decide +kernel
theorem dX6_change_31 : decode cX6_change 31 = .ok (.istore 4, 2) := by decide +kernel
theorem dX6_change_33 : decode cX6_change 33 = .ok (.aload_n 0, 1) := by decide +kernel
theorem dX6_change_34 : decode cX6_change 34 = .ok (.getfield 7, 3) := by decide +kernel
theorem dX6_change_37 : decode cX6_change 37 = .ok (.bipush 119, 2) := by decide +kernel
theorem dX6_change_39 : decode cX6_change 39 = .ok (.iconst 5, 1) := by decide +kernel
theorem dX6_change_40 : decode cX6_change 40 = .ok (.iload_n 1, 1) := by decide +kernel
theorem dX6_change_41 : decode cX6_change 41 = .ok (.imul, 1) := by decide +kernel
theorem dX6_change_42 : decode cX6_change 42 = .ok (.iadd, 1) := by decide +kernel
theorem dX6_change_43 : decode cX6_change 43 = .ok (.iload_n 2, 1) := by decide +kernel
theorem dX6_change_44 : decode cX6_change 44 = .ok (.iadd, 1) := by decide +kernel
theorem dX6_change_45 : decode cX6_change 45 = .ok (.iload_n 3, 1) := by decide +kernel
theorem dX6_change_46 : decode cX6_change 46 = .ok (.iastore, 1) := by decide +kernel
theorem dX6_change_47 : decode cX6_change 47 = .ok (.iload 4, 2) := by decide +kernel
theorem dX6_change_49 : decode cX6_change 49 = .ok (.ireturn, 1) := by decide +kernel
theorem dX6_act_0 : decode cX6_act 0 = .ok (.aload_n 0, 1) := by decide +kernel
theorem dX6_act_1 : decode cX6_act 1 = .ok (.iload_n 1, 1) := by decide +kernel
theorem dX6_act_2 : decode cX6_act 2 = .ok (.iload_n 2, 1) := by decide +kernel
theorem dX6_act_3 : decode cX6_act 3 = .ok (.invokevirtual 237, 3) := by decide +kernel
theorem dX6_act_6 : decode cX6_act 6 = .ok (.ifCond .eq 25, 3) := by decide +kernel
theorem dX6_act_9 : decode cX6_act 9 = .ok (.iload_n 3, 1) := by decide +kernel
theorem dX6_act_10 : decode cX6_act 10 = .ok (.i2l, 1) := by decide +kernel
theorem dX6_act_11 : decode cX6_act 11 = .ok (.lconst 0, 1) := by decide +kernel
theorem dX6_act_12 : decode cX6_act 12 = .ok (.ldc2_w 240, 3) := by decide +kernel
theorem dX6_act_15 : decode cX6_act 15 = .ok (.invokestatic 41, 3) := by decide +kernel
theorem dX6_act_18 : decode cX6_act 18 = .ok (.ifCond .eq 13, 3) := by decide +kernel
theorem dX6_act_21 : decode cX6_act 21 = .ok (.aload_n 0, 1) := by decide +kernel
theorem dX6_act_22 : decode cX6_act 22 = .ok (.iload_n 1, 1) := by decide +kernel
theorem dX6_act_23 : decode cX6_act 23 = .ok (.iload_n 2, 1) := by decide +kernel
theorem dX6_act_24 : decode cX6_act 24 = .ok (.iload_n 3, 1) := by decide +kernel
theorem dX6_act_25 : decode cX6_act 25 = .ok (.invokevirtual 49, 3) := by decide +kernel
theorem dX6_act_28 : decode cX6_act 28 = .ok (.goto 5, 3) := by decide +kernel
theorem dX6_act_31 : decode cX6_act 31 = .ok (.ldc 207, 2) := by decide +kernel
theorem dX6_act_33 : decode cX6_act 33 = .ok (.ireturn, 1) := by decide +kernel
theorem dX6_decides_0 : decode cX6_decides 0 = .ok (.aload_n 0, 1) := by decide +kernel
theorem dX6_decides_1 : decode cX6_decides 1 = .ok (.iload_n 2, 1) := by decide +kernel
theorem dX6_decides_2 : decode cX6_decides 2 = .ok (.iconst 4, 1) := by decide +kernel
theorem dX6_decides_3 : decode cX6_decides 3 = .ok (.invokevirtual 53, 3) := by decide +kernel
theorem dX6_decides_6 : decode cX6_decides 6 = .ok (.istore_n 3, 1) := by decide +kernel
theorem dX6_decides_7 : decode cX6_decides 7 = .ok (.iload_n 3, 1) := by decide +kernel
theorem dX6_decides_8 : decode cX6_decides 8 = .ok (.iconst 1, 1) := by decide +kernel
theorem dX6_decides_9 : decode cX6_decides 9 = .ok (.iload_n 1, 1) := by decide +kernel
theorem dX6_decides_10 : decode cX6_decides 10 = .ok (.ishl, 1) := by decide +kernel
theorem dX6_decides_11 : decode cX6_decides 11 = .ok (.iconst (-1), 1) := by decide +kernel
theorem dX6_decides_12 : decode cX6_decides 12 = .ok (.ixor, 1) := by decide +kernel
theorem dX6_decides_13 : decode cX6_decides 13 = .ok (.iand, 1) := by decide +kernel
theorem dX6_decides_14 : decode cX6_decides 14 = .ok (.istore 4, 2) := by decide +kernel
theorem dX6_decides_16 : decode cX6_decides 16 = .ok (.aload_n 0, 1) := by decide +kernel
theorem dX6_decides_17 : decode cX6_decides 17 = .ok (.iload_n 2, 1) := by decide +kernel
theorem dX6_decides_18 : decode cX6_decides 18 = .ok (.iconst 0, 1) := by decide +kernel
theorem dX6_decides_19 : decode cX6_decides 19 = .ok (.invokevirtual 53, 3) := by decide +kernel
theorem dX6_decides_22 : decode cX6_decides 22 = .ok (.iload 4, 2) := by decide +kernel
theorem dX6_decides_24 : decode cX6_decides 24 = .ok (.aload_n 0, 1) := by decide +kernel
theorem dX6_decides_25 : decode cX6_decides 25 = .ok (.getfield 7, 3) := by decide +kernel
theorem dX6_decides_28 : decode cX6_decides 28 = .ok (.iconst 1, 1) := by decide +kernel
theorem dX6_decides_29 : decode cX6_decides 29 = .ok (.iaload, 1) := by decide +kernel
theorem dX6_decides_30 : decode cX6_decides 30 = .ok (.invokestatic 202, 3) := by decide +kernel
theorem dX6_decides_33 : decode cX6_decides 33 = .ok (.ifCond .ne 5, 3) := by decide +kernel
theorem dX6_decides_36 : decode cX6_decides 36 = .ok (.iconst 1, 1) := by decide +kernel
theorem dX6_decides_37 : decode cX6_decides 37 = .ok (.ireturn, 1) := by decide +kernel
theorem dX6_decides_38 : decode cX6_decides 38 = .ok (.iconst 0, 1) := by decide +kernel
theorem dX6_decides_39 : decode cX6_decides 39 = .ok (.istore 5, 2) := by decide +kernel
theorem dX6_decides_41 : decode cX6_decides 41 = .ok (.iconst 0, 1) := by decide +kernel
theorem dX6_decides_42 : decode cX6_decides 42 = .ok (.istore 6, 2) := by decide +kernel
theorem dX6_decides_44 : decode cX6_decides 44 = .ok (.iload 6, 2) := by decide +kernel
theorem dX6_decides_46 : decode cX6_decides 46 = .ok (.aload_n 0, 1) := by decide +kernel
theorem dX6_decides_47 : decode cX6_decides 47 = .ok (.getfield 7, 3) := by decide +kernel
theorem dX6_decides_50 : decode cX6_decides 50 = .ok (.iconst 0, 1) := by decide +kernel
theorem dX6_decides_51 : decode cX6_decides 51 = .ok (.iaload, 1) := by decide +kernel
theorem dX6_decides_52 : decode cX6_decides 52 = .ok (.if_icmp .ge 94, 3) := by decide +kernel
theorem dX6_decides_55 : decode cX6_decides 55 = .ok (.aload_n 0, 1) := by decide +kernel
theorem dX6_decides_56 : decode cX6_decides 56 = .ok (.iload_n 2, 1) := by decide +kernel
theorem dX6_decides_57 : decode cX6_decides 57 = .ok (.iload 6, 2) := by decide +kernel
theorem dX6_decides_59 : decode cX6_decides 59 = .ok (.invokevirtual 253, 3) := by decide +kernel
theorem dX6_decides_62 : decode cX6_decides 62 = .ok (.aload_n 0, 1) := by decide +kernel
theorem dX6_decides_63 : decode cX6_decides 63 = .ok (.getfield 124, 3) := by decide +kernel
theorem dX6_decides_66 : decode cX6_decides 66 = .ok (.istore 7, 2) := by decide +kernel
theorem dX6_decides_68 : decode cX6_decides 68 = .ok (.aload_n 0, 1) := by decide +kernel
theorem dX6_decides_69 : decode cX6_decides 69 = .ok (.getfield 127, 3) := by decide +kernel
theorem dX6_decides_72 : decode cX6_decides 72 = .ok (.istore 8, 2) := by decide +kernel
theorem dX6_decides_74 : decode cX6_decides 74 = .ok (.aload_n 0, 1) := by decide +kernel
theorem dX6_decides_75 : decode cX6_decides 75 = .ok (.getfield 7, 3) := by decide +kernel
theorem dX6_decides_78 : decode cX6_decides 78 = .ok (.bipush 119, 2) := by decide +kernel
theorem dX6_decides_80 : decode cX6_decides 80 = .ok (.iconst 5, 1) := by decide +kernel
theorem dX6_decides_81 : decode cX6_decides 81 = .ok (.iload_n 2, 1) := by decide +kernel
theorem dX6_decides_82 : decode cX6_decides 82 = .ok (.imul, 1) := by decide +kernel
theorem dX6_decides_83 : decode cX6_decides 83 = .ok (.iadd, 1) := by decide +kernel
theorem dX6_decides_84 : decode cX6_decides 84 = .ok (.iconst 4, 1) := by decide +kernel
theorem dX6_decides_85 : decode cX6_decides 85 = .ok (.iadd, 1) := by decide +kernel
theorem dX6_decides_86 : decode cX6_decides 86 = .ok (.iload 4, 2) := by decide +kernel
theorem dX6_decides_88 : decode cX6_decides 88 = .ok (.iastore, 1) := by decide +kernel
theorem dX6_decides_89 : decode cX6_decides 89 = .ok (.aload_n 0, 1) := by decide +kernel
theorem dX6_decides_90 : decode cX6_decides 90 = .ok (.iload_n 2, 1) := by decide +kernel
theorem dX6_decides_91 : decode cX6_decides 91 = .ok (.iload 6, 2) := by decide +kernel
theorem dX6_decides_93 : decode cX6_decides 93 = .ok (.invokevirtual 253, 3) := by decide +kernel
theorem dX6_decides_96 : decode cX6_decides 96 = .ok (.aload_n 0, 1) := by decide +kernel
theorem dX6_decides_97 : decode cX6_decides 97 = .ok (.getfield 7, 3) := by decide +kernel
theorem dX6_decides_100 : decode cX6_decides 100 = .ok (.bipush 119, 2) := by decide +kernel
theorem dX6_decides_102 : decode cX6_decides 102 = .ok (.iconst 5, 1) := by decide +kernel
theorem dX6_decides_103 : decode cX6_decides 103 = .ok (.iload_n 2, 1) := by decide +kernel
theorem dX6_decides_104 : decode cX6_decides 104 = .ok (.imul, 1) := by decide +kernel
theorem dX6_decides_105 : decode cX6_decides 105 = .ok (.iadd, 1) := by decide +kernel
theorem dX6_decides_106 : decode cX6_decides 106 = .ok (.iconst 4, 1) := by decide +kernel
theorem dX6_decides_107 : decode cX6_decides 107 = .ok (.iadd, 1) := by decide +kernel
theorem dX6_decides_108 : decode cX6_decides 108 = .ok (.iload_n 3, 1) := by decide +kernel
theorem dX6_decides_109 : decode cX6_decides 109 = .ok (.iastore, 1) := by decide +kernel
theorem dX6_decides_110 : decode cX6_decides 110 = .ok (.iload 5, 2) := by decide +kernel
theorem dX6_decides_112 : decode cX6_decides 112 = .ok (.ifCond .ne 21, 3) := by decide +kernel
theorem dX6_decides_115 : decode cX6_decides 115 = .ok (.iload 7, 2) := by decide +kernel
theorem dX6_decides_117 : decode cX6_decides 117 = .ok (.aload_n 0, 1) := by decide +kernel
theorem dX6_decides_118 : decode cX6_decides 118 = .ok (.getfield 124, 3) := by decide +kernel
theorem dX6_decides_121 : decode cX6_decides 121 = .ok (.if_icmp .ne 12, 3) := by decide +kernel
theorem dX6_decides_124 : decode cX6_decides 124 = .ok (.iload 8, 2) := by decide +kernel
theorem dX6_decides_126 : decode cX6_decides 126 = .ok (.aload_n 0, 1) := by decide +kernel
theorem dX6_decides_127 : decode cX6_decides 127 = .ok (.getfield 127, 3) := by decide +kernel
theorem dX6_decides_130 : decode cX6_decides 130 = .ok (.if_icmp .eq 7, 3) := by decide +kernel
theorem dX6_decides_133 : decode cX6_decides 133 = .ok (.iconst 1, 1) := by decide +kernel
theorem dX6_decides_134 : decode cX6_decides 134 = .ok (.goto 4, 3) := by decide +kernel
theorem dX6_decides_137 : decode cX6_decides 137 = .ok (.iconst 0, 1) := by decide +kernel
theorem dX6_decides_138 : decode cX6_decides 138 = .ok (.istore 5, 2) := by decide +kernel
theorem dX6_decides_140 : decode cX6_decides 140 = .ok (.iinc 6 1, 3) := by decide +kernel
theorem dX6_decides_143 : decode cX6_decides 143 = .ok (.goto (-99), 3) := by decide +kernel
theorem dX6_decides_146 : decode cX6_decides 146 = .ok (.iload 5, 2) := by decide +kernel
theorem dX6_decides_148 : decode cX6_decides 148 = .ok (.ireturn, 1) := by decide +kernel
theorem dX6_worksOf_0 : decode cX6_worksOf 0 = .ok (.iconst 0, 1) := by decide +kernel
theorem dX6_worksOf_1 : decode cX6_worksOf 1 = .ok (.istore_n 3, 1) := by decide +kernel
theorem dX6_worksOf_2 : decode cX6_worksOf 2 = .ok (.iconst 0, 1) := by decide +kernel
theorem dX6_worksOf_3 : decode cX6_worksOf 3 = .ok (.istore 4, 2) := by decide +kernel
theorem dX6_worksOf_5 : decode cX6_worksOf 5 = .ok (.iload 4, 2) := by decide +kernel
theorem dX6_worksOf_7 : decode cX6_worksOf 7 = .ok (.aload_n 0, 1) := by decide +kernel
theorem dX6_worksOf_8 : decode cX6_worksOf 8 = .ok (.getfield 7, 3) := by decide +kernel
theorem dX6_worksOf_11 : decode cX6_worksOf 11 = .ok (.iconst 2, 1) := by decide +kernel
theorem dX6_worksOf_12 : decode cX6_worksOf 12 = .ok (.iaload, 1) := by decide +kernel
theorem dX6_worksOf_13 : decode cX6_worksOf 13 = .ok (.if_icmp .ge 49, 3) := by decide +kernel
theorem dX6_worksOf_16 : decode cX6_worksOf 16 = .ok (.aload_n 0, 1) := by decide +kernel
theorem dX6_worksOf_17 : decode cX6_worksOf 17 = .ok (.iload 4, 2) := by decide +kernel
theorem dX6_worksOf_19 : decode cX6_worksOf 19 = .ok (.iconst 4, 1) := by decide +kernel
theorem dX6_worksOf_20 : decode cX6_worksOf 20 = .ok (.invokevirtual 53, 3) := by decide +kernel
theorem dX6_worksOf_23 : decode cX6_worksOf 23 = .ok (.iload_n 1, 1) := by decide +kernel
theorem dX6_worksOf_24 : decode cX6_worksOf 24 = .ok (.invokestatic 65, 3) := by decide +kernel
theorem dX6_worksOf_27 : decode cX6_worksOf 27 = .ok (.istore 5, 2) := by decide +kernel
theorem dX6_worksOf_29 : decode cX6_worksOf 29 = .ok (.iload_n 3, 1) := by decide +kernel
theorem dX6_worksOf_30 : decode cX6_worksOf 30 = .ok (.iload 5, 2) := by decide +kernel
theorem dX6_worksOf_32 : decode cX6_worksOf 32 = .ok (.ifCond .eq 21, 3) := by decide +kernel
theorem dX6_worksOf_35 : decode cX6_worksOf 35 = .ok (.iload_n 2, 1) := by decide +kernel
theorem dX6_worksOf_36 : decode cX6_worksOf 36 = .ok (.ifCond .eq 13, 3) := by decide +kernel
theorem dX6_worksOf_39 : decode cX6_worksOf 39 = .ok (.aload_n 0, 1) := by decide +kernel
theorem dX6_worksOf_40 : decode cX6_worksOf 40 = .ok (.iload_n 1, 1) := by decide +kernel
theorem dX6_worksOf_41 : decode cX6_worksOf 41 = .ok (.iload 4, 2) := by decide +kernel
theorem dX6_worksOf_43 : decode cX6_worksOf 43 = .ok (.invokevirtual 256, 3) := by decide +kernel
theorem dX6_worksOf_46 : decode cX6_worksOf 46 = .ok (.ifCond .eq 7, 3) := by decide +kernel
theorem dX6_worksOf_49 : decode cX6_worksOf 49 = .ok (.iconst 1, 1) := by decide +kernel
theorem dX6_worksOf_50 : decode cX6_worksOf 50 = .ok (.goto 4, 3) := by decide +kernel
theorem dX6_worksOf_53 : decode cX6_worksOf 53 = .ok (.iconst 0, 1) := by decide +kernel
theorem dX6_worksOf_54 : decode cX6_worksOf 54 = .ok (.iadd, 1) := by decide +kernel
theorem dX6_worksOf_55 : decode cX6_worksOf 55 = .ok (.istore_n 3, 1) := by decide +kernel
theorem dX6_worksOf_56 : decode cX6_worksOf 56 = .ok (.iinc 4 1, 3) := by decide +kernel
theorem dX6_worksOf_59 : decode cX6_worksOf 59 = .ok (.goto (-54), 3) := by decide +kernel
theorem dX6_worksOf_62 : decode cX6_worksOf 62 = .ok (.iload_n 3, 1) := by decide +kernel
theorem dX6_worksOf_63 : decode cX6_worksOf 63 = .ok (.ireturn, 1) := by decide +kernel
theorem dX6_author_0 : decode cX6_author 0 = .ok (.aload_n 0, 1) := by decide +kernel
theorem dX6_author_1 : decode cX6_author 1 = .ok (.iload_n 1, 1) := by decide +kernel
theorem dX6_author_2 : decode cX6_author 2 = .ok (.invokevirtual 242, 3) := by decide +kernel
theorem dX6_author_5 : decode cX6_author 5 = .ok (.ifCond .ne 6, 3) := by decide +kernel
theorem dX6_author_8 : decode cX6_author 8 = .ok (.ldc 207, 2) := by decide +kernel
theorem dX6_author_10 : decode cX6_author 10 = .ok (.ireturn, 1) := by decide +kernel
theorem dX6_author_11 : decode cX6_author 11 = .ok (.iload_n 2, 1) := by decide +kernel
theorem dX6_author_12 : decode cX6_author 12 = .ok (.tableswitch 58 0 3 #[32, 38, 44, 51], 32) := by decide +kernel
theorem dX6_author_44 : decode cX6_author 44 = .ok (.aload_n 0, 1) := by decide +kernel
theorem dX6_author_45 : decode cX6_author 45 = .ok (.iload_n 1, 1) := by decide +kernel
theorem dX6_author_46 : decode cX6_author 46 = .ok (.invokevirtual 69, 3) := by decide +kernel
theorem dX6_author_49 : decode cX6_author 49 = .ok (.ireturn, 1) := by decide +kernel
theorem dX6_author_50 : decode cX6_author 50 = .ok (.aload_n 0, 1) := by decide +kernel
theorem dX6_author_51 : decode cX6_author 51 = .ok (.iload_n 1, 1) := by decide +kernel
theorem dX6_author_52 : decode cX6_author 52 = .ok (.invokevirtual 73, 3) := by decide +kernel
theorem dX6_author_55 : decode cX6_author 55 = .ok (.ireturn, 1) := by decide +kernel
theorem dX6_author_56 : decode cX6_author 56 = .ok (.aload_n 0, 1) := by decide +kernel
theorem dX6_author_57 : decode cX6_author 57 = .ok (.iload_n 1, 1) := by decide +kernel
theorem dX6_author_58 : decode cX6_author 58 = .ok (.iconst 0, 1) := by decide +kernel
theorem dX6_author_59 : decode cX6_author 59 = .ok (.invokevirtual 259, 3) := by decide +kernel
theorem dX6_author_62 : decode cX6_author 62 = .ok (.ireturn, 1) := by decide +kernel
theorem dX6_author_63 : decode cX6_author 63 = .ok (.aload_n 0, 1) := by decide +kernel
theorem dX6_author_64 : decode cX6_author 64 = .ok (.iload_n 1, 1) := by decide +kernel
theorem dX6_author_65 : decode cX6_author 65 = .ok (.iconst 1, 1) := by decide +kernel
theorem dX6_author_66 : decode cX6_author 66 = .ok (.invokevirtual 259, 3) := by decide +kernel
theorem dX6_author_69 : decode cX6_author 69 = .ok (.ireturn, 1) := by decide +kernel
theorem dX6_author_70 : decode cX6_author 70 = .ok (.ldc 207, 2) := by decide +kernel
theorem dX6_author_72 : decode cX6_author 72 = .ok (.ireturn, 1) := by decide +kernel
theorem dX6_work_0 : decode cX6_work 0 = .ok (.aload_n 0, 1) := by decide +kernel
theorem dX6_work_1 : decode cX6_work 1 = .ok (.iload_n 1, 1) := by decide +kernel
theorem dX6_work_2 : decode cX6_work 2 = .ok (.invokevirtual 247, 3) := by decide +kernel
theorem dX6_work_5 : decode cX6_work 5 = .ok (.ifCond .eq 24, 3) := by decide +kernel
theorem dX6_work_8 : decode cX6_work 8 = .ok (.iload_n 2, 1) := by decide +kernel
theorem dX6_work_9 : decode cX6_work 9 = .ok (.i2l, 1) := by decide +kernel
theorem dX6_work_10 : decode cX6_work 10 = .ok (.lconst 0, 1) := by decide +kernel
theorem dX6_work_11 : decode cX6_work 11 = .ok (.ldc2_w 262, 3) := by decide +kernel
theorem dX6_work_14 : decode cX6_work 14 = .ok (.invokestatic 41, 3) := by decide +kernel
theorem dX6_work_17 : decode cX6_work 17 = .ok (.ifCond .eq 12, 3) := by decide +kernel
theorem dX6_work_20 : decode cX6_work 20 = .ok (.aload_n 0, 1) := by decide +kernel
theorem dX6_work_21 : decode cX6_work 21 = .ok (.iload_n 1, 1) := by decide +kernel
theorem dX6_work_22 : decode cX6_work 22 = .ok (.iload_n 2, 1) := by decide +kernel
theorem dX6_work_23 : decode cX6_work 23 = .ok (.invokevirtual 53, 3) := by decide +kernel
theorem dX6_work_26 : decode cX6_work 26 = .ok (.goto 5, 3) := by decide +kernel
theorem dX6_work_29 : decode cX6_work 29 = .ok (.ldc 207, 2) := by decide +kernel
theorem dX6_work_31 : decode cX6_work 31 = .ok (.ireturn, 1) := by decide +kernel
theorem dX6_as_0 : decode cX6_as 0 = .ok (.aload_n 0, 1) := by decide +kernel
theorem dX6_as_1 : decode cX6_as 1 = .ok (.iload_n 1, 1) := by decide +kernel
theorem dX6_as_2 : decode cX6_as 2 = .ok (.invokevirtual 247, 3) := by decide +kernel
theorem dX6_as_5 : decode cX6_as 5 = .ok (.ifCond .eq 15, 3) := by decide +kernel
theorem dX6_as_8 : decode cX6_as 8 = .ok (.iload_n 2, 1) := by decide +kernel
theorem dX6_as_9 : decode cX6_as 9 = .ok (.i2l, 1) := by decide +kernel
theorem dX6_as_10 : decode cX6_as 10 = .ok (.lconst 0, 1) := by decide +kernel
theorem dX6_as_11 : decode cX6_as 11 = .ok (.ldc2_w 240, 3) := by decide +kernel
theorem dX6_as_14 : decode cX6_as 14 = .ok (.invokestatic 41, 3) := by decide +kernel
theorem dX6_as_17 : decode cX6_as 17 = .ok (.ifCond .ne 6, 3) := by decide +kernel
theorem dX6_as_20 : decode cX6_as 20 = .ok (.ldc 207, 2) := by decide +kernel
theorem dX6_as_22 : decode cX6_as 22 = .ok (.ireturn, 1) := by decide +kernel
theorem dX6_as_23 : decode cX6_as 23 = .ok (.aload_n 0, 1) := by decide +kernel
theorem dX6_as_24 : decode cX6_as 24 = .ok (.iload_n 1, 1) := by decide +kernel
theorem dX6_as_25 : decode cX6_as 25 = .ok (.iconst 0, 1) := by decide +kernel
theorem dX6_as_26 : decode cX6_as 26 = .ok (.invokevirtual 53, 3) := by decide +kernel
theorem dX6_as_29 : decode cX6_as 29 = .ok (.istore_n 3, 1) := by decide +kernel
theorem dX6_as_30 : decode cX6_as 30 = .ok (.iload_n 2, 1) := by decide +kernel
theorem dX6_as_31 : decode cX6_as 31 = .ok (.ifCond .eq 18, 3) := by decide +kernel
theorem dX6_as_34 : decode cX6_as 34 = .ok (.iload_n 2, 1) := by decide +kernel
theorem dX6_as_35 : decode cX6_as 35 = .ok (.iload_n 3, 1) := by decide +kernel
theorem dX6_as_36 : decode cX6_as 36 = .ok (.if_icmp .eq 13, 3) := by decide +kernel
theorem dX6_as_39 : decode cX6_as 39 = .ok (.iload_n 2, 1) := by decide +kernel
theorem dX6_as_40 : decode cX6_as 40 = .ok (.iconst 1, 1) := by decide +kernel
theorem dX6_as_41 : decode cX6_as 41 = .ok (.if_icmp .ne 12, 3) := by decide +kernel
theorem dX6_as_44 : decode cX6_as 44 = .ok (.iload_n 3, 1) := by decide +kernel
theorem dX6_as_45 : decode cX6_as 45 = .ok (.iconst 2, 1) := by decide +kernel
theorem dX6_as_46 : decode cX6_as 46 = .ok (.if_icmp .ne 7, 3) := by decide +kernel
theorem dX6_as_49 : decode cX6_as 49 = .ok (.iload_n 1, 1) := by decide +kernel
theorem dX6_as_50 : decode cX6_as 50 = .ok (.goto 5, 3) := by decide +kernel
theorem dX6_as_53 : decode cX6_as 53 = .ok (.ldc 103, 2) := by decide +kernel
theorem dX6_as_55 : decode cX6_as 55 = .ok (.ireturn, 1) := by decide +kernel
theorem dX6_isYear_0 : decode cX6_isYear 0 = .ok (.iload_n 0, 1) := by decide +kernel
theorem dX6_isYear_1 : decode cX6_isYear 1 = .ok (.i2l, 1) := by decide +kernel
theorem dX6_isYear_2 : decode cX6_isYear 2 = .ok (.ldc2_w 245, 3) := by decide +kernel
theorem dX6_isYear_5 : decode cX6_isYear 5 = .ok (.ldc2_w 264, 3) := by decide +kernel
theorem dX6_isYear_8 : decode cX6_isYear 8 = .ok (.invokestatic 41, 3) := by decide +kernel
theorem dX6_isYear_11 : decode cX6_isYear 11 = .ok (.ireturn, 1) := by decide +kernel
theorem dX6_inForce_0 : decode cX6_inForce 0 = .ok (.aload_n 0, 1) := by decide +kernel
theorem dX6_inForce_1 : decode cX6_inForce 1 = .ok (.iload_n 1, 1) := by decide +kernel
theorem dX6_inForce_2 : decode cX6_inForce 2 = .ok (.invokevirtual 45, 3) := by decide +kernel
theorem dX6_inForce_5 : decode cX6_inForce 5 = .ok (.ifCond .eq 19, 3) := by decide +kernel
theorem dX6_inForce_8 : decode cX6_inForce 8 = .ok (.iload_n 2, 1) := by decide +kernel
theorem dX6_inForce_9 : decode cX6_inForce 9 = .ok (.invokestatic 266, 3) := by decide +kernel
theorem dX6_inForce_12 : decode cX6_inForce 12 = .ok (.ifCond .eq 12, 3) := by decide +kernel
theorem dX6_inForce_15 : decode cX6_inForce 15 = .ok (.aload_n 0, 1) := by decide +kernel
theorem dX6_inForce_16 : decode cX6_inForce 16 = .ok (.iload_n 1, 1) := by decide +kernel
theorem dX6_inForce_17 : decode cX6_inForce 17 = .ok (.iload_n 2, 1) := by decide +kernel
theorem dX6_inForce_18 : decode cX6_inForce 18 = .ok (.invokevirtual 80, 3) := by decide +kernel
theorem dX6_inForce_21 : decode cX6_inForce 21 = .ok (.goto 5, 3) := by decide +kernel
theorem dX6_inForce_24 : decode cX6_inForce 24 = .ok (.ldc 207, 2) := by decide +kernel
theorem dX6_inForce_26 : decode cX6_inForce 26 = .ok (.ireturn, 1) := by decide +kernel
theorem dX6_term_0 : decode cX6_term 0 = .ok (.aload_n 0, 1) := by decide +kernel
theorem dX6_term_1 : decode cX6_term 1 = .ok (.iload_n 1, 1) := by decide +kernel
theorem dX6_term_2 : decode cX6_term 2 = .ok (.invokevirtual 247, 3) := by decide +kernel
theorem dX6_term_5 : decode cX6_term 5 = .ok (.ifCond .eq 23, 3) := by decide +kernel
theorem dX6_term_8 : decode cX6_term 8 = .ok (.aload_n 0, 1) := by decide +kernel
theorem dX6_term_9 : decode cX6_term 9 = .ok (.iload_n 2, 1) := by decide +kernel
theorem dX6_term_10 : decode cX6_term 10 = .ok (.iload_n 3, 1) := by decide +kernel
theorem dX6_term_11 : decode cX6_term 11 = .ok (.invokevirtual 237, 3) := by decide +kernel
theorem dX6_term_14 : decode cX6_term 14 = .ok (.ifCond .eq 14, 3) := by decide +kernel
theorem dX6_term_17 : decode cX6_term 17 = .ok (.iload 4, 2) := by decide +kernel
theorem dX6_term_19 : decode cX6_term 19 = .ok (.i2l, 1) := by decide +kernel
theorem dX6_term_20 : decode cX6_term 20 = .ok (.lconst 0, 1) := by decide +kernel
theorem dX6_term_21 : decode cX6_term 21 = .ok (.lconst 1, 1) := by decide +kernel
theorem dX6_term_22 : decode cX6_term 22 = .ok (.invokestatic 41, 3) := by decide +kernel
theorem dX6_term_25 : decode cX6_term 25 = .ok (.ifCond .ne 6, 3) := by decide +kernel
theorem dX6_term_28 : decode cX6_term 28 = .ok (.ldc 207, 2) := by decide +kernel
theorem dX6_term_30 : decode cX6_term 30 = .ok (.ireturn, 1) := by decide +kernel
theorem dX6_term_31 : decode cX6_term 31 = .ok (.aload_n 0, 1) := by decide +kernel
theorem dX6_term_32 : decode cX6_term 32 = .ok (.iload_n 1, 1) := by decide +kernel
theorem dX6_term_33 : decode cX6_term 33 = .ok (.iload_n 2, 1) := by decide +kernel
theorem dX6_term_34 : decode cX6_term 34 = .ok (.iload_n 3, 1) := by decide +kernel
theorem dX6_term_35 : decode cX6_term 35 = .ok (.iload 4, 2) := by decide +kernel
theorem dX6_term_37 : decode cX6_term 37 = .ok (.ifCond .ne 7, 3) := by decide +kernel
theorem dX6_term_40 : decode cX6_term 40 = .ok (.iconst 0, 1) := by decide +kernel
theorem dX6_term_41 : decode cX6_term 41 = .ok (.goto 8, 3) := by decide +kernel
theorem dX6_term_44 : decode cX6_term 44 = .ok (.aload_n 0, 1) := by decide +kernel
theorem dX6_term_45 : decode cX6_term 45 = .ok (.iload_n 1, 1) := by decide +kernel
theorem dX6_term_46 : decode cX6_term 46 = .ok (.invokevirtual 113, 3) := by decide +kernel
theorem dX6_term_49 : decode cX6_term 49 = .ok (.invokevirtual 83, 3) := by decide +kernel
theorem dX6_term_52 : decode cX6_term 52 = .ok (.ireturn, 1) := by decide +kernel
theorem dX6_free_0 : decode cX6_free 0 = .ok (.aload_n 0, 1) := by decide +kernel
theorem dX6_free_1 : decode cX6_free 1 = .ok (.iload_n 1, 1) := by decide +kernel
theorem dX6_free_2 : decode cX6_free 2 = .ok (.invokevirtual 247, 3) := by decide +kernel
theorem dX6_free_5 : decode cX6_free 5 = .ok (.ifCond .eq 23, 3) := by decide +kernel
theorem dX6_free_8 : decode cX6_free 8 = .ok (.aload_n 0, 1) := by decide +kernel
theorem dX6_free_9 : decode cX6_free 9 = .ok (.iload_n 2, 1) := by decide +kernel
theorem dX6_free_10 : decode cX6_free 10 = .ok (.invokevirtual 45, 3) := by decide +kernel
theorem dX6_free_13 : decode cX6_free 13 = .ok (.ifCond .eq 15, 3) := by decide +kernel
theorem dX6_free_16 : decode cX6_free 16 = .ok (.iload_n 3, 1) := by decide +kernel
theorem dX6_free_17 : decode cX6_free 17 = .ok (.i2l, 1) := by decide +kernel
theorem dX6_free_18 : decode cX6_free 18 = .ok (.lconst 0, 1) := by decide +kernel
theorem dX6_free_19 : decode cX6_free 19 = .ok (.ldc2_w 262, 3) := by decide +kernel
theorem dX6_free_22 : decode cX6_free 22 = .ok (.invokestatic 41, 3) := by decide +kernel
theorem dX6_free_25 : decode cX6_free 25 = .ok (.ifCond .ne 6, 3) := by decide +kernel
theorem dX6_free_28 : decode cX6_free 28 = .ok (.ldc 207, 2) := by decide +kernel
theorem dX6_free_30 : decode cX6_free 30 = .ok (.ireturn, 1) := by decide +kernel
theorem dX6_free_31 : decode cX6_free 31 = .ok (.iload_n 3, 1) := by decide +kernel
theorem dX6_free_32 : decode cX6_free 32 = .ok (.iconst 2, 1) := by decide +kernel
theorem dX6_free_33 : decode cX6_free 33 = .ok (.if_icmp .ge 25, 3) := by decide +kernel
theorem dX6_free_36 : decode cX6_free 36 = .ok (.aload_n 0, 1) := by decide +kernel
theorem dX6_free_37 : decode cX6_free 37 = .ok (.iload_n 1, 1) := by decide +kernel
theorem dX6_free_38 : decode cX6_free 38 = .ok (.iload_n 2, 1) := by decide +kernel
theorem dX6_free_39 : decode cX6_free 39 = .ok (.invokevirtual 253, 3) := by decide +kernel
theorem dX6_free_42 : decode cX6_free 42 = .ok (.iload_n 3, 1) := by decide +kernel
theorem dX6_free_43 : decode cX6_free 43 = .ok (.ifCond .ne 10, 3) := by decide +kernel
theorem dX6_free_46 : decode cX6_free 46 = .ok (.aload_n 0, 1) := by decide +kernel
theorem dX6_free_47 : decode cX6_free 47 = .ok (.getfield 124, 3) := by decide +kernel
theorem dX6_free_50 : decode cX6_free 50 = .ok (.goto 7, 3) := by decide +kernel
theorem dX6_free_53 : decode cX6_free 53 = .ok (.aload_n 0, 1) := by decide +kernel
theorem dX6_free_54 : decode cX6_free 54 = .ok (.getfield 127, 3) := by decide +kernel
theorem dX6_free_57 : decode cX6_free 57 = .ok (.ireturn, 1) := by decide +kernel
theorem dX6_free_58 : decode cX6_free 58 = .ok (.aload_n 0, 1) := by decide +kernel
theorem dX6_free_59 : decode cX6_free 59 = .ok (.iload_n 1, 1) := by decide +kernel
theorem dX6_free_60 : decode cX6_free 60 = .ok (.iload_n 2, 1) := by decide +kernel
theorem dX6_free_61 : decode cX6_free 61 = .ok (.iconst 0, 1) := by decide +kernel
theorem dX6_free_62 : decode cX6_free 62 = .ok (.invokevirtual 116, 3) := by decide +kernel
theorem dX6_free_65 : decode cX6_free 65 = .ok (.iload_n 3, 1) := by decide +kernel
theorem dX6_free_66 : decode cX6_free 66 = .ok (.iconst 2, 1) := by decide +kernel
theorem dX6_free_67 : decode cX6_free 67 = .ok (.if_icmp .ne 10, 3) := by decide +kernel
theorem dX6_free_70 : decode cX6_free 70 = .ok (.aload_n 0, 1) := by decide +kernel
theorem dX6_free_71 : decode cX6_free 71 = .ok (.getfield 100, 3) := by decide +kernel
theorem dX6_free_74 : decode cX6_free 74 = .ok (.goto 19, 3) := by decide +kernel
theorem dX6_free_77 : decode cX6_free 77 = .ok (.iload_n 3, 1) := by decide +kernel
theorem dX6_free_78 : decode cX6_free 78 = .ok (.iconst 3, 1) := by decide +kernel
theorem dX6_free_79 : decode cX6_free 79 = .ok (.if_icmp .ne 10, 3) := by decide +kernel
theorem dX6_free_82 : decode cX6_free 82 = .ok (.aload_n 0, 1) := by decide +kernel
theorem dX6_free_83 : decode cX6_free 83 = .ok (.getfield 86, 3) := by decide +kernel
theorem dX6_free_86 : decode cX6_free 86 = .ok (.goto 7, 3) := by decide +kernel
theorem dX6_free_89 : decode cX6_free 89 = .ok (.aload_n 0, 1) := by decide +kernel
theorem dX6_free_90 : decode cX6_free 90 = .ok (.getfield 104, 3) := by decide +kernel
theorem dX6_free_93 : decode cX6_free 93 = .ok (.ireturn, 1) := by decide +kernel
theorem dX6_isProtected_0 : decode cX6_isProtected 0 = .ok (.aload_n 0, 1) := by decide +kernel
theorem dX6_isProtected_1 : decode cX6_isProtected 1 = .ok (.iload_n 1, 1) := by decide +kernel
theorem dX6_isProtected_2 : decode cX6_isProtected 2 = .ok (.invokevirtual 247, 3) := by decide +kernel
theorem dX6_isProtected_5 : decode cX6_isProtected 5 = .ok (.ifCond .eq 18, 3) := by decide +kernel
theorem dX6_isProtected_8 : decode cX6_isProtected 8 = .ok (.aload_n 0, 1) := by decide +kernel
theorem dX6_isProtected_9 : decode cX6_isProtected 9 = .ok (.iload_n 2, 1) := by decide +kernel
theorem dX6_isProtected_10 : decode cX6_isProtected 10 = .ok (.invokevirtual 45, 3) := by decide +kernel
theorem dX6_isProtected_13 : decode cX6_isProtected 13 = .ok (.ifCond .eq 10, 3) := by decide +kernel
theorem dX6_isProtected_16 : decode cX6_isProtected 16 = .ok (.iload_n 3, 1) := by decide +kernel
theorem dX6_isProtected_17 : decode cX6_isProtected 17 = .ok (.invokestatic 266, 3) := by decide +kernel
theorem dX6_isProtected_20 : decode cX6_isProtected 20 = .ok (.ifCond .ne 6, 3) := by decide +kernel
theorem dX6_isProtected_23 : decode cX6_isProtected 23 = .ok (.ldc 207, 2) := by decide +kernel
theorem dX6_isProtected_25 : decode cX6_isProtected 25 = .ok (.ireturn, 1) := by decide +kernel
theorem dX6_isProtected_26 : decode cX6_isProtected 26 = .ok (.aload_n 0, 1) := by decide +kernel
theorem dX6_isProtected_27 : decode cX6_isProtected 27 = .ok (.iload_n 1, 1) := by decide +kernel
theorem dX6_isProtected_28 : decode cX6_isProtected 28 = .ok (.invokevirtual 113, 3) := by decide +kernel
theorem dX6_isProtected_31 : decode cX6_isProtected 31 = .ok (.istore 4, 2) := by decide +kernel
theorem dX6_isProtected_33 : decode cX6_isProtected 33 = .ok (.iconst 0, 1) := by decide +kernel
theorem dX6_isProtected_34 : decode cX6_isProtected 34 = .ok (.istore 5, 2) := by decide +kernel
theorem dX6_isProtected_36 : decode cX6_isProtected 36 = .ok (.iconst 0, 1) := by decide +kernel
theorem dX6_isProtected_37 : decode cX6_isProtected 37 = .ok (.istore 6, 2) := by decide +kernel
theorem dX6_isProtected_39 : decode cX6_isProtected 39 = .ok (.iload 6, 2) := by decide +kernel
theorem dX6_isProtected_41 : decode cX6_isProtected 41 = .ok (.iload 4, 2) := by decide +kernel
theorem dX6_isProtected_43 : decode cX6_isProtected 43 = .ok (.if_icmp .gt 36, 3) := by decide +kernel
theorem dX6_isProtected_46 : decode cX6_isProtected 46 = .ok (.aload_n 0, 1) := by decide +kernel
theorem dX6_isProtected_47 : decode cX6_isProtected 47 = .ok (.iload_n 1, 1) := by decide +kernel
theorem dX6_isProtected_48 : decode cX6_isProtected 48 = .ok (.iload_n 2, 1) := by decide +kernel
theorem dX6_isProtected_49 : decode cX6_isProtected 49 = .ok (.iload 6, 2) := by decide +kernel
theorem dX6_isProtected_51 : decode cX6_isProtected 51 = .ok (.invokevirtual 116, 3) := by decide +kernel
theorem dX6_isProtected_54 : decode cX6_isProtected 54 = .ok (.iload 5, 2) := by decide +kernel
theorem dX6_isProtected_56 : decode cX6_isProtected 56 = .ok (.aload_n 0, 1) := by decide +kernel
theorem dX6_isProtected_57 : decode cX6_isProtected 57 = .ok (.iload_n 1, 1) := by decide +kernel
theorem dX6_isProtected_58 : decode cX6_isProtected 58 = .ok (.iload_n 3, 1) := by decide +kernel
theorem dX6_isProtected_59 : decode cX6_isProtected 59 = .ok (.invokevirtual 269, 3) := by decide +kernel
theorem dX6_isProtected_62 : decode cX6_isProtected 62 = .ok (.ifCond .eq 7, 3) := by decide +kernel
theorem dX6_isProtected_65 : decode cX6_isProtected 65 = .ok (.iconst 1, 1) := by decide +kernel
theorem dX6_isProtected_66 : decode cX6_isProtected 66 = .ok (.goto 4, 3) := by decide +kernel
theorem dX6_isProtected_69 : decode cX6_isProtected 69 = .ok (.iconst 0, 1) := by decide +kernel
theorem dX6_isProtected_70 : decode cX6_isProtected 70 = .ok (.iadd, 1) := by decide +kernel
theorem dX6_isProtected_71 : decode cX6_isProtected 71 = .ok (.istore 5, 2) := by decide +kernel
theorem dX6_isProtected_73 : decode cX6_isProtected 73 = .ok (.iinc 6 1, 3) := by decide +kernel
theorem dX6_isProtected_76 : decode cX6_isProtected 76 = .ok (.goto (-37), 3) := by decide +kernel
theorem dX6_isProtected_79 : decode cX6_isProtected 79 = .ok (.iload 5, 2) := by decide +kernel
theorem dX6_isProtected_81 : decode cX6_isProtected 81 = .ok (.ifCond .ne 7, 3) := by decide +kernel
theorem dX6_isProtected_84 : decode cX6_isProtected 84 = .ok (.iconst 0, 1) := by decide +kernel
theorem dX6_isProtected_85 : decode cX6_isProtected 85 = .ok (.goto 17, 3) := by decide +kernel
theorem dX6_isProtected_88 : decode cX6_isProtected 88 = .ok (.iload 5, 2) := by decide +kernel
theorem dX6_isProtected_90 : decode cX6_isProtected 90 = .ok (.iload 4, 2) := by decide +kernel
theorem dX6_isProtected_92 : decode cX6_isProtected 92 = .ok (.iconst 1, 1) := by decide +kernel
theorem dX6_isProtected_93 : decode cX6_isProtected 93 = .ok (.iadd, 1) := by decide +kernel
theorem dX6_isProtected_94 : decode cX6_isProtected 94 = .ok (.if_icmp .ne 7, 3) := by decide +kernel
theorem dX6_isProtected_97 : decode cX6_isProtected 97 = .ok (.iconst 1, 1) := by decide +kernel
theorem dX6_isProtected_98 : decode cX6_isProtected 98 = .ok (.goto 4, 3) := by decide +kernel
theorem dX6_isProtected_101 : decode cX6_isProtected 101 = .ok (.iconst 2, 1) := by decide +kernel
theorem dX6_isProtected_102 : decode cX6_isProtected 102 = .ok (.ireturn, 1) := by decide +kernel
theorem dX6_span_0 : decode cX6_span 0 = .ok (.aload_n 0, 1) := by decide +kernel
theorem dX6_span_1 : decode cX6_span 1 = .ok (.iload_n 1, 1) := by decide +kernel
theorem dX6_span_2 : decode cX6_span 2 = .ok (.invokevirtual 247, 3) := by decide +kernel
theorem dX6_span_5 : decode cX6_span 5 = .ok (.ifCond .eq 26, 3) := by decide +kernel
theorem dX6_span_8 : decode cX6_span 8 = .ok (.aload_n 0, 1) := by decide +kernel
theorem dX6_span_9 : decode cX6_span 9 = .ok (.iload_n 2, 1) := by decide +kernel
theorem dX6_span_10 : decode cX6_span 10 = .ok (.invokevirtual 45, 3) := by decide +kernel
theorem dX6_span_13 : decode cX6_span 13 = .ok (.ifCond .eq 18, 3) := by decide +kernel
theorem dX6_span_16 : decode cX6_span 16 = .ok (.iload_n 3, 1) := by decide +kernel
theorem dX6_span_17 : decode cX6_span 17 = .ok (.ifCond .lt 14, 3) := by decide +kernel
theorem dX6_span_20 : decode cX6_span 20 = .ok (.iload 4, 2) := by decide +kernel
theorem dX6_span_22 : decode cX6_span 22 = .ok (.i2l, 1) := by decide +kernel
theorem dX6_span_23 : decode cX6_span 23 = .ok (.lconst 0, 1) := by decide +kernel
theorem dX6_span_24 : decode cX6_span 24 = .ok (.lconst 1, 1) := by decide +kernel
theorem dX6_span_25 : decode cX6_span 25 = .ok (.invokestatic 41, 3) := by decide +kernel
theorem dX6_span_28 : decode cX6_span 28 = .ok (.ifCond .ne 6, 3) := by decide +kernel
theorem dX6_span_31 : decode cX6_span 31 = .ok (.ldc 207, 2) := by decide +kernel
theorem dX6_span_33 : decode cX6_span 33 = .ok (.ireturn, 1) := by decide +kernel
theorem dX6_span_34 : decode cX6_span 34 = .ok (.aload_n 0, 1) := by decide +kernel
theorem dX6_span_35 : decode cX6_span 35 = .ok (.iload_n 1, 1) := by decide +kernel
theorem dX6_span_36 : decode cX6_span 36 = .ok (.iload_n 2, 1) := by decide +kernel
theorem dX6_span_37 : decode cX6_span 37 = .ok (.iconst 0, 1) := by decide +kernel
theorem dX6_span_38 : decode cX6_span 38 = .ok (.invokevirtual 116, 3) := by decide +kernel
theorem dX6_span_41 : decode cX6_span 41 = .ok (.iload_n 3, 1) := by decide +kernel
theorem dX6_span_42 : decode cX6_span 42 = .ok (.istore 5, 2) := by decide +kernel
theorem dX6_span_44 : decode cX6_span 44 = .ok (.iconst 0, 1) := by decide +kernel
theorem dX6_span_45 : decode cX6_span 45 = .ok (.istore 6, 2) := by decide +kernel
theorem dX6_span_47 : decode cX6_span 47 = .ok (.ldc 103, 2) := by decide +kernel
theorem dX6_span_49 : decode cX6_span 49 = .ok (.istore 7, 2) := by decide +kernel
theorem dX6_span_51 : decode cX6_span 51 = .ok (.aload_n 0, 1) := by decide +kernel
theorem dX6_span_52 : decode cX6_span 52 = .ok (.getfield 110, 3) := by decide +kernel
theorem dX6_span_55 : decode cX6_span 55 = .ok (.sipush 2400, 3) := by decide +kernel
theorem dX6_span_58 : decode cX6_span 58 = .ok (.if_icmp .ge 10, 3) := by decide +kernel
theorem dX6_span_61 : decode cX6_span 61 = .ok (.aload_n 0, 1) := by decide +kernel
theorem dX6_span_62 : decode cX6_span 62 = .ok (.getfield 110, 3) := by decide +kernel
theorem dX6_span_65 : decode cX6_span 65 = .ok (.goto 6, 3) := by decide +kernel
theorem dX6_span_68 : decode cX6_span 68 = .ok (.sipush 2400, 3) := by decide +kernel
theorem dX6_span_71 : decode cX6_span 71 = .ok (.istore 8, 2) := by decide +kernel
theorem dX6_span_73 : decode cX6_span 73 = .ok (.aload_n 0, 1) := by decide +kernel
theorem dX6_span_74 : decode cX6_span 74 = .ok (.iload_n 1, 1) := by decide +kernel
theorem dX6_span_75 : decode cX6_span 75 = .ok (.iconst 2, 1) := by decide +kernel
theorem dX6_span_76 : decode cX6_span 76 = .ok (.invokevirtual 53, 3) := by decide +kernel
theorem dX6_span_79 : decode cX6_span 79 = .ok (.istore 9, 2) := by decide +kernel
theorem dX6_span_81 : decode cX6_span 81 = .ok (.iload 9, 2) := by decide +kernel
theorem dX6_span_83 : decode cX6_span 83 = .ok (.iload 8, 2) := by decide +kernel
theorem dX6_span_85 : decode cX6_span 85 = .ok (.if_icmp .gt 124, 3) := by decide +kernel
theorem dX6_span_88 : decode cX6_span 88 = .ok (.aload_n 0, 1) := by decide +kernel
theorem dX6_span_89 : decode cX6_span 89 = .ok (.iload_n 1, 1) := by decide +kernel
theorem dX6_span_90 : decode cX6_span 90 = .ok (.iload 9, 2) := by decide +kernel
theorem dX6_span_92 : decode cX6_span 92 = .ok (.invokevirtual 269, 3) := by decide +kernel
theorem dX6_span_95 : decode cX6_span 95 = .ok (.istore 10, 2) := by decide +kernel
theorem dX6_span_97 : decode cX6_span 97 = .ok (.iload 10, 2) := by decide +kernel
theorem dX6_span_99 : decode cX6_span 99 = .ok (.ifCond .eq 13, 3) := by decide +kernel
theorem dX6_span_102 : decode cX6_span 102 = .ok (.iload 6, 2) := by decide +kernel
theorem dX6_span_104 : decode cX6_span 104 = .ok (.ifCond .ne 8, 3) := by decide +kernel
theorem dX6_span_107 : decode cX6_span 107 = .ok (.iload 9, 2) := by decide +kernel
theorem dX6_span_109 : decode cX6_span 109 = .ok (.goto 5, 3) := by decide +kernel
theorem dX6_span_112 : decode cX6_span 112 = .ok (.iload 7, 2) := by decide +kernel
theorem dX6_span_114 : decode cX6_span 114 = .ok (.istore 7, 2) := by decide +kernel
theorem dX6_span_116 : decode cX6_span 116 = .ok (.iload 10, 2) := by decide +kernel
theorem dX6_span_118 : decode cX6_span 118 = .ok (.ifCond .eq 26, 3) := by decide +kernel
theorem dX6_span_121 : decode cX6_span 121 = .ok (.iload 9, 2) := by decide +kernel
theorem dX6_span_123 : decode cX6_span 123 = .ok (.iload 8, 2) := by decide +kernel
theorem dX6_span_125 : decode cX6_span 125 = .ok (.if_icmp .eq 15, 3) := by decide +kernel
theorem dX6_span_128 : decode cX6_span 128 = .ok (.aload_n 0, 1) := by decide +kernel
theorem dX6_span_129 : decode cX6_span 129 = .ok (.iload_n 1, 1) := by decide +kernel
theorem dX6_span_130 : decode cX6_span 130 = .ok (.iload 9, 2) := by decide +kernel
theorem dX6_span_132 : decode cX6_span 132 = .ok (.iconst 1, 1) := by decide +kernel
theorem dX6_span_133 : decode cX6_span 133 = .ok (.iadd, 1) := by decide +kernel
theorem dX6_span_134 : decode cX6_span 134 = .ok (.invokevirtual 269, 3) := by decide +kernel
theorem dX6_span_137 : decode cX6_span 137 = .ok (.ifCond .ne 7, 3) := by decide +kernel
theorem dX6_span_140 : decode cX6_span 140 = .ok (.iconst 1, 1) := by decide +kernel
theorem dX6_span_141 : decode cX6_span 141 = .ok (.goto 4, 3) := by decide +kernel
theorem dX6_span_144 : decode cX6_span 144 = .ok (.iconst 0, 1) := by decide +kernel
theorem dX6_span_145 : decode cX6_span 145 = .ok (.istore 11, 2) := by decide +kernel
theorem dX6_span_147 : decode cX6_span 147 = .ok (.iload 11, 2) := by decide +kernel
theorem dX6_span_149 : decode cX6_span 149 = .ok (.ifCond .eq 35, 3) := by decide +kernel
theorem dX6_span_152 : decode cX6_span 152 = .ok (.iload 5, 2) := by decide +kernel
theorem dX6_span_154 : decode cX6_span 154 = .ok (.ifCond .ne 30, 3) := by decide +kernel
theorem dX6_span_157 : decode cX6_span 157 = .ok (.iload 4, 2) := by decide +kernel
theorem dX6_span_159 : decode cX6_span 159 = .ok (.ifCond .ne 8, 3) := by decide +kernel
theorem dX6_span_162 : decode cX6_span 162 = .ok (.iload 7, 2) := by decide +kernel
theorem dX6_span_164 : decode cX6_span 164 = .ok (.goto 19, 3) := by decide +kernel
theorem dX6_span_167 : decode cX6_span 167 = .ok (.iload 9, 2) := by decide +kernel
theorem dX6_span_169 : decode cX6_span 169 = .ok (.iload 8, 2) := by decide +kernel
theorem dX6_span_171 : decode cX6_span 171 = .ok (.if_icmp .ne 10, 3) := by decide +kernel
theorem dX6_span_174 : decode cX6_span 174 = .ok (.aload_n 0, 1) := by decide +kernel
theorem dX6_span_175 : decode cX6_span 175 = .ok (.getfield 110, 3) := by decide +kernel
theorem dX6_span_178 : decode cX6_span 178 = .ok (.goto 5, 3) := by decide +kernel
theorem dX6_span_181 : decode cX6_span 181 = .ok (.iload 9, 2) := by decide +kernel
theorem dX6_span_183 : decode cX6_span 183 = .ok (.ireturn, 1) := by decide +kernel
theorem dX6_span_184 : decode cX6_span 184 = .ok (.iload 5, 2) := by decide +kernel
theorem dX6_span_186 : decode cX6_span 186 = .ok (.iload 11, 2) := by decide +kernel
theorem dX6_span_188 : decode cX6_span 188 = .ok (.ifCond .eq 7, 3) := by decide +kernel
theorem dX6_span_191 : decode cX6_span 191 = .ok (.iconst 1, 1) := by decide +kernel
theorem dX6_span_192 : decode cX6_span 192 = .ok (.goto 4, 3) := by decide +kernel
theorem dX6_span_195 : decode cX6_span 195 = .ok (.iconst 0, 1) := by decide +kernel
theorem dX6_span_196 : decode cX6_span 196 = .ok (.isub, 1) := by decide +kernel
theorem dX6_span_197 : decode cX6_span 197 = .ok (.istore 5, 2) := by decide +kernel
theorem dX6_span_199 : decode cX6_span 199 = .ok (.iload 10, 2) := by decide +kernel
theorem dX6_span_201 : decode cX6_span 201 = .ok (.istore 6, 2) := by decide +kernel
theorem dX6_span_203 : decode cX6_span 203 = .ok (.iinc 9 1, 3) := by decide +kernel
theorem dX6_span_206 : decode cX6_span 206 = .ok (.goto (-125), 3) := by decide +kernel
theorem dX6_span_209 : decode cX6_span 209 = .ok (.ldc 103, 2) := by decide +kernel
theorem dX6_span_211 : decode cX6_span 211 = .ok (.ireturn, 1) := by decide +kernel
theorem dX6_everywhere_0 : decode cX6_everywhere 0 = .ok (.aload_n 0, 1) := by decide +kernel
theorem dX6_everywhere_1 : decode cX6_everywhere 1 = .ok (.iload_n 1, 1) := by decide +kernel
theorem dX6_everywhere_2 : decode cX6_everywhere 2 = .ok (.invokevirtual 247, 3) := by decide +kernel
theorem dX6_everywhere_5 : decode cX6_everywhere 5 = .ok (.ifCond .eq 15, 3) := by decide +kernel
theorem dX6_everywhere_8 : decode cX6_everywhere 8 = .ok (.iload_n 2, 1) := by decide +kernel
theorem dX6_everywhere_9 : decode cX6_everywhere 9 = .ok (.i2l, 1) := by decide +kernel
theorem dX6_everywhere_10 : decode cX6_everywhere 10 = .ok (.lconst 0, 1) := by decide +kernel
theorem dX6_everywhere_11 : decode cX6_everywhere 11 = .ok (.ldc2_w 272, 3) := by decide +kernel
theorem dX6_everywhere_14 : decode cX6_everywhere 14 = .ok (.invokestatic 41, 3) := by decide +kernel
theorem dX6_everywhere_17 : decode cX6_everywhere 17 = .ok (.ifCond .ne 6, 3) := by decide +kernel
theorem dX6_everywhere_20 : decode cX6_everywhere 20 = .ok (.ldc 207, 2) := by decide +kernel
theorem dX6_everywhere_22 : decode cX6_everywhere 22 = .ok (.ireturn, 1) := by decide +kernel
theorem dX6_everywhere_23 : decode cX6_everywhere 23 = .ok (.ldc 103, 2) := by decide +kernel
theorem dX6_everywhere_25 : decode cX6_everywhere 25 = .ok (.istore_n 3, 1) := by decide +kernel
theorem dX6_everywhere_26 : decode cX6_everywhere 26 = .ok (.sipush 9999, 3) := by decide +kernel
theorem dX6_everywhere_29 : decode cX6_everywhere 29 = .ok (.istore 4, 2) := by decide +kernel
theorem dX6_everywhere_31 : decode cX6_everywhere 31 = .ok (.iconst 0, 1) := by decide +kernel
theorem dX6_everywhere_32 : decode cX6_everywhere 32 = .ok (.istore 5, 2) := by decide +kernel
theorem dX6_everywhere_34 : decode cX6_everywhere 34 = .ok (.iconst 0, 1) := by decide +kernel
theorem dX6_everywhere_35 : decode cX6_everywhere 35 = .ok (.istore 6, 2) := by decide +kernel
theorem dX6_everywhere_37 : decode cX6_everywhere 37 = .ok (.iconst 0, 1) := by decide +kernel
theorem dX6_everywhere_38 : decode cX6_everywhere 38 = .ok (.istore 7, 2) := by decide +kernel
theorem dX6_everywhere_40 : decode cX6_everywhere 40 = .ok (.iload 7, 2) := by decide +kernel
theorem dX6_everywhere_42 : decode cX6_everywhere 42 = .ok (.aload_n 0, 1) := by decide +kernel
theorem dX6_everywhere_43 : decode cX6_everywhere 43 = .ok (.getfield 7, 3) := by decide +kernel
theorem dX6_everywhere_46 : decode cX6_everywhere 46 = .ok (.iconst 0, 1) := by decide +kernel
theorem dX6_everywhere_47 : decode cX6_everywhere 47 = .ok (.iaload, 1) := by decide +kernel
theorem dX6_everywhere_48 : decode cX6_everywhere 48 = .ok (.if_icmp .ge 107, 3) := by decide +kernel
theorem dX6_everywhere_51 : decode cX6_everywhere 51 = .ok (.aload_n 0, 1) := by decide +kernel
theorem dX6_everywhere_52 : decode cX6_everywhere 52 = .ok (.iload_n 1, 1) := by decide +kernel
theorem dX6_everywhere_53 : decode cX6_everywhere 53 = .ok (.iload 7, 2) := by decide +kernel
theorem dX6_everywhere_55 : decode cX6_everywhere 55 = .ok (.invokevirtual 253, 3) := by decide +kernel
theorem dX6_everywhere_58 : decode cX6_everywhere 58 = .ok (.iload_n 3, 1) := by decide +kernel
theorem dX6_everywhere_59 : decode cX6_everywhere 59 = .ok (.ldc 103, 2) := by decide +kernel
theorem dX6_everywhere_61 : decode cX6_everywhere 61 = .ok (.if_icmp .eq 12, 3) := by decide +kernel
theorem dX6_everywhere_64 : decode cX6_everywhere 64 = .ok (.aload_n 0, 1) := by decide +kernel
theorem dX6_everywhere_65 : decode cX6_everywhere 65 = .ok (.getfield 124, 3) := by decide +kernel
theorem dX6_everywhere_68 : decode cX6_everywhere 68 = .ok (.iload 4, 2) := by decide +kernel
theorem dX6_everywhere_70 : decode cX6_everywhere 70 = .ok (.if_icmp .ge 7, 3) := by decide +kernel
theorem dX6_everywhere_73 : decode cX6_everywhere 73 = .ok (.iconst 1, 1) := by decide +kernel
theorem dX6_everywhere_74 : decode cX6_everywhere 74 = .ok (.goto 4, 3) := by decide +kernel
theorem dX6_everywhere_77 : decode cX6_everywhere 77 = .ok (.iconst 0, 1) := by decide +kernel
theorem dX6_everywhere_78 : decode cX6_everywhere 78 = .ok (.istore 8, 2) := by decide +kernel
theorem dX6_everywhere_80 : decode cX6_everywhere 80 = .ok (.iload 8, 2) := by decide +kernel
theorem dX6_everywhere_82 : decode cX6_everywhere 82 = .ok (.ifCond .eq 8, 3) := by decide +kernel
theorem dX6_everywhere_85 : decode cX6_everywhere 85 = .ok (.iload 7, 2) := by decide +kernel
theorem dX6_everywhere_87 : decode cX6_everywhere 87 = .ok (.goto 4, 3) := by decide +kernel
theorem dX6_everywhere_90 : decode cX6_everywhere 90 = .ok (.iload_n 3, 1) := by decide +kernel
theorem dX6_everywhere_91 : decode cX6_everywhere 91 = .ok (.istore_n 3, 1) := by decide +kernel
theorem dX6_everywhere_92 : decode cX6_everywhere 92 = .ok (.iload 8, 2) := by decide +kernel
theorem dX6_everywhere_94 : decode cX6_everywhere 94 = .ok (.ifCond .eq 10, 3) := by decide +kernel
theorem dX6_everywhere_97 : decode cX6_everywhere 97 = .ok (.aload_n 0, 1) := by decide +kernel
theorem dX6_everywhere_98 : decode cX6_everywhere 98 = .ok (.getfield 124, 3) := by decide +kernel
theorem dX6_everywhere_101 : decode cX6_everywhere 101 = .ok (.goto 5, 3) := by decide +kernel
theorem dX6_everywhere_104 : decode cX6_everywhere 104 = .ok (.iload 4, 2) := by decide +kernel
theorem dX6_everywhere_106 : decode cX6_everywhere 106 = .ok (.istore 4, 2) := by decide +kernel
theorem dX6_everywhere_108 : decode cX6_everywhere 108 = .ok (.aload_n 0, 1) := by decide +kernel
theorem dX6_everywhere_109 : decode cX6_everywhere 109 = .ok (.getfield 127, 3) := by decide +kernel
theorem dX6_everywhere_112 : decode cX6_everywhere 112 = .ok (.iload 5, 2) := by decide +kernel
theorem dX6_everywhere_114 : decode cX6_everywhere 114 = .ok (.if_icmp .le 10, 3) := by decide +kernel
theorem dX6_everywhere_117 : decode cX6_everywhere 117 = .ok (.aload_n 0, 1) := by decide +kernel
theorem dX6_everywhere_118 : decode cX6_everywhere 118 = .ok (.getfield 127, 3) := by decide +kernel
theorem dX6_everywhere_121 : decode cX6_everywhere 121 = .ok (.goto 5, 3) := by decide +kernel
theorem dX6_everywhere_124 : decode cX6_everywhere 124 = .ok (.iload 5, 2) := by decide +kernel
theorem dX6_everywhere_126 : decode cX6_everywhere 126 = .ok (.istore 5, 2) := by decide +kernel
theorem dX6_everywhere_128 : decode cX6_everywhere 128 = .ok (.iload 6, 2) := by decide +kernel
theorem dX6_everywhere_130 : decode cX6_everywhere 130 = .ok (.aload_n 0, 1) := by decide +kernel
theorem dX6_everywhere_131 : decode cX6_everywhere 131 = .ok (.getfield 124, 3) := by decide +kernel
theorem dX6_everywhere_134 : decode cX6_everywhere 134 = .ok (.aload_n 0, 1) := by decide +kernel
theorem dX6_everywhere_135 : decode cX6_everywhere 135 = .ok (.getfield 127, 3) := by decide +kernel
theorem dX6_everywhere_138 : decode cX6_everywhere 138 = .ok (.if_icmp .eq 7, 3) := by decide +kernel
theorem dX6_everywhere_141 : decode cX6_everywhere 141 = .ok (.iconst 1, 1) := by decide +kernel
theorem dX6_everywhere_142 : decode cX6_everywhere 142 = .ok (.goto 4, 3) := by decide +kernel
theorem dX6_everywhere_145 : decode cX6_everywhere 145 = .ok (.iconst 0, 1) := by decide +kernel
theorem dX6_everywhere_146 : decode cX6_everywhere 146 = .ok (.iadd, 1) := by decide +kernel
theorem dX6_everywhere_147 : decode cX6_everywhere 147 = .ok (.istore 6, 2) := by decide +kernel
theorem dX6_everywhere_149 : decode cX6_everywhere 149 = .ok (.iinc 7 1, 3) := by decide +kernel
theorem dX6_everywhere_152 : decode cX6_everywhere 152 = .ok (.goto (-112), 3) := by decide +kernel
theorem dX6_everywhere_155 : decode cX6_everywhere 155 = .ok (.iload_n 2, 1) := by decide +kernel
theorem dX6_everywhere_156 : decode cX6_everywhere 156 = .ok (.ifCond .ne 7, 3) := by decide +kernel
theorem dX6_everywhere_159 : decode cX6_everywhere 159 = .ok (.iload_n 3, 1) := by decide +kernel
theorem dX6_everywhere_160 : decode cX6_everywhere 160 = .ok (.goto 25, 3) := by decide +kernel
theorem dX6_everywhere_163 : decode cX6_everywhere 163 = .ok (.iload_n 2, 1) := by decide +kernel
theorem dX6_everywhere_164 : decode cX6_everywhere 164 = .ok (.iconst 1, 1) := by decide +kernel
theorem dX6_everywhere_165 : decode cX6_everywhere 165 = .ok (.if_icmp .ne 8, 3) := by decide +kernel
theorem dX6_everywhere_168 : decode cX6_everywhere 168 = .ok (.iload 4, 2) := by decide +kernel
theorem dX6_everywhere_170 : decode cX6_everywhere 170 = .ok (.goto 15, 3) := by decide +kernel
theorem dX6_everywhere_173 : decode cX6_everywhere 173 = .ok (.iload_n 2, 1) := by decide +kernel
theorem dX6_everywhere_174 : decode cX6_everywhere 174 = .ok (.iconst 2, 1) := by decide +kernel
theorem dX6_everywhere_175 : decode cX6_everywhere 175 = .ok (.if_icmp .ne 8, 3) := by decide +kernel
theorem dX6_everywhere_178 : decode cX6_everywhere 178 = .ok (.iload 5, 2) := by decide +kernel
theorem dX6_everywhere_180 : decode cX6_everywhere 180 = .ok (.goto 5, 3) := by decide +kernel
theorem dX6_everywhere_183 : decode cX6_everywhere 183 = .ok (.iload 6, 2) := by decide +kernel
theorem dX6_everywhere_185 : decode cX6_everywhere 185 = .ok (.ireturn, 1) := by decide +kernel
theorem dX6_next_0 : decode cX6_next 0 = .ok (.aload_n 0, 1) := by decide +kernel
theorem dX6_next_1 : decode cX6_next 1 = .ok (.invokevirtual 274, 3) := by decide +kernel
theorem dX6_next_4 : decode cX6_next 4 = .ok (.ifCond .ne 6, 3) := by decide +kernel
theorem dX6_next_7 : decode cX6_next 7 = .ok (.ldc 229, 2) := by decide +kernel
theorem dX6_next_9 : decode cX6_next 9 = .ok (.ireturn, 1) := by decide +kernel
theorem dX6_next_10 : decode cX6_next 10 = .ok (.iload_n 1, 1) := by decide +kernel
theorem dX6_next_11 : decode cX6_next 11 = .ok (.invokestatic 266, 3) := by decide +kernel
theorem dX6_next_14 : decode cX6_next 14 = .ok (.ifCond .eq 17, 3) := by decide +kernel
theorem dX6_next_17 : decode cX6_next 17 = .ok (.iload_n 2, 1) := by decide +kernel
theorem dX6_next_18 : decode cX6_next 18 = .ok (.ifCond .lt 13, 3) := by decide +kernel
theorem dX6_next_21 : decode cX6_next 21 = .ok (.iload_n 3, 1) := by decide +kernel
theorem dX6_next_22 : decode cX6_next 22 = .ok (.i2l, 1) := by decide +kernel
theorem dX6_next_23 : decode cX6_next 23 = .ok (.lconst 0, 1) := by decide +kernel
theorem dX6_next_24 : decode cX6_next 24 = .ok (.lconst 1, 1) := by decide +kernel
theorem dX6_next_25 : decode cX6_next 25 = .ok (.invokestatic 41, 3) := by decide +kernel
theorem dX6_next_28 : decode cX6_next 28 = .ok (.ifCond .ne 6, 3) := by decide +kernel
theorem dX6_next_31 : decode cX6_next 31 = .ok (.ldc 207, 2) := by decide +kernel
theorem dX6_next_33 : decode cX6_next 33 = .ok (.ireturn, 1) := by decide +kernel
theorem dX6_next_34 : decode cX6_next 34 = .ok (.iconst 0, 1) := by decide +kernel
theorem dX6_next_35 : decode cX6_next 35 = .ok (.istore 4, 2) := by decide +kernel
theorem dX6_next_37 : decode cX6_next 37 = .ok (.iload 4, 2) := by decide +kernel
theorem dX6_next_39 : decode cX6_next 39 = .ok (.bipush 24, 2) := by decide +kernel
theorem dX6_next_41 : decode cX6_next 41 = .ok (.if_icmp .ge 19, 3) := by decide +kernel
theorem dX6_next_44 : decode cX6_next 44 = .ok (.aload_n 0, 1) := by decide +kernel
theorem dX6_next_45 : decode cX6_next 45 = .ok (.getfield 38, 3) := by decide +kernel
theorem dX6_next_48 : decode cX6_next 48 = .ok (.iload 4, 2) := by decide +kernel
theorem dX6_next_50 : decode cX6_next 50 = .ok (.sipush 9999, 3) := by decide +kernel
theorem dX6_next_53 : decode cX6_next 53 = .ok (.iastore, 1) := by decide +kernel
theorem dX6_next_54 : decode cX6_next 54 = .ok (.iinc 4 1, 3) := by decide +kernel
theorem dX6_next_57 : decode cX6_next 57 = .ok (.goto (-20), 3) := by decide +kernel
theorem dX6_next_60 : decode cX6_next 60 = .ok (.iconst 0, 1) := by decide +kernel
theorem dX6_next_61 : decode cX6_next 61 = .ok (.istore 4, 2) := by decide +kernel
theorem dX6_next_63 : decode cX6_next 63 = .ok (.iload 4, 2) := by decide +kernel
theorem dX6_next_65 : decode cX6_next 65 = .ok (.aload_n 0, 1) := by decide +kernel
theorem dX6_next_66 : decode cX6_next 66 = .ok (.getfield 7, 3) := by decide +kernel
theorem dX6_next_69 : decode cX6_next 69 = .ok (.iconst 0, 1) := by decide +kernel
theorem dX6_next_70 : decode cX6_next 70 = .ok (.iaload, 1) := by decide +kernel
theorem dX6_next_71 : decode cX6_next 71 = .ok (.if_icmp .ge 68, 3) := by decide +kernel
theorem dX6_next_74 : decode cX6_next 74 = .ok (.iconst 0, 1) := by decide +kernel
theorem dX6_next_75 : decode cX6_next 75 = .ok (.istore 5, 2) := by decide +kernel
theorem dX6_next_77 : decode cX6_next 77 = .ok (.iload 5, 2) := by decide +kernel
theorem dX6_next_79 : decode cX6_next 79 = .ok (.aload_n 0, 1) := by decide +kernel
theorem dX6_next_80 : decode cX6_next 80 = .ok (.getfield 7, 3) := by decide +kernel
theorem dX6_next_83 : decode cX6_next 83 = .ok (.iconst 2, 1) := by decide +kernel
theorem dX6_next_84 : decode cX6_next 84 = .ok (.iaload, 1) := by decide +kernel
theorem dX6_next_85 : decode cX6_next 85 = .ok (.if_icmp .ge 48, 3) := by decide +kernel
theorem dX6_next_88 : decode cX6_next 88 = .ok (.aload_n 0, 1) := by decide +kernel
theorem dX6_next_89 : decode cX6_next 89 = .ok (.iload 5, 2) := by decide +kernel
theorem dX6_next_91 : decode cX6_next 91 = .ok (.iload 4, 2) := by decide +kernel
theorem dX6_next_93 : decode cX6_next 93 = .ok (.invokevirtual 253, 3) := by decide +kernel
theorem dX6_next_96 : decode cX6_next 96 = .ok (.aload_n 0, 1) := by decide +kernel
theorem dX6_next_97 : decode cX6_next 97 = .ok (.getfield 38, 3) := by decide +kernel
theorem dX6_next_100 : decode cX6_next 100 = .ok (.bipush 6, 2) := by decide +kernel
theorem dX6_next_102 : decode cX6_next 102 = .ok (.iload 4, 2) := by decide +kernel
theorem dX6_next_104 : decode cX6_next 104 = .ok (.imul, 1) := by decide +kernel
theorem dX6_next_105 : decode cX6_next 105 = .ok (.iload 5, 2) := by decide +kernel
theorem dX6_next_107 : decode cX6_next 107 = .ok (.iadd, 1) := by decide +kernel
theorem dX6_next_108 : decode cX6_next 108 = .ok (.aload_n 0, 1) := by decide +kernel
theorem dX6_next_109 : decode cX6_next 109 = .ok (.getfield 124, 3) := by decide +kernel
theorem dX6_next_112 : decode cX6_next 112 = .ok (.iload_n 1, 1) := by decide +kernel
theorem dX6_next_113 : decode cX6_next 113 = .ok (.if_icmp .ge 9, 3) := by decide +kernel
theorem dX6_next_116 : decode cX6_next 116 = .ok (.sipush 9999, 3) := by decide +kernel
theorem dX6_next_119 : decode cX6_next 119 = .ok (.goto 7, 3) := by decide +kernel
theorem dX6_next_122 : decode cX6_next 122 = .ok (.aload_n 0, 1) := by decide +kernel
theorem dX6_next_123 : decode cX6_next 123 = .ok (.getfield 124, 3) := by decide +kernel
theorem dX6_next_126 : decode cX6_next 126 = .ok (.iastore, 1) := by decide +kernel
theorem dX6_next_127 : decode cX6_next 127 = .ok (.iinc 5 1, 3) := by decide +kernel
theorem dX6_next_130 : decode cX6_next 130 = .ok (.goto (-53), 3) := by decide +kernel
theorem dX6_next_133 : decode cX6_next 133 = .ok (.iinc 4 1, 3) := by decide +kernel
theorem dX6_next_136 : decode cX6_next 136 = .ok (.goto (-73), 3) := by decide +kernel
theorem dX6_next_139 : decode cX6_next 139 = .ok (.ldc 103, 2) := by decide +kernel
theorem dX6_next_141 : decode cX6_next 141 = .ok (.istore 4, 2) := by decide +kernel
theorem dX6_next_143 : decode cX6_next 143 = .ok (.iconst 0, 1) := by decide +kernel
theorem dX6_next_144 : decode cX6_next 144 = .ok (.istore 5, 2) := by decide +kernel
theorem dX6_next_146 : decode cX6_next 146 = .ok (.iload 5, 2) := by decide +kernel
theorem dX6_next_148 : decode cX6_next 148 = .ok (.iload_n 2, 1) := by decide +kernel
theorem dX6_next_149 : decode cX6_next 149 = .ok (.if_icmp .gt 108, 3) := by decide +kernel
theorem dX6_next_152 : decode cX6_next 152 = .ok (.iload 5, 2) := by decide +kernel
theorem dX6_next_154 : decode cX6_next 154 = .ok (.bipush 25, 2) := by decide +kernel
theorem dX6_next_156 : decode cX6_next 156 = .ok (.if_icmp .ge 101, 3) := by decide +kernel
theorem dX6_next_159 : decode cX6_next 159 = .ok (.ldc 103, 2) := by decide +kernel
theorem dX6_next_161 : decode cX6_next 161 = .ok (.istore 4, 2) := by decide +kernel
theorem dX6_next_163 : decode cX6_next 163 = .ok (.iconst 0, 1) := by decide +kernel
theorem dX6_next_164 : decode cX6_next 164 = .ok (.istore 6, 2) := by decide +kernel
theorem dX6_next_166 : decode cX6_next 166 = .ok (.iload 6, 2) := by decide +kernel
theorem dX6_next_168 : decode cX6_next 168 = .ok (.bipush 24, 2) := by decide +kernel
theorem dX6_next_170 : decode cX6_next 170 = .ok (.if_icmp .ge 55, 3) := by decide +kernel
theorem dX6_next_173 : decode cX6_next 173 = .ok (.aload_n 0, 1) := by decide +kernel
theorem dX6_next_174 : decode cX6_next 174 = .ok (.getfield 38, 3) := by decide +kernel
theorem dX6_next_177 : decode cX6_next 177 = .ok (.iload 6, 2) := by decide +kernel
theorem dX6_next_179 : decode cX6_next 179 = .ok (.iaload, 1) := by decide +kernel
theorem dX6_next_180 : decode cX6_next 180 = .ok (.sipush 9999, 3) := by decide +kernel
theorem dX6_next_183 : decode cX6_next 183 = .ok (.if_icmp .ge 32, 3) := by decide +kernel
theorem dX6_next_186 : decode cX6_next 186 = .ok (.iload 4, 2) := by decide +kernel
theorem dX6_next_188 : decode cX6_next 188 = .ok (.ldc 103, 2) := by decide +kernel
theorem dX6_next_190 : decode cX6_next 190 = .ok (.if_icmp .eq 20, 3) := by decide +kernel
theorem dX6_next_193 : decode cX6_next 193 = .ok (.aload_n 0, 1) := by decide +kernel
theorem dX6_next_194 : decode cX6_next 194 = .ok (.getfield 38, 3) := by decide +kernel
theorem dX6_next_197 : decode cX6_next 197 = .ok (.iload 6, 2) := by decide +kernel
theorem dX6_next_199 : decode cX6_next 199 = .ok (.iaload, 1) := by decide +kernel
theorem dX6_next_200 : decode cX6_next 200 = .ok (.aload_n 0, 1) := by decide +kernel
theorem dX6_next_201 : decode cX6_next 201 = .ok (.getfield 38, 3) := by decide +kernel
theorem dX6_next_204 : decode cX6_next 204 = .ok (.iload 4, 2) := by decide +kernel
theorem dX6_next_206 : decode cX6_next 206 = .ok (.iaload, 1) := by decide +kernel
theorem dX6_next_207 : decode cX6_next 207 = .ok (.if_icmp .ge 8, 3) := by decide +kernel
theorem dX6_next_210 : decode cX6_next 210 = .ok (.iload 6, 2) := by decide +kernel
theorem dX6_next_212 : decode cX6_next 212 = .ok (.goto 5, 3) := by decide +kernel
theorem dX6_next_215 : decode cX6_next 215 = .ok (.iload 4, 2) := by decide +kernel
theorem dX6_next_217 : decode cX6_next 217 = .ok (.istore 4, 2) := by decide +kernel
theorem dX6_next_219 : decode cX6_next 219 = .ok (.iinc 6 1, 3) := by decide +kernel
theorem dX6_next_222 : decode cX6_next 222 = .ok (.goto (-56), 3) := by decide +kernel
theorem dX6_next_225 : decode cX6_next 225 = .ok (.iload 4, 2) := by decide +kernel
theorem dX6_next_227 : decode cX6_next 227 = .ok (.ldc 103, 2) := by decide +kernel
theorem dX6_next_229 : decode cX6_next 229 = .ok (.if_icmp .ne 6, 3) := by decide +kernel
theorem dX6_next_232 : decode cX6_next 232 = .ok (.ldc 103, 2) := by decide +kernel
theorem dX6_next_234 : decode cX6_next 234 = .ok (.ireturn, 1) := by decide +kernel
theorem dX6_next_235 : decode cX6_next 235 = .ok (.iload 5, 2) := by decide +kernel
theorem dX6_next_237 : decode cX6_next 237 = .ok (.iload_n 2, 1) := by decide +kernel
theorem dX6_next_238 : decode cX6_next 238 = .ok (.if_icmp .ge 13, 3) := by decide +kernel
theorem dX6_next_241 : decode cX6_next 241 = .ok (.aload_n 0, 1) := by decide +kernel
theorem dX6_next_242 : decode cX6_next 242 = .ok (.getfield 38, 3) := by decide +kernel
theorem dX6_next_245 : decode cX6_next 245 = .ok (.iload 4, 2) := by decide +kernel
theorem dX6_next_247 : decode cX6_next 247 = .ok (.sipush 9999, 3) := by decide +kernel
theorem dX6_next_250 : decode cX6_next 250 = .ok (.iastore, 1) := by decide +kernel
theorem dX6_next_251 : decode cX6_next 251 = .ok (.iinc 5 1, 3) := by decide +kernel
theorem dX6_next_254 : decode cX6_next 254 = .ok (.goto (-108), 3) := by decide +kernel
theorem dX6_next_257 : decode cX6_next 257 = .ok (.iload 4, 2) := by decide +kernel
theorem dX6_next_259 : decode cX6_next 259 = .ok (.ldc 103, 2) := by decide +kernel
theorem dX6_next_261 : decode cX6_next 261 = .ok (.if_icmp .ne 6, 3) := by decide +kernel
theorem dX6_next_264 : decode cX6_next 264 = .ok (.ldc 103, 2) := by decide +kernel
theorem dX6_next_266 : decode cX6_next 266 = .ok (.ireturn, 1) := by decide +kernel
theorem dX6_next_267 : decode cX6_next 267 = .ok (.iload_n 3, 1) := by decide +kernel
theorem dX6_next_268 : decode cX6_next 268 = .ok (.ifCond .ne 13, 3) := by decide +kernel
theorem dX6_next_271 : decode cX6_next 271 = .ok (.aload_n 0, 1) := by decide +kernel
theorem dX6_next_272 : decode cX6_next 272 = .ok (.getfield 38, 3) := by decide +kernel
theorem dX6_next_275 : decode cX6_next 275 = .ok (.iload 4, 2) := by decide +kernel
theorem dX6_next_277 : decode cX6_next 277 = .ok (.iaload, 1) := by decide +kernel
theorem dX6_next_278 : decode cX6_next 278 = .ok (.goto 17, 3) := by decide +kernel
theorem dX6_next_281 : decode cX6_next 281 = .ok (.bipush 10, 2) := by decide +kernel
theorem dX6_next_283 : decode cX6_next 283 = .ok (.iload 4, 2) := by decide +kernel
theorem dX6_next_285 : decode cX6_next 285 = .ok (.bipush 6, 2) := by decide +kernel
theorem dX6_next_287 : decode cX6_next 287 = .ok (.idiv, 1) := by decide +kernel
theorem dX6_next_288 : decode cX6_next 288 = .ok (.imul, 1) := by decide +kernel
theorem dX6_next_289 : decode cX6_next 289 = .ok (.iload 4, 2) := by decide +kernel
theorem dX6_next_291 : decode cX6_next 291 = .ok (.bipush 6, 2) := by decide +kernel
theorem dX6_next_293 : decode cX6_next 293 = .ok (.irem, 1) := by decide +kernel
theorem dX6_next_294 : decode cX6_next 294 = .ok (.iadd, 1) := by decide +kernel
theorem dX6_next_295 : decode cX6_next 295 = .ok (.ireturn, 1) := by decide +kernel
theorem dX6_longer_0 : decode cX6_longer 0 = .ok (.aload_n 0, 1) := by decide +kernel
theorem dX6_longer_1 : decode cX6_longer 1 = .ok (.iload_n 1, 1) := by decide +kernel
theorem dX6_longer_2 : decode cX6_longer 2 = .ok (.invokevirtual 247, 3) := by decide +kernel
theorem dX6_longer_5 : decode cX6_longer 5 = .ok (.ifCond .eq 25, 3) := by decide +kernel
theorem dX6_longer_8 : decode cX6_longer 8 = .ok (.aload_n 0, 1) := by decide +kernel
theorem dX6_longer_9 : decode cX6_longer 9 = .ok (.iload_n 2, 1) := by decide +kernel
theorem dX6_longer_10 : decode cX6_longer 10 = .ok (.invokevirtual 45, 3) := by decide +kernel
theorem dX6_longer_13 : decode cX6_longer 13 = .ok (.ifCond .eq 17, 3) := by decide +kernel
theorem dX6_longer_16 : decode cX6_longer 16 = .ok (.iload_n 3, 1) := by decide +kernel
theorem dX6_longer_17 : decode cX6_longer 17 = .ok (.i2l, 1) := by decide +kernel
theorem dX6_longer_18 : decode cX6_longer 18 = .ok (.ldc2_w 278, 3) := by decide +kernel
theorem dX6_longer_21 : decode cX6_longer 21 = .ok (.ldc2_w 280, 3) := by decide +kernel
theorem dX6_longer_24 : decode cX6_longer 24 = .ok (.invokestatic 41, 3) := by decide +kernel
theorem dX6_longer_27 : decode cX6_longer 27 = .ok (.ifCond .ne 6, 3) := by decide +kernel
theorem dX6_longer_30 : decode cX6_longer 30 = .ok (.ldc 207, 2) := by decide +kernel
theorem dX6_longer_32 : decode cX6_longer 32 = .ok (.ireturn, 1) := by decide +kernel
theorem dX6_longer_33 : decode cX6_longer 33 = .ok (.bipush 7, 2) := by decide +kernel
theorem dX6_longer_35 : decode cX6_longer 35 = .ok (.bipush 24, 2) := by decide +kernel
theorem dX6_longer_37 : decode cX6_longer 37 = .ok (.iload_n 2, 1) := by decide +kernel
theorem dX6_longer_38 : decode cX6_longer 38 = .ok (.imul, 1) := by decide +kernel
theorem dX6_longer_39 : decode cX6_longer 39 = .ok (.iadd, 1) := by decide +kernel
theorem dX6_longer_40 : decode cX6_longer 40 = .ok (.bipush 6, 2) := by decide +kernel
theorem dX6_longer_42 : decode cX6_longer 42 = .ok (.aload_n 0, 1) := by decide +kernel
theorem dX6_longer_43 : decode cX6_longer 43 = .ok (.getfield 7, 3) := by decide +kernel
theorem dX6_longer_46 : decode cX6_longer 46 = .ok (.iconst 3, 1) := by decide +kernel
theorem dX6_longer_47 : decode cX6_longer 47 = .ok (.iload_n 2, 1) := by decide +kernel
theorem dX6_longer_48 : decode cX6_longer 48 = .ok (.iadd, 1) := by decide +kernel
theorem dX6_longer_49 : decode cX6_longer 49 = .ok (.iaload, 1) := by decide +kernel
theorem dX6_longer_50 : decode cX6_longer 50 = .ok (.iconst 1, 1) := by decide +kernel
theorem dX6_longer_51 : decode cX6_longer 51 = .ok (.isub, 1) := by decide +kernel
theorem dX6_longer_52 : decode cX6_longer 52 = .ok (.imul, 1) := by decide +kernel
theorem dX6_longer_53 : decode cX6_longer 53 = .ok (.iadd, 1) := by decide +kernel
theorem dX6_longer_54 : decode cX6_longer 54 = .ok (.iconst 1, 1) := by decide +kernel
theorem dX6_longer_55 : decode cX6_longer 55 = .ok (.iadd, 1) := by decide +kernel
theorem dX6_longer_56 : decode cX6_longer 56 = .ok (.istore 4, 2) := by decide +kernel
theorem dX6_longer_58 : decode cX6_longer 58 = .ok (.aload_n 0, 1) := by decide +kernel
theorem dX6_longer_59 : decode cX6_longer 59 = .ok (.getfield 7, 3) := by decide +kernel
theorem dX6_longer_62 : decode cX6_longer 62 = .ok (.iload 4, 2) := by decide +kernel
theorem dX6_longer_64 : decode cX6_longer 64 = .ok (.iaload, 1) := by decide +kernel
theorem dX6_longer_65 : decode cX6_longer 65 = .ok (.istore 5, 2) := by decide +kernel
theorem dX6_longer_67 : decode cX6_longer 67 = .ok (.aload_n 0, 1) := by decide +kernel
theorem dX6_longer_68 : decode cX6_longer 68 = .ok (.iload_n 1, 1) := by decide +kernel
theorem dX6_longer_69 : decode cX6_longer 69 = .ok (.iload_n 2, 1) := by decide +kernel
theorem dX6_longer_70 : decode cX6_longer 70 = .ok (.invokevirtual 253, 3) := by decide +kernel
theorem dX6_longer_73 : decode cX6_longer 73 = .ok (.aload_n 0, 1) := by decide +kernel
theorem dX6_longer_74 : decode cX6_longer 74 = .ok (.getfield 127, 3) := by decide +kernel
theorem dX6_longer_77 : decode cX6_longer 77 = .ok (.istore 6, 2) := by decide +kernel
theorem dX6_longer_79 : decode cX6_longer 79 = .ok (.iload 5, 2) := by decide +kernel
theorem dX6_longer_81 : decode cX6_longer 81 = .ok (.iload_n 3, 1) := by decide +kernel
theorem dX6_longer_82 : decode cX6_longer 82 = .ok (.iadd, 1) := by decide +kernel
theorem dX6_longer_83 : decode cX6_longer 83 = .ok (.ifCond .ge 7, 3) := by decide +kernel
theorem dX6_longer_86 : decode cX6_longer 86 = .ok (.iconst 0, 1) := by decide +kernel
theorem dX6_longer_87 : decode cX6_longer 87 = .ok (.goto 21, 3) := by decide +kernel
theorem dX6_longer_90 : decode cX6_longer 90 = .ok (.iload 5, 2) := by decide +kernel
theorem dX6_longer_92 : decode cX6_longer 92 = .ok (.iload_n 3, 1) := by decide +kernel
theorem dX6_longer_93 : decode cX6_longer 93 = .ok (.iadd, 1) := by decide +kernel
theorem dX6_longer_94 : decode cX6_longer 94 = .ok (.bipush 99, 2) := by decide +kernel
theorem dX6_longer_96 : decode cX6_longer 96 = .ok (.if_icmp .le 8, 3) := by decide +kernel
theorem dX6_longer_99 : decode cX6_longer 99 = .ok (.bipush 99, 2) := by decide +kernel
theorem dX6_longer_101 : decode cX6_longer 101 = .ok (.goto 7, 3) := by decide +kernel
theorem dX6_longer_104 : decode cX6_longer 104 = .ok (.iload 5, 2) := by decide +kernel
theorem dX6_longer_106 : decode cX6_longer 106 = .ok (.iload_n 3, 1) := by decide +kernel
theorem dX6_longer_107 : decode cX6_longer 107 = .ok (.iadd, 1) := by decide +kernel
theorem dX6_longer_108 : decode cX6_longer 108 = .ok (.istore 7, 2) := by decide +kernel
theorem dX6_longer_110 : decode cX6_longer 110 = .ok (.aload_n 0, 1) := by decide +kernel
theorem dX6_longer_111 : decode cX6_longer 111 = .ok (.getfield 7, 3) := by decide +kernel
theorem dX6_longer_114 : decode cX6_longer 114 = .ok (.iload 4, 2) := by decide +kernel
theorem dX6_longer_116 : decode cX6_longer 116 = .ok (.iload 7, 2) := by decide +kernel
theorem dX6_longer_118 : decode cX6_longer 118 = .ok (.iastore, 1) := by decide +kernel
theorem dX6_longer_119 : decode cX6_longer 119 = .ok (.aload_n 0, 1) := by decide +kernel
theorem dX6_longer_120 : decode cX6_longer 120 = .ok (.iload_n 1, 1) := by decide +kernel
theorem dX6_longer_121 : decode cX6_longer 121 = .ok (.iload_n 2, 1) := by decide +kernel
theorem dX6_longer_122 : decode cX6_longer 122 = .ok (.invokevirtual 253, 3) := by decide +kernel
theorem dX6_longer_125 : decode cX6_longer 125 = .ok (.aload_n 0, 1) := by decide +kernel
theorem dX6_longer_126 : decode cX6_longer 126 = .ok (.getfield 7, 3) := by decide +kernel
theorem dX6_longer_129 : decode cX6_longer 129 = .ok (.iload 4, 2) := by decide +kernel
theorem dX6_longer_131 : decode cX6_longer 131 = .ok (.iload 5, 2) := by decide +kernel
theorem dX6_longer_133 : decode cX6_longer 133 = .ok (.iastore, 1) := by decide +kernel
theorem dX6_longer_134 : decode cX6_longer 134 = .ok (.iload 6, 2) := by decide +kernel
theorem dX6_longer_136 : decode cX6_longer 136 = .ok (.sipush 9999, 3) := by decide +kernel
theorem dX6_longer_139 : decode cX6_longer 139 = .ok (.if_icmp .eq 13, 3) := by decide +kernel
theorem dX6_longer_142 : decode cX6_longer 142 = .ok (.aload_n 0, 1) := by decide +kernel
theorem dX6_longer_143 : decode cX6_longer 143 = .ok (.getfield 127, 3) := by decide +kernel
theorem dX6_longer_146 : decode cX6_longer 146 = .ok (.sipush 9999, 3) := by decide +kernel
theorem dX6_longer_149 : decode cX6_longer 149 = .ok (.if_icmp .ne 8, 3) := by decide +kernel
theorem dX6_longer_152 : decode cX6_longer 152 = .ok (.ldc 103, 2) := by decide +kernel
theorem dX6_longer_154 : decode cX6_longer 154 = .ok (.goto 10, 3) := by decide +kernel
theorem dX6_longer_157 : decode cX6_longer 157 = .ok (.aload_n 0, 1) := by decide +kernel
theorem dX6_longer_158 : decode cX6_longer 158 = .ok (.getfield 127, 3) := by decide +kernel
theorem dX6_longer_161 : decode cX6_longer 161 = .ok (.iload 6, 2) := by decide +kernel
theorem dX6_longer_163 : decode cX6_longer 163 = .ok (.isub, 1) := by decide +kernel
theorem dX6_longer_164 : decode cX6_longer 164 = .ok (.ireturn, 1) := by decide +kernel
theorem dX6_image_0 : decode cX6_image 0 = .ok (.iload_n 1, 1) := by decide +kernel
theorem dX6_image_1 : decode cX6_image 1 = .ok (.i2l, 1) := by decide +kernel
theorem dX6_image_2 : decode cX6_image 2 = .ok (.lconst 0, 1) := by decide +kernel
theorem dX6_image_3 : decode cX6_image 3 = .ok (.lconst 1, 1) := by decide +kernel
theorem dX6_image_4 : decode cX6_image 4 = .ok (.invokestatic 41, 3) := by decide +kernel
theorem dX6_image_7 : decode cX6_image 7 = .ok (.ifCond .ne 6, 3) := by decide +kernel
theorem dX6_image_10 : decode cX6_image 10 = .ok (.ldc 207, 2) := by decide +kernel
theorem dX6_image_12 : decode cX6_image 12 = .ok (.ireturn, 1) := by decide +kernel
theorem dX6_image_13 : decode cX6_image 13 = .ok (.aload_n 0, 1) := by decide +kernel
theorem dX6_image_14 : decode cX6_image 14 = .ok (.invokevirtual 274, 3) := by decide +kernel
theorem dX6_image_17 : decode cX6_image 17 = .ok (.ifCond .ne 6, 3) := by decide +kernel
theorem dX6_image_20 : decode cX6_image 20 = .ok (.ldc 229, 2) := by decide +kernel
theorem dX6_image_22 : decode cX6_image 22 = .ok (.ireturn, 1) := by decide +kernel
theorem dX6_image_23 : decode cX6_image 23 = .ok (.aload_n 0, 1) := by decide +kernel
theorem dX6_image_24 : decode cX6_image 24 = .ok (.getfield 7, 3) := by decide +kernel
theorem dX6_image_27 : decode cX6_image 27 = .ok (.iconst 0, 1) := by decide +kernel
theorem dX6_image_28 : decode cX6_image 28 = .ok (.aload_n 0, 1) := by decide +kernel
theorem dX6_image_29 : decode cX6_image 29 = .ok (.getfield 19, 3) := by decide +kernel
theorem dX6_image_32 : decode cX6_image 32 = .ok (.sipush 149, 3) := by decide +kernel
theorem dX6_image_35 : decode cX6_image 35 = .ok (.iload_n 1, 1) := by decide +kernel
theorem dX6_image_36 : decode cX6_image 36 = .ok (.imul, 1) := by decide +kernel
theorem dX6_image_37 : decode cX6_image 37 = .ok (.invokestatic 222, 3) := by decide +kernel
theorem dX6_image_40 : decode cX6_image 40 = .ok (.aload_n 0, 1) := by decide +kernel
theorem dX6_image_41 : decode cX6_image 41 = .ok (.getfield 22, 3) := by decide +kernel
theorem dX6_image_44 : decode cX6_image 44 = .ok (.iload_n 1, 1) := by decide +kernel
theorem dX6_image_45 : decode cX6_image 45 = .ok (.iconst 1, 1) := by decide +kernel
theorem dX6_image_46 : decode cX6_image 46 = .ok (.bastore, 1) := by decide +kernel
theorem dX6_image_47 : decode cX6_image 47 = .ok (.iconst 1, 1) := by decide +kernel
theorem dX6_image_48 : decode cX6_image 48 = .ok (.ireturn, 1) := by decide +kernel
theorem dX6_restore_0 : decode cX6_restore 0 = .ok (.iload_n 1, 1) := by decide +kernel
theorem dX6_restore_1 : decode cX6_restore 1 = .ok (.i2l, 1) := by decide +kernel
theorem dX6_restore_2 : decode cX6_restore 2 = .ok (.lconst 0, 1) := by decide +kernel
theorem dX6_restore_3 : decode cX6_restore 3 = .ok (.lconst 1, 1) := by decide +kernel
theorem dX6_restore_4 : decode cX6_restore 4 = .ok (.invokestatic 41, 3) := by decide +kernel
theorem dX6_restore_7 : decode cX6_restore 7 = .ok (.ifCond .ne 6, 3) := by decide +kernel
theorem dX6_restore_10 : decode cX6_restore 10 = .ok (.ldc 207, 2) := by decide +kernel
theorem dX6_restore_12 : decode cX6_restore 12 = .ok (.ireturn, 1) := by decide +kernel
theorem dX6_restore_13 : decode cX6_restore 13 = .ok (.aload_n 0, 1) := by decide +kernel
theorem dX6_restore_14 : decode cX6_restore 14 = .ok (.getfield 22, 3) := by decide +kernel
theorem dX6_restore_17 : decode cX6_restore 17 = .ok (.iload_n 1, 1) := by decide +kernel
theorem dX6_restore_18 : decode cX6_restore 18 = .ok (.baload, 1) := by decide +kernel
theorem dX6_restore_19 : decode cX6_restore 19 = .ok (.ifCond .ne 6, 3) := by decide +kernel
theorem dX6_restore_22 : decode cX6_restore 22 = .ok (.ldc 229, 2) := by decide +kernel
theorem dX6_restore_24 : decode cX6_restore 24 = .ok (.ireturn, 1) := by decide +kernel
theorem dX6_restore_25 : decode cX6_restore 25 = .ok (.aload_n 0, 1) := by decide +kernel
theorem dX6_restore_26 : decode cX6_restore 26 = .ok (.getfield 19, 3) := by decide +kernel
theorem dX6_restore_29 : decode cX6_restore 29 = .ok (.sipush 149, 3) := by decide +kernel
theorem dX6_restore_32 : decode cX6_restore 32 = .ok (.iload_n 1, 1) := by decide +kernel
theorem dX6_restore_33 : decode cX6_restore 33 = .ok (.imul, 1) := by decide +kernel
theorem dX6_restore_34 : decode cX6_restore 34 = .ok (.aload_n 0, 1) := by decide +kernel
theorem dX6_restore_35 : decode cX6_restore 35 = .ok (.getfield 7, 3) := by decide +kernel
theorem dX6_restore_38 : decode cX6_restore 38 = .ok (.iconst 0, 1) := by decide +kernel
theorem dX6_restore_39 : decode cX6_restore 39 = .ok (.invokestatic 222, 3) := by decide +kernel
theorem dX6_restore_42 : decode cX6_restore 42 = .ok (.aload_n 0, 1) := by decide +kernel
theorem dX6_restore_43 : decode cX6_restore 43 = .ok (.iconst 0, 1) := by decide +kernel
theorem dX6_restore_44 : decode cX6_restore 44 = .ok (.putfield 226, 3) := by decide +kernel
theorem dX6_restore_47 : decode cX6_restore 47 = .ok (.iconst 1, 1) := by decide +kernel
theorem dX6_restore_48 : decode cX6_restore 48 = .ok (.ireturn, 1) := by decide +kernel
theorem dX6_allActs_0 : decode cX6_allActs 0 = .ok (.iconst 0, 1) := by decide +kernel
theorem dX6_allActs_1 : decode cX6_allActs 1 = .ok (.istore_n 1, 1) := by decide +kernel
theorem dX6_allActs_2 : decode cX6_allActs 2 = .ok (.iconst 0, 1) := by decide +kernel
theorem dX6_allActs_3 : decode cX6_allActs 3 = .ok (.istore_n 2, 1) := by decide +kernel
theorem dX6_allActs_4 : decode cX6_allActs 4 = .ok (.iload_n 2, 1) := by decide +kernel
theorem dX6_allActs_5 : decode cX6_allActs 5 = .ok (.aload_n 0, 1) := by decide +kernel
theorem dX6_allActs_6 : decode cX6_allActs 6 = .ok (.getfield 7, 3) := by decide +kernel
theorem dX6_allActs_9 : decode cX6_allActs 9 = .ok (.iconst 0, 1) := by decide +kernel
theorem dX6_allActs_10 : decode cX6_allActs 10 = .ok (.iaload, 1) := by decide +kernel
theorem dX6_allActs_11 : decode cX6_allActs 11 = .ok (.if_icmp .ge 20, 3) := by decide +kernel
theorem dX6_allActs_14 : decode cX6_allActs 14 = .ok (.iload_n 1, 1) := by decide +kernel
theorem dX6_allActs_15 : decode cX6_allActs 15 = .ok (.aload_n 0, 1) := by decide +kernel
theorem dX6_allActs_16 : decode cX6_allActs 16 = .ok (.getfield 7, 3) := by decide +kernel
theorem dX6_allActs_19 : decode cX6_allActs 19 = .ok (.iconst 3, 1) := by decide +kernel
theorem dX6_allActs_20 : decode cX6_allActs 20 = .ok (.iload_n 2, 1) := by decide +kernel
theorem dX6_allActs_21 : decode cX6_allActs 21 = .ok (.iadd, 1) := by decide +kernel
theorem dX6_allActs_22 : decode cX6_allActs 22 = .ok (.iaload, 1) := by decide +kernel
theorem dX6_allActs_23 : decode cX6_allActs 23 = .ok (.iadd, 1) := by decide +kernel
theorem dX6_allActs_24 : decode cX6_allActs 24 = .ok (.istore_n 1, 1) := by decide +kernel
theorem dX6_allActs_25 : decode cX6_allActs 25 = .ok (.iinc 2 1, 3) := by decide +kernel
theorem dX6_allActs_28 : decode cX6_allActs 28 = .ok (.goto (-24), 3) := by decide +kernel
theorem dX6_allActs_31 : decode cX6_allActs 31 = .ok (.iload_n 1, 1) := by decide +kernel
theorem dX6_allActs_32 : decode cX6_allActs 32 = .ok (.ireturn, 1) := by decide +kernel
theorem dX6_count_0 : decode cX6_count 0 = .ok (.iload_n 1, 1) := by decide +kernel
theorem dX6_count_1 : decode cX6_count 1 = .ok (.tableswitch 75 0 5 #[39, 46, 51, 58, 65, 70], 39) := by decide +kernel
theorem dX6_count_40 : decode cX6_count 40 = .ok (.aload_n 0, 1) := by decide +kernel
theorem dX6_count_41 : decode cX6_count 41 = .ok (.getfield 7, 3) := by decide +kernel
theorem dX6_count_44 : decode cX6_count 44 = .ok (.iconst 0, 1) := by decide +kernel
theorem dX6_count_45 : decode cX6_count 45 = .ok (.iaload, 1) := by decide +kernel
theorem dX6_count_46 : decode cX6_count 46 = .ok (.ireturn, 1) := by decide +kernel
theorem dX6_count_47 : decode cX6_count 47 = .ok (.aload_n 0, 1) := by decide +kernel
theorem dX6_count_48 : decode cX6_count 48 = .ok (.invokevirtual 282, 3) := by decide +kernel
theorem dX6_count_51 : decode cX6_count 51 = .ok (.ireturn, 1) := by decide +kernel
theorem dX6_count_52 : decode cX6_count 52 = .ok (.aload_n 0, 1) := by decide +kernel
theorem dX6_count_53 : decode cX6_count 53 = .ok (.getfield 7, 3) := by decide +kernel
theorem dX6_count_56 : decode cX6_count 56 = .ok (.iconst 1, 1) := by decide +kernel
theorem dX6_count_57 : decode cX6_count 57 = .ok (.iaload, 1) := by decide +kernel
theorem dX6_count_58 : decode cX6_count 58 = .ok (.ireturn, 1) := by decide +kernel
theorem dX6_count_59 : decode cX6_count 59 = .ok (.aload_n 0, 1) := by decide +kernel
theorem dX6_count_60 : decode cX6_count 60 = .ok (.getfield 7, 3) := by decide +kernel
theorem dX6_count_63 : decode cX6_count 63 = .ok (.iconst 2, 1) := by decide +kernel
theorem dX6_count_64 : decode cX6_count 64 = .ok (.iaload, 1) := by decide +kernel
theorem dX6_count_65 : decode cX6_count 65 = .ok (.ireturn, 1) := by decide +kernel
theorem dX6_count_66 : decode cX6_count 66 = .ok (.aload_n 0, 1) := by decide +kernel
theorem dX6_count_67 : decode cX6_count 67 = .ok (.getfield 226, 3) := by decide +kernel
theorem dX6_count_70 : decode cX6_count 70 = .ok (.ireturn, 1) := by decide +kernel
theorem dX6_count_71 : decode cX6_count 71 = .ok (.aload_n 0, 1) := by decide +kernel
theorem dX6_count_72 : decode cX6_count 72 = .ok (.getfield 130, 3) := by decide +kernel
theorem dX6_count_75 : decode cX6_count 75 = .ok (.ireturn, 1) := by decide +kernel
theorem dX6_count_76 : decode cX6_count 76 = .ok (.ldc 207, 2) := by decide +kernel
theorem dX6_count_78 : decode cX6_count 78 = .ok (.ireturn, 1) := by decide +kernel
