theorem dX5_init_0 : decode cX5_init 0 = .ok (.aload_n 0, 1) := by decide +kernel
theorem dX5_init_1 : decode cX5_init 1 = .ok (.invokespecial 1, 3) := by decide +kernel
theorem dX5_init_4 : decode cX5_init 4 = .ok (.aload_n 0, 1) := by decide +kernel
theorem dX5_init_5 : decode cX5_init 5 = .ok (.new 7, 3) := by decide +kernel
theorem dX5_init_8 : decode cX5_init 8 = .ok (.dup, 1) := by decide +kernel
theorem dX5_init_9 : decode cX5_init 9 = .ok (.invokespecial 9, 3) := by decide +kernel
theorem dX5_init_12 : decode cX5_init 12 = .ok (.putfield 10, 3) := by decide +kernel
theorem dX5_init_15 : decode cX5_init 15 = .ok (.aload_n 0, 1) := by decide +kernel
theorem dX5_init_16 : decode cX5_init 16 = .ok (.new 16, 3) := by decide +kernel
theorem dX5_init_19 : decode cX5_init 19 = .ok (.dup, 1) := by decide +kernel
theorem dX5_init_20 : decode cX5_init 20 = .ok (.invokespecial 18, 3) := by decide +kernel
theorem dX5_init_23 : decode cX5_init 23 = .ok (.putfield 19, 3) := by decide +kernel
theorem dX5_init_26 : decode cX5_init 26 = .ok (.aload_n 0, 1) := by decide +kernel
theorem dX5_init_27 : decode cX5_init 27 = .ok (.new 23, 3) := by decide +kernel
theorem dX5_init_30 : decode cX5_init 30 = .ok (.dup, 1) := by decide +kernel
theorem dX5_init_31 : decode cX5_init 31 = .ok (.invokespecial 25, 3) := by decide +kernel
theorem dX5_init_34 : decode cX5_init 34 = .ok (.putfield 26, 3) := by decide +kernel
theorem dX5_init_37 : decode cX5_init 37 = .ok (.aload_n 0, 1) := by decide +kernel
theorem dX5_init_38 : decode cX5_init 38 = .ok (.new 23, 3) := by decide +kernel
theorem dX5_init_41 : decode cX5_init 41 = .ok (.dup, 1) := by decide +kernel
theorem dX5_init_42 : decode cX5_init 42 = .ok (.invokespecial 25, 3) := by decide +kernel
theorem dX5_init_45 : decode cX5_init 45 = .ok (.putfield 30, 3) := by decide +kernel
theorem dX5_init_48 : decode cX5_init 48 = .ok (.aload_n 0, 1) := by decide +kernel
theorem dX5_init_49 : decode cX5_init 49 = .ok (.iconst 2, 1) := by decide +kernel
theorem dX5_init_50 : decode cX5_init 50 = .ok (.anewarray 23, 3) := by decide +kernel
theorem dX5_init_53 : decode cX5_init 53 = .ok (.putfield 33, 3) := by decide +kernel
theorem dX5_init_56 : decode cX5_init 56 = .ok (.aload_n 0, 1) := by decide +kernel
theorem dX5_init_57 : decode cX5_init 57 = .ok (.new 37, 3) := by decide +kernel
theorem dX5_init_60 : decode cX5_init 60 = .ok (.dup, 1) := by decide +kernel
theorem dX5_init_61 : decode cX5_init 61 = .ok (.invokespecial 39, 3) := by decide +kernel
theorem dX5_init_64 : decode cX5_init 64 = .ok (.putfield 40, 3) := by decide +kernel
theorem dX5_init_67 : decode cX5_init 67 = .ok (.aload_n 0, 1) := by decide +kernel
theorem dX5_init_68 : decode cX5_init 68 = .ok (.bipush 24, 2) := by decide +kernel
theorem dX5_init_70 : decode cX5_init 70 = .ok (.newarray .int, 2) := by decide +kernel
theorem dX5_init_72 : decode cX5_init 72 = .ok (.putfield 44, 3) := by decide +kernel
theorem dX5_init_75 : decode cX5_init 75 = .ok (.iconst 0, 1) := by decide +kernel
theorem dX5_init_76 : decode cX5_init 76 = .ok (.istore_n 1, 1) := by decide +kernel
theorem dX5_init_77 : decode cX5_init 77 = .ok (.iload_n 1, 1) := by decide +kernel
theorem dX5_init_78 : decode cX5_init 78 = .ok (.iconst 2, 1) := by decide +kernel
theorem dX5_init_79 : decode cX5_init 79 = .ok (.if_icmp .ge 22, 3) := by decide +kernel
theorem dX5_init_82 : decode cX5_init 82 = .ok (.aload_n 0, 1) := by decide +kernel
theorem dX5_init_83 : decode cX5_init 83 = .ok (.getfield 33, 3) := by decide +kernel
theorem dX5_init_86 : decode cX5_init 86 = .ok (.iload_n 1, 1) := by decide +kernel
theorem dX5_init_87 : decode cX5_init 87 = .ok (.new 23, 3) := by decide +kernel
theorem dX5_init_90 : decode cX5_init 90 = .ok (.dup, 1) := by decide +kernel
theorem dX5_init_91 : decode cX5_init 91 = .ok (.invokespecial 25, 3) := by decide +kernel
theorem dX5_init_94 : decode cX5_init 94 = .ok (.aastore, 1) := by decide +kernel
theorem dX5_init_95 : decode cX5_init 95 = .ok (.iinc 1 1, 3) := by decide +kernel
theorem dX5_init_98 : decode cX5_init 98 = .ok (.goto (-21), 3) := by decide +kernel
theorem dX5_init_101 : decode cX5_init 101 = .ok (.return_, 1) := by decide +kernel
theorem dX5_feed_0 : decode cX5_feed 0 = .ok (.iload_n 1, 1) := by decide +kernel
theorem dX5_feed_1 : decode cX5_feed 1 = .ok (.ifCond .lt 10, 3) := by decide +kernel
theorem dX5_feed_4 : decode cX5_feed 4 = .ok (.iload_n 1, 1) := by decide +kernel
theorem dX5_feed_5 : decode cX5_feed 5 = .ok (.sipush 255, 3) := by decide +kernel
theorem dX5_feed_8 : decode cX5_feed 8 = .ok (.if_icmp .le 6, 3) := by decide +kernel
theorem dX5_feed_11 : decode cX5_feed 11 = .ok (.ldc 48, 2) := by decide +kernel
theorem dX5_feed_13 : decode cX5_feed 13 = .ok (.ireturn, 1) := by decide +kernel
theorem dX5_feed_14 : decode cX5_feed 14 = .ok (.aload_n 0, 1) := by decide +kernel
theorem dX5_feed_15 : decode cX5_feed 15 = .ok (.getfield 10, 3) := by decide +kernel
theorem dX5_feed_18 : decode cX5_feed 18 = .ok (.getfield 49, 3) := by decide +kernel
theorem dX5_feed_21 : decode cX5_feed 21 = .ok (.iload_n 1, 1) := by decide +kernel
theorem dX5_feed_22 : decode cX5_feed 22 = .ok (.invokevirtual 53, 3) := by decide +kernel
theorem dX5_feed_25 : decode cX5_feed 25 = .ok (.ifCond .eq 16, 3) := by decide +kernel
theorem dX5_feed_28 : decode cX5_feed 28 = .ok (.aload_n 0, 1) := by decide +kernel
theorem dX5_feed_29 : decode cX5_feed 29 = .ok (.getfield 10, 3) := by decide +kernel
theorem dX5_feed_32 : decode cX5_feed 32 = .ok (.getfield 49, 3) := by decide +kernel
theorem dX5_feed_35 : decode cX5_feed 35 = .ok (.getfield 59, 3) := by decide +kernel
theorem dX5_feed_38 : decode cX5_feed 38 = .ok (.goto 5, 3) := by decide +kernel
theorem dX5_feed_41 : decode cX5_feed 41 = .ok (.ldc 63, 2) := by decide +kernel
theorem dX5_feed_43 : decode cX5_feed 43 = .ok (.ireturn, 1) := by decide +kernel
theorem dX5_rights_0 : decode cX5_rights 0 = .ok (.aload_n 0, 1) := by decide +kernel
theorem dX5_rights_1 : decode cX5_rights 1 = .ok (.getfield 10, 3) := by decide +kernel
theorem dX5_rights_4 : decode cX5_rights 4 = .ok (.aload_n 0, 1) := by decide +kernel
theorem dX5_rights_5 : decode cX5_rights 5 = .ok (.getfield 30, 3) := by decide +kernel
theorem dX5_rights_8 : decode cX5_rights 8 = .ok (.invokevirtual 64, 3) := by decide +kernel
theorem dX5_rights_11 : decode cX5_rights 11 = .ok (.istore_n 1, 1) := by decide +kernel
theorem dX5_rights_12 : decode cX5_rights 12 = .ok (.aload_n 0, 1) := by decide +kernel
theorem dX5_rights_13 : decode cX5_rights 13 = .ok (.getfield 10, 3) := by decide +kernel
theorem dX5_rights_16 : decode cX5_rights 16 = .ok (.getfield 49, 3) := by decide +kernel
theorem dX5_rights_19 : decode cX5_rights 19 = .ok (.iconst 0, 1) := by decide +kernel
theorem dX5_rights_20 : decode cX5_rights 20 = .ok (.putfield 59, 3) := by decide +kernel
theorem dX5_rights_23 : decode cX5_rights 23 = .ok (.iload_n 1, 1) := by decide +kernel
theorem dX5_rights_24 : decode cX5_rights 24 = .ok (.ifCond .ne 14, 3) := by decide +kernel
theorem dX5_rights_27 : decode cX5_rights 27 = .ok (.ldc 68, 2) := by decide +kernel
theorem dX5_rights_29 : decode cX5_rights 29 = .ok (.aload_n 0, 1) := by decide +kernel
theorem dX5_rights_30 : decode cX5_rights 30 = .ok (.getfield 10, 3) := by decide +kernel
theorem dX5_rights_33 : decode cX5_rights 33 = .ok (.getfield 69, 3) := by decide +kernel
theorem dX5_rights_36 : decode cX5_rights 36 = .ok (.isub, 1) := by decide +kernel
theorem dX5_rights_37 : decode cX5_rights 37 = .ok (.ireturn, 1) := by decide +kernel
theorem dX5_rights_38 : decode cX5_rights 38 = .ok (.aload_n 0, 1) := by decide +kernel
theorem dX5_rights_39 : decode cX5_rights 39 = .ok (.getfield 26, 3) := by decide +kernel
theorem dX5_rights_42 : decode cX5_rights 42 = .ok (.aload_n 0, 1) := by decide +kernel
theorem dX5_rights_43 : decode cX5_rights 43 = .ok (.getfield 30, 3) := by decide +kernel
theorem dX5_rights_46 : decode cX5_rights 46 = .ok (.invokevirtual 72, 3) := by decide +kernel
theorem dX5_rights_49 : decode cX5_rights 49 = .ok (.aload_n 0, 1) := by decide +kernel
theorem dX5_rights_50 : decode cX5_rights 50 = .ok (.getfield 19, 3) := by decide +kernel
theorem dX5_rights_53 : decode cX5_rights 53 = .ok (.invokevirtual 76, 3) := by decide +kernel
theorem dX5_rights_56 : decode cX5_rights 56 = .ok (.aload_n 0, 1) := by decide +kernel
theorem dX5_rights_57 : decode cX5_rights 57 = .ok (.getfield 26, 3) := by decide +kernel
theorem dX5_rights_60 : decode cX5_rights 60 = .ok (.getfield 79, 3) := by decide +kernel
theorem dX5_rights_63 : decode cX5_rights 63 = .ok (.ireturn, 1) := by decide +kernel
theorem dX5_fault_0 : decode cX5_fault 0 = .ok (.aload_n 0, 1) := by decide +kernel
theorem dX5_fault_1 : decode cX5_fault 1 = .ok (.getfield 10, 3) := by decide +kernel
theorem dX5_fault_4 : decode cX5_fault 4 = .ok (.getfield 82, 3) := by decide +kernel
theorem dX5_fault_7 : decode cX5_fault 7 = .ok (.ireturn, 1) := by decide +kernel
theorem dX5_undo_0 : decode cX5_undo 0 = .ok (.aload_n 0, 1) := by decide +kernel
theorem dX5_undo_1 : decode cX5_undo 1 = .ok (.getfield 19, 3) := by decide +kernel
theorem dX5_undo_4 : decode cX5_undo 4 = .ok (.getfield 85, 3) := by decide +kernel
theorem dX5_undo_7 : decode cX5_undo 7 = .ok (.ifCond .ne 6, 3) := by decide +kernel
theorem dX5_undo_10 : decode cX5_undo 10 = .ok (.ldc 86, 2) := by decide +kernel
theorem dX5_undo_12 : decode cX5_undo 12 = .ok (.ireturn, 1) := by decide +kernel
theorem dX5_undo_13 : decode cX5_undo 13 = .ok (.aload_n 0, 1) := by decide +kernel
theorem dX5_undo_14 : decode cX5_undo 14 = .ok (.getfield 19, 3) := by decide +kernel
theorem dX5_undo_17 : decode cX5_undo 17 = .ok (.aload_n 0, 1) := by decide +kernel
theorem dX5_undo_18 : decode cX5_undo 18 = .ok (.getfield 26, 3) := by decide +kernel
theorem dX5_undo_21 : decode cX5_undo 21 = .ok (.invokevirtual 87, 3) := by decide +kernel
theorem dX5_undo_24 : decode cX5_undo 24 = .ok (.aload_n 0, 1) := by decide +kernel
theorem dX5_undo_25 : decode cX5_undo 25 = .ok (.getfield 19, 3) := by decide +kernel
theorem dX5_undo_28 : decode cX5_undo 28 = .ok (.getfield 85, 3) := by decide +kernel
theorem dX5_undo_31 : decode cX5_undo 31 = .ok (.ireturn, 1) := by decide +kernel
theorem dX5_enact_0 : decode cX5_enact 0 = .ok (.aload_n 0, 1) := by decide +kernel
theorem dX5_enact_1 : decode cX5_enact 1 = .ok (.getfield 26, 3) := by decide +kernel
theorem dX5_enact_4 : decode cX5_enact 4 = .ok (.iload_n 1, 1) := by decide +kernel
theorem dX5_enact_5 : decode cX5_enact 5 = .ok (.invokevirtual 90, 3) := by decide +kernel
theorem dX5_enact_8 : decode cX5_enact 8 = .ok (.ifCond .ne 6, 3) := by decide +kernel
theorem dX5_enact_11 : decode cX5_enact 11 = .ok (.ldc 48, 2) := by decide +kernel
theorem dX5_enact_13 : decode cX5_enact 13 = .ok (.ireturn, 1) := by decide +kernel
theorem dX5_enact_14 : decode cX5_enact 14 = .ok (.aload_n 0, 1) := by decide +kernel
theorem dX5_enact_15 : decode cX5_enact 15 = .ok (.getfield 26, 3) := by decide +kernel
theorem dX5_enact_18 : decode cX5_enact 18 = .ok (.getfield 93, 3) := by decide +kernel
theorem dX5_enact_21 : decode cX5_enact 21 = .ok (.iload_n 1, 1) := by decide +kernel
theorem dX5_enact_22 : decode cX5_enact 22 = .ok (.iaload, 1) := by decide +kernel
theorem dX5_enact_23 : decode cX5_enact 23 = .ok (.istore 5, 2) := by decide +kernel
theorem dX5_enact_25 : decode cX5_enact 25 = .ok (.aload_n 0, 1) := by decide +kernel
theorem dX5_enact_26 : decode cX5_enact 26 = .ok (.getfield 26, 3) := by decide +kernel
theorem dX5_enact_29 : decode cX5_enact 29 = .ok (.iload_n 1, 1) := by decide +kernel
theorem dX5_enact_30 : decode cX5_enact 30 = .ok (.iload 5, 2) := by decide +kernel
theorem dX5_enact_32 : decode cX5_enact 32 = .ok (.iconst 0, 1) := by decide +kernel
theorem dX5_enact_33 : decode cX5_enact 33 = .ok (.iload_n 2, 1) := by decide +kernel
theorem dX5_enact_34 : decode cX5_enact 34 = .ok (.invokevirtual 96, 3) := by decide +kernel
theorem dX5_enact_37 : decode cX5_enact 37 = .ok (.ifCond .eq 34, 3) := by decide +kernel
theorem dX5_enact_40 : decode cX5_enact 40 = .ok (.aload_n 0, 1) := by decide +kernel
theorem dX5_enact_41 : decode cX5_enact 41 = .ok (.getfield 26, 3) := by decide +kernel
theorem dX5_enact_44 : decode cX5_enact 44 = .ok (.iload_n 1, 1) := by decide +kernel
theorem dX5_enact_45 : decode cX5_enact 45 = .ok (.iload 5, 2) := by decide +kernel
theorem dX5_enact_47 : decode cX5_enact 47 = .ok (.iconst 1, 1) := by decide +kernel
theorem dX5_enact_48 : decode cX5_enact 48 = .ok (.iload_n 3, 1) := by decide +kernel
theorem dX5_enact_49 : decode cX5_enact 49 = .ok (.invokevirtual 96, 3) := by decide +kernel
theorem dX5_enact_52 : decode cX5_enact 52 = .ok (.ifCond .eq 19, 3) := by decide +kernel
theorem dX5_enact_55 : decode cX5_enact 55 = .ok (.aload_n 0, 1) := by decide +kernel
theorem dX5_enact_56 : decode cX5_enact 56 = .ok (.getfield 26, 3) := by decide +kernel
theorem dX5_enact_59 : decode cX5_enact 59 = .ok (.iload_n 1, 1) := by decide +kernel
theorem dX5_enact_60 : decode cX5_enact 60 = .ok (.iload 5, 2) := by decide +kernel
theorem dX5_enact_62 : decode cX5_enact 62 = .ok (.iconst 5, 1) := by decide +kernel
theorem dX5_enact_63 : decode cX5_enact 63 = .ok (.iload 4, 2) := by decide +kernel
theorem dX5_enact_65 : decode cX5_enact 65 = .ok (.invokevirtual 96, 3) := by decide +kernel
theorem dX5_enact_68 : decode cX5_enact 68 = .ok (.ifCond .ne 6, 3) := by decide +kernel
theorem dX5_enact_71 : decode cX5_enact 71 = .ok (.ldc 48, 2) := by decide +kernel
theorem dX5_enact_73 : decode cX5_enact 73 = .ok (.ireturn, 1) := by decide +kernel
theorem dX5_enact_74 : decode cX5_enact 74 = .ok (.iload 5, 2) := by decide +kernel
theorem dX5_enact_76 : decode cX5_enact 76 = .ok (.iconst 4, 1) := by decide +kernel
theorem dX5_enact_77 : decode cX5_enact 77 = .ok (.if_icmp .lt 6, 3) := by decide +kernel
theorem dX5_enact_80 : decode cX5_enact 80 = .ok (.ldc 63, 2) := by decide +kernel
theorem dX5_enact_82 : decode cX5_enact 82 = .ok (.ireturn, 1) := by decide +kernel
theorem dX5_enact_83 : decode cX5_enact 83 = .ok (.aload_n 0, 1) := by decide +kernel
theorem dX5_enact_84 : decode cX5_enact 84 = .ok (.getfield 19, 3) := by decide +kernel
theorem dX5_enact_87 : decode cX5_enact 87 = .ok (.aload_n 0, 1) := by decide +kernel
theorem dX5_enact_88 : decode cX5_enact 88 = .ok (.getfield 26, 3) := by decide +kernel
theorem dX5_enact_91 : decode cX5_enact 91 = .ok (.invokevirtual 100, 3) := by decide +kernel
theorem dX5_enact_94 : decode cX5_enact 94 = .ok (.aload_n 0, 1) := by decide +kernel
theorem dX5_enact_95 : decode cX5_enact 95 = .ok (.getfield 26, 3) := by decide +kernel
theorem dX5_enact_98 : decode cX5_enact 98 = .ok (.iload_n 1, 1) := by decide +kernel
theorem dX5_enact_99 : decode cX5_enact 99 = .ok (.invokevirtual 103, 3) := by decide +kernel
theorem dX5_enact_102 : decode cX5_enact 102 = .ok (.aload_n 0, 1) := by decide +kernel
theorem dX5_enact_103 : decode cX5_enact 103 = .ok (.getfield 26, 3) := by decide +kernel
theorem dX5_enact_106 : decode cX5_enact 106 = .ok (.iload_n 1, 1) := by decide +kernel
theorem dX5_enact_107 : decode cX5_enact 107 = .ok (.iload 5, 2) := by decide +kernel
theorem dX5_enact_109 : decode cX5_enact 109 = .ok (.invokevirtual 107, 3) := by decide +kernel
theorem dX5_enact_112 : decode cX5_enact 112 = .ok (.istore 6, 2) := by decide +kernel
theorem dX5_enact_114 : decode cX5_enact 114 = .ok (.aload_n 0, 1) := by decide +kernel
theorem dX5_enact_115 : decode cX5_enact 115 = .ok (.getfield 26, 3) := by decide +kernel
theorem dX5_enact_118 : decode cX5_enact 118 = .ok (.getfield 111, 3) := by decide +kernel
theorem dX5_enact_121 : decode cX5_enact 121 = .ok (.iload 6, 2) := by decide +kernel
theorem dX5_enact_123 : decode cX5_enact 123 = .ok (.iconst 0, 1) := by decide +kernel
theorem dX5_enact_124 : decode cX5_enact 124 = .ok (.iadd, 1) := by decide +kernel
theorem dX5_enact_125 : decode cX5_enact 125 = .ok (.iload_n 2, 1) := by decide +kernel
theorem dX5_enact_126 : decode cX5_enact 126 = .ok (.iastore, 1) := by decide +kernel
theorem dX5_enact_127 : decode cX5_enact 127 = .ok (.aload_n 0, 1) := by decide +kernel
theorem dX5_enact_128 : decode cX5_enact 128 = .ok (.getfield 26, 3) := by decide +kernel
theorem dX5_enact_131 : decode cX5_enact 131 = .ok (.getfield 111, 3) := by decide +kernel
theorem dX5_enact_134 : decode cX5_enact 134 = .ok (.iload 6, 2) := by decide +kernel
theorem dX5_enact_136 : decode cX5_enact 136 = .ok (.iconst 1, 1) := by decide +kernel
theorem dX5_enact_137 : decode cX5_enact 137 = .ok (.iadd, 1) := by decide +kernel
theorem dX5_enact_138 : decode cX5_enact 138 = .ok (.iload_n 3, 1) := by decide +kernel
theorem dX5_enact_139 : decode cX5_enact 139 = .ok (.iastore, 1) := by decide +kernel
theorem dX5_enact_140 : decode cX5_enact 140 = .ok (.aload_n 0, 1) := by decide +kernel
theorem dX5_enact_141 : decode cX5_enact 141 = .ok (.getfield 26, 3) := by decide +kernel
theorem dX5_enact_144 : decode cX5_enact 144 = .ok (.getfield 111, 3) := by decide +kernel
theorem dX5_enact_147 : decode cX5_enact 147 = .ok (.iload 6, 2) := by decide +kernel
theorem dX5_enact_149 : decode cX5_enact 149 = .ok (.iconst 5, 1) := by decide +kernel
theorem dX5_enact_150 : decode cX5_enact 150 = .ok (.iadd, 1) := by decide +kernel
theorem dX5_enact_151 : decode cX5_enact 151 = .ok (.iload 4, 2) := by decide +kernel
theorem dX5_enact_153 : decode cX5_enact 153 = .ok (.iastore, 1) := by decide +kernel
theorem dX5_enact_154 : decode cX5_enact 154 = .ok (.iload 5, 2) := by decide +kernel
theorem dX5_enact_156 : decode cX5_enact 156 = .ok (.ireturn, 1) := by decide +kernel
theorem dX5_repeal_0 : decode cX5_repeal 0 = .ok (.aload_n 0, 1) := by decide +kernel
theorem dX5_repeal_1 : decode cX5_repeal 1 = .ok (.getfield 26, 3) := by decide +kernel
theorem dX5_repeal_4 : decode cX5_repeal 4 = .ok (.iload_n 1, 1) := by decide +kernel
theorem dX5_repeal_5 : decode cX5_repeal 5 = .ok (.invokevirtual 90, 3) := by decide +kernel
theorem dX5_repeal_8 : decode cX5_repeal 8 = .ok (.ifCond .ne 6, 3) := by decide +kernel
theorem dX5_repeal_11 : decode cX5_repeal 11 = .ok (.ldc 48, 2) := by decide +kernel
theorem dX5_repeal_13 : decode cX5_repeal 13 = .ok (.ireturn, 1) := by decide +kernel
theorem dX5_repeal_14 : decode cX5_repeal 14 = .ok (.aload_n 0, 1) := by decide +kernel
theorem dX5_repeal_15 : decode cX5_repeal 15 = .ok (.getfield 26, 3) := by decide +kernel
theorem dX5_repeal_18 : decode cX5_repeal 18 = .ok (.getfield 93, 3) := by decide +kernel
theorem dX5_repeal_21 : decode cX5_repeal 21 = .ok (.iload_n 1, 1) := by decide +kernel
theorem dX5_repeal_22 : decode cX5_repeal 22 = .ok (.iaload, 1) := by decide +kernel
theorem dX5_repeal_23 : decode cX5_repeal 23 = .ok (.iconst 1, 1) := by decide +kernel
theorem dX5_repeal_24 : decode cX5_repeal 24 = .ok (.if_icmp .gt 6, 3) := by decide +kernel
theorem dX5_repeal_27 : decode cX5_repeal 27 = .ok (.ldc 86, 2) := by decide +kernel
theorem dX5_repeal_29 : decode cX5_repeal 29 = .ok (.ireturn, 1) := by decide +kernel
theorem dX5_repeal_30 : decode cX5_repeal 30 = .ok (.aload_n 0, 1) := by decide +kernel
theorem dX5_repeal_31 : decode cX5_repeal 31 = .ok (.getfield 19, 3) := by decide +kernel
theorem dX5_repeal_34 : decode cX5_repeal 34 = .ok (.aload_n 0, 1) := by decide +kernel
theorem dX5_repeal_35 : decode cX5_repeal 35 = .ok (.getfield 26, 3) := by decide +kernel
theorem dX5_repeal_38 : decode cX5_repeal 38 = .ok (.invokevirtual 100, 3) := by decide +kernel
theorem dX5_repeal_41 : decode cX5_repeal 41 = .ok (.aload_n 0, 1) := by decide +kernel
theorem dX5_repeal_42 : decode cX5_repeal 42 = .ok (.getfield 26, 3) := by decide +kernel
theorem dX5_repeal_45 : decode cX5_repeal 45 = .ok (.getfield 93, 3) := by decide +kernel
theorem dX5_repeal_48 : decode cX5_repeal 48 = .ok (.iload_n 1, 1) := by decide +kernel
theorem dX5_repeal_49 : decode cX5_repeal 49 = .ok (.dup2, 1) := by decide +kernel
theorem dX5_repeal_50 : decode cX5_repeal 50 = .ok (.iaload, 1) := by decide +kernel
theorem dX5_repeal_51 : decode cX5_repeal 51 = .ok (.iconst 1, 1) := by decide +kernel
theorem dX5_repeal_52 : decode cX5_repeal 52 = .ok (.isub, 1) := by decide +kernel
theorem dX5_repeal_53 : decode cX5_repeal 53 = .ok (.iastore, 1) := by decide +kernel
theorem dX5_repeal_54 : decode cX5_repeal 54 = .ok (.aload_n 0, 1) := by decide +kernel
theorem dX5_repeal_55 : decode cX5_repeal 55 = .ok (.getfield 26, 3) := by decide +kernel
theorem dX5_repeal_58 : decode cX5_repeal 58 = .ok (.getfield 93, 3) := by decide +kernel
theorem dX5_repeal_61 : decode cX5_repeal 61 = .ok (.iload_n 1, 1) := by decide +kernel
theorem dX5_repeal_62 : decode cX5_repeal 62 = .ok (.iaload, 1) := by decide +kernel
theorem dX5_repeal_63 : decode cX5_repeal 63 = .ok (.ireturn, 1) := by decide +kernel
theorem dX5_alter_0 : decode cX5_alter 0 = .ok (.aload_n 0, 1) := by decide +kernel
theorem dX5_alter_1 : decode cX5_alter 1 = .ok (.getfield 26, 3) := by decide +kernel
theorem dX5_alter_4 : decode cX5_alter 4 = .ok (.iload_n 1, 1) := by decide +kernel
theorem dX5_alter_5 : decode cX5_alter 5 = .ok (.iload_n 2, 1) := by decide +kernel
theorem dX5_alter_6 : decode cX5_alter 6 = .ok (.invokevirtual 114, 3) := by decide +kernel
theorem dX5_alter_9 : decode cX5_alter 9 = .ok (.ifCond .eq 28, 3) := by decide +kernel
theorem dX5_alter_12 : decode cX5_alter 12 = .ok (.iload_n 3, 1) := by decide +kernel
theorem dX5_alter_13 : decode cX5_alter 13 = .ok (.iconst 1, 1) := by decide +kernel
theorem dX5_alter_14 : decode cX5_alter 14 = .ok (.if_icmp .lt 23, 3) := by decide +kernel
theorem dX5_alter_17 : decode cX5_alter 17 = .ok (.iload_n 3, 1) := by decide +kernel
theorem dX5_alter_18 : decode cX5_alter 18 = .ok (.iconst 5, 1) := by decide +kernel
theorem dX5_alter_19 : decode cX5_alter 19 = .ok (.if_icmp .gt 18, 3) := by decide +kernel
theorem dX5_alter_22 : decode cX5_alter 22 = .ok (.aload_n 0, 1) := by decide +kernel
theorem dX5_alter_23 : decode cX5_alter 23 = .ok (.getfield 26, 3) := by decide +kernel
theorem dX5_alter_26 : decode cX5_alter 26 = .ok (.iload_n 1, 1) := by decide +kernel
theorem dX5_alter_27 : decode cX5_alter 27 = .ok (.iload_n 2, 1) := by decide +kernel
theorem dX5_alter_28 : decode cX5_alter 28 = .ok (.iload_n 3, 1) := by decide +kernel
theorem dX5_alter_29 : decode cX5_alter 29 = .ok (.iload 4, 2) := by decide +kernel
theorem dX5_alter_31 : decode cX5_alter 31 = .ok (.invokevirtual 96, 3) := by decide +kernel
theorem dX5_alter_34 : decode cX5_alter 34 = .ok (.ifCond .ne 6, 3) := by decide +kernel
theorem dX5_alter_37 : decode cX5_alter 37 = .ok (.ldc 48, 2) := by decide +kernel
theorem dX5_alter_39 : decode cX5_alter 39 = .ok (.ireturn, 1) := by decide +kernel
theorem dX5_alter_40 : decode cX5_alter 40 = .ok (.aload_n 0, 1) := by decide +kernel
theorem dX5_alter_41 : decode cX5_alter 41 = .ok (.getfield 19, 3) := by decide +kernel
theorem dX5_alter_44 : decode cX5_alter 44 = .ok (.aload_n 0, 1) := by decide +kernel
theorem dX5_alter_45 : decode cX5_alter 45 = .ok (.getfield 26, 3) := by decide +kernel
theorem dX5_alter_48 : decode cX5_alter 48 = .ok (.invokevirtual 100, 3) := by decide +kernel
theorem dX5_alter_51 : decode cX5_alter 51 = .ok (.aload_n 0, 1) := by decide +kernel
theorem dX5_alter_52 : decode cX5_alter 52 = .ok (.getfield 26, 3) := by decide +kernel
theorem dX5_alter_55 : decode cX5_alter 55 = .ok (.iload_n 1, 1) := by decide +kernel
theorem dX5_alter_56 : decode cX5_alter 56 = .ok (.iload_n 2, 1) := by decide +kernel
theorem dX5_alter_57 : decode cX5_alter 57 = .ok (.invokevirtual 107, 3) := by decide +kernel
theorem dX5_alter_60 : decode cX5_alter 60 = .ok (.iload_n 3, 1) := by decide +kernel
theorem dX5_alter_61 : decode cX5_alter 61 = .ok (.iadd, 1) := by decide +kernel
theorem dX5_alter_62 : decode cX5_alter 62 = .ok (.istore 5, 2) := by decide +kernel
theorem dX5_alter_64 : decode cX5_alter 64 = .ok (.aload_n 0, 1) := by decide +kernel
theorem dX5_alter_65 : decode cX5_alter 65 = .ok (.getfield 26, 3) := by decide +kernel
theorem dX5_alter_68 : decode cX5_alter 68 = .ok (.getfield 111, 3) := by decide +kernel
theorem dX5_alter_71 : decode cX5_alter 71 = .ok (.iload 5, 2) := by decide +kernel
theorem dX5_alter_73 : decode cX5_alter 73 = .ok (.iaload, 1) := by decide +kernel
theorem dX5_alter_74 : decode cX5_alter 74 = .ok (.istore 6, 2) := by decide +kernel
theorem dX5_alter_76 : decode cX5_alter 76 = .ok (.aload_n 0, 1) := by decide +kernel
theorem dX5_alter_77 : decode cX5_alter 77 = .ok (.getfield 26, 3) := by decide +kernel
theorem dX5_alter_80 : decode cX5_alter 80 = .ok (.getfield 111, 3) := by decide +kernel
theorem dX5_alter_83 : decode cX5_alter 83 = .ok (.iload 5, 2) := by decide +kernel
theorem dX5_alter_85 : decode cX5_alter 85 = .ok (.iload 4, 2) := by decide +kernel
theorem dX5_alter_87 : decode cX5_alter 87 = .ok (.iastore, 1) := by decide +kernel
theorem dX5_alter_88 : decode cX5_alter 88 = .ok (.iload 6, 2) := by decide +kernel
theorem dX5_alter_90 : decode cX5_alter 90 = .ok (.ireturn, 1) := by decide +kernel
theorem dX5_die_0 : decode cX5_die 0 = .ok (.iload_n 2, 1) := by decide +kernel
theorem dX5_die_1 : decode cX5_die 1 = .ok (.ifCond .ne 11, 3) := by decide +kernel
theorem dX5_die_4 : decode cX5_die 4 = .ok (.iload_n 3, 1) := by decide +kernel
theorem dX5_die_5 : decode cX5_die 5 = .ok (.ifCond .ne 7, 3) := by decide +kernel
theorem dX5_die_8 : decode cX5_die 8 = .ok (.iconst 1, 1) := by decide +kernel
theorem dX5_die_9 : decode cX5_die 9 = .ok (.goto 4, 3) := by decide +kernel
theorem dX5_die_12 : decode cX5_die 12 = .ok (.iconst 0, 1) := by decide +kernel
theorem dX5_die_13 : decode cX5_die 13 = .ok (.istore 4, 2) := by decide +kernel
theorem dX5_die_15 : decode cX5_die 15 = .ok (.aload_n 0, 1) := by decide +kernel
theorem dX5_die_16 : decode cX5_die 16 = .ok (.getfield 26, 3) := by decide +kernel
theorem dX5_die_19 : decode cX5_die 19 = .ok (.iload_n 1, 1) := by decide +kernel
theorem dX5_die_20 : decode cX5_die 20 = .ok (.invokevirtual 118, 3) := by decide +kernel
theorem dX5_die_23 : decode cX5_die 23 = .ok (.ifCond .eq 16, 3) := by decide +kernel
theorem dX5_die_26 : decode cX5_die 26 = .ok (.iload 4, 2) := by decide +kernel
theorem dX5_die_28 : decode cX5_die 28 = .ok (.ifCond .ne 14, 3) := by decide +kernel
theorem dX5_die_31 : decode cX5_die 31 = .ok (.iload_n 2, 1) := by decide +kernel
theorem dX5_die_32 : decode cX5_die 32 = .ok (.iload_n 3, 1) := by decide +kernel
theorem dX5_die_33 : decode cX5_die 33 = .ok (.invokestatic 121, 3) := by decide +kernel
theorem dX5_die_36 : decode cX5_die 36 = .ok (.ifCond .ne 6, 3) := by decide +kernel
theorem dX5_die_39 : decode cX5_die 39 = .ok (.ldc 48, 2) := by decide +kernel
theorem dX5_die_41 : decode cX5_die 41 = .ok (.ireturn, 1) := by decide +kernel
theorem dX5_die_42 : decode cX5_die 42 = .ok (.aload_n 0, 1) := by decide +kernel
theorem dX5_die_43 : decode cX5_die 43 = .ok (.getfield 19, 3) := by decide +kernel
theorem dX5_die_46 : decode cX5_die 46 = .ok (.aload_n 0, 1) := by decide +kernel
theorem dX5_die_47 : decode cX5_die 47 = .ok (.getfield 26, 3) := by decide +kernel
theorem dX5_die_50 : decode cX5_die 50 = .ok (.invokevirtual 100, 3) := by decide +kernel
theorem dX5_die_53 : decode cX5_die 53 = .ok (.iload_n 1, 1) := by decide +kernel
theorem dX5_die_54 : decode cX5_die 54 = .ok (.iconst 2, 1) := by decide +kernel
theorem dX5_die_55 : decode cX5_die 55 = .ok (.imul, 1) := by decide +kernel
theorem dX5_die_56 : decode cX5_die 56 = .ok (.istore 5, 2) := by decide +kernel
theorem dX5_die_58 : decode cX5_die 58 = .ok (.aload_n 0, 1) := by decide +kernel
theorem dX5_die_59 : decode cX5_die 59 = .ok (.getfield 26, 3) := by decide +kernel
theorem dX5_die_62 : decode cX5_die 62 = .ok (.getfield 124, 3) := by decide +kernel
theorem dX5_die_65 : decode cX5_die 65 = .ok (.iload 5, 2) := by decide +kernel
theorem dX5_die_67 : decode cX5_die 67 = .ok (.iconst 0, 1) := by decide +kernel
theorem dX5_die_68 : decode cX5_die 68 = .ok (.iadd, 1) := by decide +kernel
theorem dX5_die_69 : decode cX5_die 69 = .ok (.iaload, 1) := by decide +kernel
theorem dX5_die_70 : decode cX5_die 70 = .ok (.iload_n 2, 1) := by decide +kernel
theorem dX5_die_71 : decode cX5_die 71 = .ok (.if_icmp .ne 19, 3) := by decide +kernel
theorem dX5_die_74 : decode cX5_die 74 = .ok (.aload_n 0, 1) := by decide +kernel
theorem dX5_die_75 : decode cX5_die 75 = .ok (.getfield 26, 3) := by decide +kernel
theorem dX5_die_78 : decode cX5_die 78 = .ok (.getfield 124, 3) := by decide +kernel
theorem dX5_die_81 : decode cX5_die 81 = .ok (.iload 5, 2) := by decide +kernel
theorem dX5_die_83 : decode cX5_die 83 = .ok (.iconst 1, 1) := by decide +kernel
theorem dX5_die_84 : decode cX5_die 84 = .ok (.iadd, 1) := by decide +kernel
theorem dX5_die_85 : decode cX5_die 85 = .ok (.iaload, 1) := by decide +kernel
theorem dX5_die_86 : decode cX5_die 86 = .ok (.iload_n 3, 1) := by decide +kernel
theorem dX5_die_87 : decode cX5_die 87 = .ok (.if_icmp .eq 7, 3) := by decide +kernel
theorem dX5_die_90 : decode cX5_die 90 = .ok (.iconst 1, 1) := by decide +kernel
theorem dX5_die_91 : decode cX5_die 91 = .ok (.goto 4, 3) := by decide +kernel
theorem dX5_die_94 : decode cX5_die 94 = .ok (.iconst 0, 1) := by decide +kernel
theorem dX5_die_95 : decode cX5_die 95 = .ok (.istore 6, 2) := by decide +kernel
theorem dX5_die_97 : decode cX5_die 97 = .ok (.aload_n 0, 1) := by decide +kernel
theorem dX5_die_98 : decode cX5_die 98 = .ok (.getfield 26, 3) := by decide +kernel
theorem dX5_die_101 : decode cX5_die 101 = .ok (.getfield 124, 3) := by decide +kernel
theorem dX5_die_104 : decode cX5_die 104 = .ok (.iload 5, 2) := by decide +kernel
theorem dX5_die_106 : decode cX5_die 106 = .ok (.iconst 0, 1) := by decide +kernel
theorem dX5_die_107 : decode cX5_die 107 = .ok (.iadd, 1) := by decide +kernel
theorem dX5_die_108 : decode cX5_die 108 = .ok (.iload_n 2, 1) := by decide +kernel
theorem dX5_die_109 : decode cX5_die 109 = .ok (.iastore, 1) := by decide +kernel
theorem dX5_die_110 : decode cX5_die 110 = .ok (.aload_n 0, 1) := by decide +kernel
theorem dX5_die_111 : decode cX5_die 111 = .ok (.getfield 26, 3) := by decide +kernel
theorem dX5_die_114 : decode cX5_die 114 = .ok (.getfield 124, 3) := by decide +kernel
theorem dX5_die_117 : decode cX5_die 117 = .ok (.iload 5, 2) := by decide +kernel
theorem dX5_die_119 : decode cX5_die 119 = .ok (.iconst 1, 1) := by decide +kernel
theorem dX5_die_120 : decode cX5_die 120 = .ok (.iadd, 1) := by decide +kernel
theorem dX5_die_121 : decode cX5_die 121 = .ok (.iload_n 3, 1) := by decide +kernel
theorem dX5_die_122 : decode cX5_die 122 = .ok (.iastore, 1) := by decide +kernel
theorem dX5_die_123 : decode cX5_die 123 = .ok (.iload 6, 2) := by decide +kernel
theorem dX5_die_125 : decode cX5_die 125 = .ok (.ifCond .eq 7, 3) := by decide +kernel
theorem dX5_die_128 : decode cX5_die 128 = .ok (.iconst 1, 1) := by decide +kernel
theorem dX5_die_129 : decode cX5_die 129 = .ok (.goto 4, 3) := by decide +kernel
theorem dX5_die_132 : decode cX5_die 132 = .ok (.iconst 0, 1) := by decide +kernel
theorem dX5_die_133 : decode cX5_die 133 = .ok (.ireturn, 1) := by decide +kernel
theorem dX5_change_0 : decode cX5_change 0 = .ok (.aload_n 0, 1) := by decide +kernel
theorem dX5_change_1 : decode cX5_change 1 = .ok (.getfield 26, 3) := by decide +kernel
theorem dX5_change_4 : decode cX5_change 4 = .ok (.iload_n 1, 1) := by decide +kernel
theorem dX5_change_5 : decode cX5_change 5 = .ok (.invokevirtual 127, 3) := by decide +kernel
theorem dX5_change_8 : decode cX5_change 8 = .ok (.ifCond .eq 26, 3) := by decide +kernel
theorem dX5_change_11 : decode cX5_change 11 = .ok (.iload_n 2, 1) := by decide +kernel
theorem dX5_change_12 : decode cX5_change 12 = .ok (.iconst 1, 1) := by decide +kernel
theorem dX5_change_13 : decode cX5_change 13 = .ok (.if_icmp .lt 21, 3) := by decide +kernel
theorem dX5_change_16 : decode cX5_change 16 = .ok (.iload_n 2, 1) := by decide +kernel
theorem dX5_change_17 : decode cX5_change 17 = .ok (.iconst 4, 1) := by decide +kernel
theorem dX5_change_18 : decode cX5_change 18 = .ok (.if_icmp .gt 16, 3) := by decide +kernel
theorem dX5_change_21 : decode cX5_change 21 = .ok (.aload_n 0, 1) := by decide +kernel
theorem dX5_change_22 : decode cX5_change 22 = .ok (.getfield 26, 3) := by decide +kernel
theorem dX5_change_25 : decode cX5_change 25 = .ok (.iload_n 1, 1) := by decide +kernel
theorem dX5_change_26 : decode cX5_change 26 = .ok (.iload_n 2, 1) := by decide +kernel
theorem dX5_change_27 : decode cX5_change 27 = .ok (.iload_n 3, 1) := by decide +kernel
theorem dX5_change_28 : decode cX5_change 28 = .ok (.invokevirtual 130, 3) := by decide +kernel
theorem dX5_change_31 : decode cX5_change 31 = .ok (.ifCond .ne 6, 3) := by decide +kernel
theorem dX5_change_34 : decode cX5_change 34 = .ok (.ldc 48, 2) := by decide +kernel
theorem dX5_change_36 : decode cX5_change 36 = .ok (.ireturn, 1) := by decide +kernel
theorem dX5_change_37 : decode cX5_change 37 = .ok (.aload_n 0, 1) := by decide +kernel
theorem dX5_change_38 : decode cX5_change 38 = .ok (.getfield 19, 3) := by decide +kernel
theorem dX5_change_41 : decode cX5_change 41 = .ok (.aload_n 0, 1) := by decide +kernel
theorem dX5_change_42 : decode cX5_change 42 = .ok (.getfield 26, 3) := by decide +kernel
theorem dX5_change_45 : decode cX5_change 45 = .ok (.invokevirtual 100, 3) := by decide +kernel
theorem dX5_change_48 : decode cX5_change 48 = .ok (.iload_n 1, 1) := by decide +kernel
theorem dX5_change_49 : decode cX5_change 49 = .ok (.iconst 5, 1) := by decide +kernel
theorem dX5_change_50 : decode cX5_change 50 = .ok (.imul, 1) := by decide +kernel
theorem dX5_change_51 : decode cX5_change 51 = .ok (.iload_n 2, 1) := by decide +kernel
theorem dX5_change_52 : decode cX5_change 52 = .ok (.iadd, 1) := by decide +kernel
theorem dX5_change_53 : decode cX5_change 53 = .ok (.istore 4, 2) := by decide +kernel
theorem dX5_change_55 : decode cX5_change 55 = .ok (.aload_n 0, 1) := by decide +kernel
theorem dX5_change_56 : decode cX5_change 56 = .ok (.getfield 26, 3) := by decide +kernel
theorem dX5_change_59 : decode cX5_change 59 = .ok (.getfield 134, 3) := by decide +kernel
theorem dX5_change_62 : decode cX5_change 62 = .ok (.iload 4, 2) := by decide +kernel
theorem dX5_change_64 : decode cX5_change 64 = .ok (.iaload, 1) := by decide +kernel
theorem dX5_change_65 : decode cX5_change 65 = .ok (.istore 5, 2) := by decide +kernel
theorem dX5_change_67 : decode cX5_change 67 = .ok (.aload_n 0, 1) := by decide +kernel
theorem dX5_change_68 : decode cX5_change 68 = .ok (.getfield 26, 3) := by decide +kernel
theorem dX5_change_71 : decode cX5_change 71 = .ok (.getfield 134, 3) := by decide +kernel
theorem dX5_change_74 : decode cX5_change 74 = .ok (.iload 4, 2) := by decide +kernel
theorem dX5_change_76 : decode cX5_change 76 = .ok (.iload_n 3, 1) := by decide +kernel
theorem dX5_change_77 : decode cX5_change 77 = .ok (.iastore, 1) := by decide +kernel
theorem dX5_change_78 : decode cX5_change 78 = .ok (.iload 5, 2) := by decide +kernel
theorem dX5_change_80 : decode cX5_change 80 = .ok (.ireturn, 1) := by decide +kernel
theorem dX5_act_0 : decode cX5_act 0 = .ok (.aload_n 0, 1) := by decide +kernel
theorem dX5_act_1 : decode cX5_act 1 = .ok (.getfield 26, 3) := by decide +kernel
theorem dX5_act_4 : decode cX5_act 4 = .ok (.iload_n 1, 1) := by decide +kernel
theorem dX5_act_5 : decode cX5_act 5 = .ok (.iload_n 2, 1) := by decide +kernel
theorem dX5_act_6 : decode cX5_act 6 = .ok (.invokevirtual 114, 3) := by decide +kernel
theorem dX5_act_9 : decode cX5_act 9 = .ok (.ifCond .eq 12, 3) := by decide +kernel
theorem dX5_act_12 : decode cX5_act 12 = .ok (.iload_n 3, 1) := by decide +kernel
theorem dX5_act_13 : decode cX5_act 13 = .ok (.ifCond .lt 8, 3) := by decide +kernel
theorem dX5_act_16 : decode cX5_act 16 = .ok (.iload_n 3, 1) := by decide +kernel
theorem dX5_act_17 : decode cX5_act 17 = .ok (.iconst 5, 1) := by decide +kernel
theorem dX5_act_18 : decode cX5_act 18 = .ok (.if_icmp .le 6, 3) := by decide +kernel
theorem dX5_act_21 : decode cX5_act 21 = .ok (.ldc 48, 2) := by decide +kernel
theorem dX5_act_23 : decode cX5_act 23 = .ok (.ireturn, 1) := by decide +kernel
theorem dX5_act_24 : decode cX5_act 24 = .ok (.aload_n 0, 1) := by decide +kernel
theorem dX5_act_25 : decode cX5_act 25 = .ok (.getfield 26, 3) := by decide +kernel
theorem dX5_act_28 : decode cX5_act 28 = .ok (.getfield 111, 3) := by decide +kernel
theorem dX5_act_31 : decode cX5_act 31 = .ok (.aload_n 0, 1) := by decide +kernel
theorem dX5_act_32 : decode cX5_act 32 = .ok (.getfield 26, 3) := by decide +kernel
theorem dX5_act_35 : decode cX5_act 35 = .ok (.iload_n 1, 1) := by decide +kernel
theorem dX5_act_36 : decode cX5_act 36 = .ok (.iload_n 2, 1) := by decide +kernel
theorem dX5_act_37 : decode cX5_act 37 = .ok (.invokevirtual 107, 3) := by decide +kernel
theorem dX5_act_40 : decode cX5_act 40 = .ok (.iload_n 3, 1) := by decide +kernel
theorem dX5_act_41 : decode cX5_act 41 = .ok (.iadd, 1) := by decide +kernel
theorem dX5_act_42 : decode cX5_act 42 = .ok (.iaload, 1) := by decide +kernel
theorem dX5_act_43 : decode cX5_act 43 = .ok (.ireturn, 1) := by decide +kernel
theorem dX5_author_0 : decode cX5_author 0 = .ok (.aload_n 0, 1) := by decide +kernel
theorem dX5_author_1 : decode cX5_author 1 = .ok (.getfield 26, 3) := by decide +kernel
theorem dX5_author_4 : decode cX5_author 4 = .ok (.iload_n 1, 1) := by decide +kernel
theorem dX5_author_5 : decode cX5_author 5 = .ok (.invokevirtual 118, 3) := by decide +kernel
theorem dX5_author_8 : decode cX5_author 8 = .ok (.ifCond .ne 6, 3) := by decide +kernel
theorem dX5_author_11 : decode cX5_author 11 = .ok (.ldc 48, 2) := by decide +kernel
theorem dX5_author_13 : decode cX5_author 13 = .ok (.ireturn, 1) := by decide +kernel
theorem dX5_author_14 : decode cX5_author 14 = .ok (.iload_n 2, 1) := by decide +kernel
theorem dX5_author_15 : decode cX5_author 15 = .ok (.tableswitch 69 0 3 #[29, 43, 57, 63], 29) := by decide +kernel
theorem dX5_author_44 : decode cX5_author 44 = .ok (.aload_n 0, 1) := by decide +kernel
theorem dX5_author_45 : decode cX5_author 45 = .ok (.getfield 26, 3) := by decide +kernel
theorem dX5_author_48 : decode cX5_author 48 = .ok (.getfield 124, 3) := by decide +kernel
theorem dX5_author_51 : decode cX5_author 51 = .ok (.iload_n 1, 1) := by decide +kernel
theorem dX5_author_52 : decode cX5_author 52 = .ok (.iconst 2, 1) := by decide +kernel
theorem dX5_author_53 : decode cX5_author 53 = .ok (.imul, 1) := by decide +kernel
theorem dX5_author_54 : decode cX5_author 54 = .ok (.iconst 0, 1) := by decide +kernel
theorem dX5_author_55 : decode cX5_author 55 = .ok (.iadd, 1) := by decide +kernel
theorem dX5_author_56 : decode cX5_author 56 = .ok (.iaload, 1) := by decide +kernel
theorem dX5_author_57 : decode cX5_author 57 = .ok (.ireturn, 1) := by decide +kernel
theorem dX5_author_58 : decode cX5_author 58 = .ok (.aload_n 0, 1) := by decide +kernel
theorem dX5_author_59 : decode cX5_author 59 = .ok (.getfield 26, 3) := by decide +kernel
theorem dX5_author_62 : decode cX5_author 62 = .ok (.getfield 124, 3) := by decide +kernel
theorem dX5_author_65 : decode cX5_author 65 = .ok (.iload_n 1, 1) := by decide +kernel
theorem dX5_author_66 : decode cX5_author 66 = .ok (.iconst 2, 1) := by decide +kernel
theorem dX5_author_67 : decode cX5_author 67 = .ok (.imul, 1) := by decide +kernel
theorem dX5_author_68 : decode cX5_author 68 = .ok (.iconst 1, 1) := by decide +kernel
theorem dX5_author_69 : decode cX5_author 69 = .ok (.iadd, 1) := by decide +kernel
theorem dX5_author_70 : decode cX5_author 70 = .ok (.iaload, 1) := by decide +kernel
theorem dX5_author_71 : decode cX5_author 71 = .ok (.ireturn, 1) := by decide +kernel
theorem dX5_author_72 : decode cX5_author 72 = .ok (.aload_n 0, 1) := by decide +kernel
theorem dX5_author_73 : decode cX5_author 73 = .ok (.iload_n 1, 1) := by decide +kernel
theorem dX5_author_74 : decode cX5_author 74 = .ok (.invokevirtual 137, 3) := by decide +kernel
theorem dX5_author_77 : decode cX5_author 77 = .ok (.ireturn, 1) := by decide +kernel
theorem dX5_author_78 : decode cX5_author 78 = .ok (.aload_n 0, 1) := by decide +kernel
theorem dX5_author_79 : decode cX5_author 79 = .ok (.iload_n 1, 1) := by decide +kernel
theorem dX5_author_80 : decode cX5_author 80 = .ok (.invokevirtual 141, 3) := by decide +kernel
theorem dX5_author_83 : decode cX5_author 83 = .ok (.ireturn, 1) := by decide +kernel
theorem dX5_author_84 : decode cX5_author 84 = .ok (.ldc 48, 2) := by decide +kernel
theorem dX5_author_86 : decode cX5_author 86 = .ok (.ireturn, 1) := by decide +kernel
theorem dX5_work_0 : decode cX5_work 0 = .ok (.aload_n 0, 1) := by decide +kernel
theorem dX5_work_1 : decode cX5_work 1 = .ok (.getfield 26, 3) := by decide +kernel
theorem dX5_work_4 : decode cX5_work 4 = .ok (.iload_n 1, 1) := by decide +kernel
theorem dX5_work_5 : decode cX5_work 5 = .ok (.invokevirtual 127, 3) := by decide +kernel
theorem dX5_work_8 : decode cX5_work 8 = .ok (.ifCond .eq 12, 3) := by decide +kernel
theorem dX5_work_11 : decode cX5_work 11 = .ok (.iload_n 2, 1) := by decide +kernel
theorem dX5_work_12 : decode cX5_work 12 = .ok (.ifCond .lt 8, 3) := by decide +kernel
theorem dX5_work_15 : decode cX5_work 15 = .ok (.iload_n 2, 1) := by decide +kernel
theorem dX5_work_16 : decode cX5_work 16 = .ok (.iconst 4, 1) := by decide +kernel
theorem dX5_work_17 : decode cX5_work 17 = .ok (.if_icmp .le 6, 3) := by decide +kernel
theorem dX5_work_20 : decode cX5_work 20 = .ok (.ldc 48, 2) := by decide +kernel
theorem dX5_work_22 : decode cX5_work 22 = .ok (.ireturn, 1) := by decide +kernel
theorem dX5_work_23 : decode cX5_work 23 = .ok (.aload_n 0, 1) := by decide +kernel
theorem dX5_work_24 : decode cX5_work 24 = .ok (.getfield 26, 3) := by decide +kernel
theorem dX5_work_27 : decode cX5_work 27 = .ok (.iload_n 1, 1) := by decide +kernel
theorem dX5_work_28 : decode cX5_work 28 = .ok (.iload_n 2, 1) := by decide +kernel
theorem dX5_work_29 : decode cX5_work 29 = .ok (.invokevirtual 144, 3) := by decide +kernel
theorem dX5_work_32 : decode cX5_work 32 = .ok (.ireturn, 1) := by decide +kernel
theorem dX5_as_0 : decode cX5_as 0 = .ok (.aload_n 0, 1) := by decide +kernel
theorem dX5_as_1 : decode cX5_as 1 = .ok (.getfield 26, 3) := by decide +kernel
theorem dX5_as_4 : decode cX5_as 4 = .ok (.iload_n 1, 1) := by decide +kernel
theorem dX5_as_5 : decode cX5_as 5 = .ok (.invokevirtual 127, 3) := by decide +kernel
theorem dX5_as_8 : decode cX5_as 8 = .ok (.ifCond .eq 13, 3) := by decide +kernel
theorem dX5_as_11 : decode cX5_as 11 = .ok (.iload_n 2, 1) := by decide +kernel
theorem dX5_as_12 : decode cX5_as 12 = .ok (.ifCond .lt 9, 3) := by decide +kernel
theorem dX5_as_15 : decode cX5_as 15 = .ok (.iload_n 2, 1) := by decide +kernel
theorem dX5_as_16 : decode cX5_as 16 = .ok (.bipush 6, 2) := by decide +kernel
theorem dX5_as_18 : decode cX5_as 18 = .ok (.if_icmp .lt 6, 3) := by decide +kernel
theorem dX5_as_21 : decode cX5_as 21 = .ok (.ldc 48, 2) := by decide +kernel
theorem dX5_as_23 : decode cX5_as 23 = .ok (.ireturn, 1) := by decide +kernel
theorem dX5_as_24 : decode cX5_as 24 = .ok (.aload_n 0, 1) := by decide +kernel
theorem dX5_as_25 : decode cX5_as 25 = .ok (.getfield 26, 3) := by decide +kernel
theorem dX5_as_28 : decode cX5_as 28 = .ok (.iload_n 1, 1) := by decide +kernel
theorem dX5_as_29 : decode cX5_as 29 = .ok (.iconst 0, 1) := by decide +kernel
theorem dX5_as_30 : decode cX5_as 30 = .ok (.invokevirtual 144, 3) := by decide +kernel
theorem dX5_as_33 : decode cX5_as 33 = .ok (.iload_n 2, 1) := by decide +kernel
theorem dX5_as_34 : decode cX5_as 34 = .ok (.invokestatic 147, 3) := by decide +kernel
theorem dX5_as_37 : decode cX5_as 37 = .ok (.ifCond .eq 7, 3) := by decide +kernel
theorem dX5_as_40 : decode cX5_as 40 = .ok (.iload_n 1, 1) := by decide +kernel
theorem dX5_as_41 : decode cX5_as 41 = .ok (.goto 5, 3) := by decide +kernel
theorem dX5_as_44 : decode cX5_as 44 = .ok (.ldc 150, 2) := by decide +kernel
theorem dX5_as_46 : decode cX5_as 46 = .ok (.ireturn, 1) := by decide +kernel
theorem dX5_inForce_0 : decode cX5_inForce 0 = .ok (.aload_n 0, 1) := by decide +kernel
theorem dX5_inForce_1 : decode cX5_inForce 1 = .ok (.getfield 26, 3) := by decide +kernel
theorem dX5_inForce_4 : decode cX5_inForce 4 = .ok (.iload_n 1, 1) := by decide +kernel
theorem dX5_inForce_5 : decode cX5_inForce 5 = .ok (.invokevirtual 90, 3) := by decide +kernel
theorem dX5_inForce_8 : decode cX5_inForce 8 = .ok (.ifCond .eq 10, 3) := by decide +kernel
theorem dX5_inForce_11 : decode cX5_inForce 11 = .ok (.iload_n 2, 1) := by decide +kernel
theorem dX5_inForce_12 : decode cX5_inForce 12 = .ok (.invokestatic 151, 3) := by decide +kernel
theorem dX5_inForce_15 : decode cX5_inForce 15 = .ok (.ifCond .ne 6, 3) := by decide +kernel
theorem dX5_inForce_18 : decode cX5_inForce 18 = .ok (.ldc 48, 2) := by decide +kernel
theorem dX5_inForce_20 : decode cX5_inForce 20 = .ok (.ireturn, 1) := by decide +kernel
theorem dX5_inForce_21 : decode cX5_inForce 21 = .ok (.aload_n 0, 1) := by decide +kernel
theorem dX5_inForce_22 : decode cX5_inForce 22 = .ok (.getfield 26, 3) := by decide +kernel
theorem dX5_inForce_25 : decode cX5_inForce 25 = .ok (.iload_n 1, 1) := by decide +kernel
theorem dX5_inForce_26 : decode cX5_inForce 26 = .ok (.iload_n 2, 1) := by decide +kernel
theorem dX5_inForce_27 : decode cX5_inForce 27 = .ok (.invokevirtual 154, 3) := by decide +kernel
theorem dX5_inForce_30 : decode cX5_inForce 30 = .ok (.ireturn, 1) := by decide +kernel
theorem dX5_term_0 : decode cX5_term 0 = .ok (.aload_n 0, 1) := by decide +kernel
theorem dX5_term_1 : decode cX5_term 1 = .ok (.getfield 26, 3) := by decide +kernel
theorem dX5_term_4 : decode cX5_term 4 = .ok (.iload_n 1, 1) := by decide +kernel
theorem dX5_term_5 : decode cX5_term 5 = .ok (.invokevirtual 127, 3) := by decide +kernel
theorem dX5_term_8 : decode cX5_term 8 = .ok (.ifCond .eq 26, 3) := by decide +kernel
theorem dX5_term_11 : decode cX5_term 11 = .ok (.aload_n 0, 1) := by decide +kernel
theorem dX5_term_12 : decode cX5_term 12 = .ok (.getfield 26, 3) := by decide +kernel
theorem dX5_term_15 : decode cX5_term 15 = .ok (.iload_n 2, 1) := by decide +kernel
theorem dX5_term_16 : decode cX5_term 16 = .ok (.iload_n 3, 1) := by decide +kernel
theorem dX5_term_17 : decode cX5_term 17 = .ok (.invokevirtual 114, 3) := by decide +kernel
theorem dX5_term_20 : decode cX5_term 20 = .ok (.ifCond .eq 14, 3) := by decide +kernel
theorem dX5_term_23 : decode cX5_term 23 = .ok (.iload 4, 2) := by decide +kernel
theorem dX5_term_25 : decode cX5_term 25 = .ok (.ifCond .lt 9, 3) := by decide +kernel
theorem dX5_term_28 : decode cX5_term 28 = .ok (.iload 4, 2) := by decide +kernel
theorem dX5_term_30 : decode cX5_term 30 = .ok (.iconst 1, 1) := by decide +kernel
theorem dX5_term_31 : decode cX5_term 31 = .ok (.if_icmp .le 6, 3) := by decide +kernel
theorem dX5_term_34 : decode cX5_term 34 = .ok (.ldc 48, 2) := by decide +kernel
theorem dX5_term_36 : decode cX5_term 36 = .ok (.ireturn, 1) := by decide +kernel
theorem dX5_term_37 : decode cX5_term 37 = .ok (.aload_n 0, 1) := by decide +kernel
theorem dX5_term_38 : decode cX5_term 38 = .ok (.getfield 40, 3) := by decide +kernel
theorem dX5_term_41 : decode cX5_term 41 = .ok (.aload_n 0, 1) := by decide +kernel
theorem dX5_term_42 : decode cX5_term 42 = .ok (.getfield 26, 3) := by decide +kernel
theorem dX5_term_45 : decode cX5_term 45 = .ok (.iload_n 1, 1) := by decide +kernel
theorem dX5_term_46 : decode cX5_term 46 = .ok (.iload_n 2, 1) := by decide +kernel
theorem dX5_term_47 : decode cX5_term 47 = .ok (.invokevirtual 157, 3) := by decide +kernel
theorem dX5_term_50 : decode cX5_term 50 = .ok (.aload_n 0, 1) := by decide +kernel
theorem dX5_term_51 : decode cX5_term 51 = .ok (.getfield 40, 3) := by decide +kernel
theorem dX5_term_54 : decode cX5_term 54 = .ok (.iload 4, 2) := by decide +kernel
theorem dX5_term_56 : decode cX5_term 56 = .ok (.ifCond .ne 7, 3) := by decide +kernel
theorem dX5_term_59 : decode cX5_term 59 = .ok (.iconst 0, 1) := by decide +kernel
theorem dX5_term_60 : decode cX5_term 60 = .ok (.goto 11, 3) := by decide +kernel
theorem dX5_term_63 : decode cX5_term 63 = .ok (.aload_n 0, 1) := by decide +kernel
theorem dX5_term_64 : decode cX5_term 64 = .ok (.getfield 26, 3) := by decide +kernel
theorem dX5_term_67 : decode cX5_term 67 = .ok (.iload_n 1, 1) := by decide +kernel
theorem dX5_term_68 : decode cX5_term 68 = .ok (.invokevirtual 161, 3) := by decide +kernel
theorem dX5_term_71 : decode cX5_term 71 = .ok (.invokevirtual 164, 3) := by decide +kernel
theorem dX5_term_74 : decode cX5_term 74 = .ok (.pop, 1) := by decide +kernel
theorem dX5_term_75 : decode cX5_term 75 = .ok (.aload_n 0, 1) := by decide +kernel
theorem dX5_term_76 : decode cX5_term 76 = .ok (.getfield 40, 3) := by decide +kernel
theorem dX5_term_79 : decode cX5_term 79 = .ok (.aload_n 0, 1) := by decide +kernel
theorem dX5_term_80 : decode cX5_term 80 = .ok (.getfield 26, 3) := by decide +kernel
theorem dX5_term_83 : decode cX5_term 83 = .ok (.iload_n 2, 1) := by decide +kernel
theorem dX5_term_84 : decode cX5_term 84 = .ok (.iload_n 3, 1) := by decide +kernel
theorem dX5_term_85 : decode cX5_term 85 = .ok (.invokevirtual 107, 3) := by decide +kernel
theorem dX5_term_88 : decode cX5_term 88 = .ok (.invokevirtual 167, 3) := by decide +kernel
theorem dX5_term_91 : decode cX5_term 91 = .ok (.ireturn, 1) := by decide +kernel
theorem dX5_free_0 : decode cX5_free 0 = .ok (.aload_n 0, 1) := by decide +kernel
theorem dX5_free_1 : decode cX5_free 1 = .ok (.getfield 26, 3) := by decide +kernel
theorem dX5_free_4 : decode cX5_free 4 = .ok (.iload_n 1, 1) := by decide +kernel
theorem dX5_free_5 : decode cX5_free 5 = .ok (.invokevirtual 127, 3) := by decide +kernel
theorem dX5_free_8 : decode cX5_free 8 = .ok (.ifCond .eq 14, 3) := by decide +kernel
theorem dX5_free_11 : decode cX5_free 11 = .ok (.aload_n 0, 1) := by decide +kernel
theorem dX5_free_12 : decode cX5_free 12 = .ok (.getfield 26, 3) := by decide +kernel
theorem dX5_free_15 : decode cX5_free 15 = .ok (.iload_n 2, 1) := by decide +kernel
theorem dX5_free_16 : decode cX5_free 16 = .ok (.invokevirtual 90, 3) := by decide +kernel
theorem dX5_free_19 : decode cX5_free 19 = .ok (.ifCond .ne 6, 3) := by decide +kernel
theorem dX5_free_22 : decode cX5_free 22 = .ok (.ldc 48, 2) := by decide +kernel
theorem dX5_free_24 : decode cX5_free 24 = .ok (.ireturn, 1) := by decide +kernel
theorem dX5_free_25 : decode cX5_free 25 = .ok (.aload_n 0, 1) := by decide +kernel
theorem dX5_free_26 : decode cX5_free 26 = .ok (.getfield 40, 3) := by decide +kernel
theorem dX5_free_29 : decode cX5_free 29 = .ok (.aload_n 0, 1) := by decide +kernel
theorem dX5_free_30 : decode cX5_free 30 = .ok (.getfield 26, 3) := by decide +kernel
theorem dX5_free_33 : decode cX5_free 33 = .ok (.iload_n 1, 1) := by decide +kernel
theorem dX5_free_34 : decode cX5_free 34 = .ok (.iload_n 2, 1) := by decide +kernel
theorem dX5_free_35 : decode cX5_free 35 = .ok (.invokevirtual 157, 3) := by decide +kernel
theorem dX5_free_38 : decode cX5_free 38 = .ok (.iload_n 3, 1) := by decide +kernel
theorem dX5_free_39 : decode cX5_free 39 = .ok (.tableswitch 103 0 4 #[33, 48, 63, 78, 88], 33) := by decide +kernel
theorem dX5_free_72 : decode cX5_free 72 = .ok (.aload_n 0, 1) := by decide +kernel
theorem dX5_free_73 : decode cX5_free 73 = .ok (.getfield 40, 3) := by decide +kernel
theorem dX5_free_76 : decode cX5_free 76 = .ok (.invokevirtual 170, 3) := by decide +kernel
theorem dX5_free_79 : decode cX5_free 79 = .ok (.aload_n 0, 1) := by decide +kernel
theorem dX5_free_80 : decode cX5_free 80 = .ok (.getfield 40, 3) := by decide +kernel
theorem dX5_free_83 : decode cX5_free 83 = .ok (.getfield 173, 3) := by decide +kernel
theorem dX5_free_86 : decode cX5_free 86 = .ok (.ireturn, 1) := by decide +kernel
theorem dX5_free_87 : decode cX5_free 87 = .ok (.aload_n 0, 1) := by decide +kernel
theorem dX5_free_88 : decode cX5_free 88 = .ok (.getfield 40, 3) := by decide +kernel
theorem dX5_free_91 : decode cX5_free 91 = .ok (.invokevirtual 170, 3) := by decide +kernel
theorem dX5_free_94 : decode cX5_free 94 = .ok (.aload_n 0, 1) := by decide +kernel
theorem dX5_free_95 : decode cX5_free 95 = .ok (.getfield 40, 3) := by decide +kernel
theorem dX5_free_98 : decode cX5_free 98 = .ok (.getfield 176, 3) := by decide +kernel
theorem dX5_free_101 : decode cX5_free 101 = .ok (.ireturn, 1) := by decide +kernel
theorem dX5_free_102 : decode cX5_free 102 = .ok (.aload_n 0, 1) := by decide +kernel
theorem dX5_free_103 : decode cX5_free 103 = .ok (.getfield 40, 3) := by decide +kernel
theorem dX5_free_106 : decode cX5_free 106 = .ok (.invokevirtual 179, 3) := by decide +kernel
theorem dX5_free_109 : decode cX5_free 109 = .ok (.aload_n 0, 1) := by decide +kernel
theorem dX5_free_110 : decode cX5_free 110 = .ok (.getfield 40, 3) := by decide +kernel
theorem dX5_free_113 : decode cX5_free 113 = .ok (.getfield 182, 3) := by decide +kernel
theorem dX5_free_116 : decode cX5_free 116 = .ok (.ireturn, 1) := by decide +kernel
theorem dX5_free_117 : decode cX5_free 117 = .ok (.aload_n 0, 1) := by decide +kernel
theorem dX5_free_118 : decode cX5_free 118 = .ok (.getfield 40, 3) := by decide +kernel
theorem dX5_free_121 : decode cX5_free 121 = .ok (.getfield 185, 3) := by decide +kernel
theorem dX5_free_124 : decode cX5_free 124 = .ok (.iconst 1, 1) := by decide +kernel
theorem dX5_free_125 : decode cX5_free 125 = .ok (.isub, 1) := by decide +kernel
theorem dX5_free_126 : decode cX5_free 126 = .ok (.ireturn, 1) := by decide +kernel
theorem dX5_free_127 : decode cX5_free 127 = .ok (.aload_n 0, 1) := by decide +kernel
theorem dX5_free_128 : decode cX5_free 128 = .ok (.getfield 40, 3) := by decide +kernel
theorem dX5_free_131 : decode cX5_free 131 = .ok (.invokevirtual 179, 3) := by decide +kernel
theorem dX5_free_134 : decode cX5_free 134 = .ok (.aload_n 0, 1) := by decide +kernel
theorem dX5_free_135 : decode cX5_free 135 = .ok (.getfield 40, 3) := by decide +kernel
theorem dX5_free_138 : decode cX5_free 138 = .ok (.getfield 188, 3) := by decide +kernel
theorem dX5_free_141 : decode cX5_free 141 = .ok (.ireturn, 1) := by decide +kernel
theorem dX5_free_142 : decode cX5_free 142 = .ok (.ldc 48, 2) := by decide +kernel
theorem dX5_free_144 : decode cX5_free 144 = .ok (.ireturn, 1) := by decide +kernel
theorem dX5_isProtected_0 : decode cX5_isProtected 0 = .ok (.aload_n 0, 1) := by decide +kernel
theorem dX5_isProtected_1 : decode cX5_isProtected 1 = .ok (.getfield 26, 3) := by decide +kernel
theorem dX5_isProtected_4 : decode cX5_isProtected 4 = .ok (.iload_n 1, 1) := by decide +kernel
theorem dX5_isProtected_5 : decode cX5_isProtected 5 = .ok (.invokevirtual 127, 3) := by decide +kernel
theorem dX5_isProtected_8 : decode cX5_isProtected 8 = .ok (.ifCond .eq 21, 3) := by decide +kernel
theorem dX5_isProtected_11 : decode cX5_isProtected 11 = .ok (.aload_n 0, 1) := by decide +kernel
theorem dX5_isProtected_12 : decode cX5_isProtected 12 = .ok (.getfield 26, 3) := by decide +kernel
theorem dX5_isProtected_15 : decode cX5_isProtected 15 = .ok (.iload_n 2, 1) := by decide +kernel
theorem dX5_isProtected_16 : decode cX5_isProtected 16 = .ok (.invokevirtual 90, 3) := by decide +kernel
theorem dX5_isProtected_19 : decode cX5_isProtected 19 = .ok (.ifCond .eq 10, 3) := by decide +kernel
theorem dX5_isProtected_22 : decode cX5_isProtected 22 = .ok (.iload_n 3, 1) := by decide +kernel
theorem dX5_isProtected_23 : decode cX5_isProtected 23 = .ok (.invokestatic 151, 3) := by decide +kernel
theorem dX5_isProtected_26 : decode cX5_isProtected 26 = .ok (.ifCond .ne 6, 3) := by decide +kernel
theorem dX5_isProtected_29 : decode cX5_isProtected 29 = .ok (.ldc 48, 2) := by decide +kernel
theorem dX5_isProtected_31 : decode cX5_isProtected 31 = .ok (.ireturn, 1) := by decide +kernel
theorem dX5_isProtected_32 : decode cX5_isProtected 32 = .ok (.aload_n 0, 1) := by decide +kernel
theorem dX5_isProtected_33 : decode cX5_isProtected 33 = .ok (.getfield 40, 3) := by decide +kernel
theorem dX5_isProtected_36 : decode cX5_isProtected 36 = .ok (.aload_n 0, 1) := by decide +kernel
theorem dX5_isProtected_37 : decode cX5_isProtected 37 = .ok (.getfield 26, 3) := by decide +kernel
theorem dX5_isProtected_40 : decode cX5_isProtected 40 = .ok (.iload_n 1, 1) := by decide +kernel
theorem dX5_isProtected_41 : decode cX5_isProtected 41 = .ok (.iload_n 2, 1) := by decide +kernel
theorem dX5_isProtected_42 : decode cX5_isProtected 42 = .ok (.invokevirtual 157, 3) := by decide +kernel
theorem dX5_isProtected_45 : decode cX5_isProtected 45 = .ok (.aload_n 0, 1) := by decide +kernel
theorem dX5_isProtected_46 : decode cX5_isProtected 46 = .ok (.getfield 40, 3) := by decide +kernel
theorem dX5_isProtected_49 : decode cX5_isProtected 49 = .ok (.iload_n 3, 1) := by decide +kernel
theorem dX5_isProtected_50 : decode cX5_isProtected 50 = .ok (.invokevirtual 191, 3) := by decide +kernel
theorem dX5_isProtected_53 : decode cX5_isProtected 53 = .ok (.ireturn, 1) := by decide +kernel
theorem dX5_span_0 : decode cX5_span 0 = .ok (.aload_n 0, 1) := by decide +kernel
theorem dX5_span_1 : decode cX5_span 1 = .ok (.getfield 26, 3) := by decide +kernel
theorem dX5_span_4 : decode cX5_span 4 = .ok (.iload_n 1, 1) := by decide +kernel
theorem dX5_span_5 : decode cX5_span 5 = .ok (.invokevirtual 127, 3) := by decide +kernel
theorem dX5_span_8 : decode cX5_span 8 = .ok (.ifCond .eq 29, 3) := by decide +kernel
theorem dX5_span_11 : decode cX5_span 11 = .ok (.aload_n 0, 1) := by decide +kernel
theorem dX5_span_12 : decode cX5_span 12 = .ok (.getfield 26, 3) := by decide +kernel
theorem dX5_span_15 : decode cX5_span 15 = .ok (.iload_n 2, 1) := by decide +kernel
theorem dX5_span_16 : decode cX5_span 16 = .ok (.invokevirtual 90, 3) := by decide +kernel
theorem dX5_span_19 : decode cX5_span 19 = .ok (.ifCond .eq 18, 3) := by decide +kernel
theorem dX5_span_22 : decode cX5_span 22 = .ok (.iload_n 3, 1) := by decide +kernel
theorem dX5_span_23 : decode cX5_span 23 = .ok (.ifCond .lt 14, 3) := by decide +kernel
theorem dX5_span_26 : decode cX5_span 26 = .ok (.iload 4, 2) := by decide +kernel
theorem dX5_span_28 : decode cX5_span 28 = .ok (.ifCond .lt 9, 3) := by decide +kernel
theorem dX5_span_31 : decode cX5_span 31 = .ok (.iload 4, 2) := by decide +kernel
theorem dX5_span_33 : decode cX5_span 33 = .ok (.iconst 1, 1) := by decide +kernel
theorem dX5_span_34 : decode cX5_span 34 = .ok (.if_icmp .le 6, 3) := by decide +kernel
theorem dX5_span_37 : decode cX5_span 37 = .ok (.ldc 48, 2) := by decide +kernel
theorem dX5_span_39 : decode cX5_span 39 = .ok (.ireturn, 1) := by decide +kernel
theorem dX5_span_40 : decode cX5_span 40 = .ok (.aload_n 0, 1) := by decide +kernel
theorem dX5_span_41 : decode cX5_span 41 = .ok (.getfield 40, 3) := by decide +kernel
theorem dX5_span_44 : decode cX5_span 44 = .ok (.aload_n 0, 1) := by decide +kernel
theorem dX5_span_45 : decode cX5_span 45 = .ok (.getfield 26, 3) := by decide +kernel
theorem dX5_span_48 : decode cX5_span 48 = .ok (.iload_n 1, 1) := by decide +kernel
theorem dX5_span_49 : decode cX5_span 49 = .ok (.iload_n 2, 1) := by decide +kernel
theorem dX5_span_50 : decode cX5_span 50 = .ok (.invokevirtual 157, 3) := by decide +kernel
theorem dX5_span_53 : decode cX5_span 53 = .ok (.aload_n 0, 1) := by decide +kernel
theorem dX5_span_54 : decode cX5_span 54 = .ok (.getfield 40, 3) := by decide +kernel
theorem dX5_span_57 : decode cX5_span 57 = .ok (.invokevirtual 179, 3) := by decide +kernel
theorem dX5_span_60 : decode cX5_span 60 = .ok (.aload_n 0, 1) := by decide +kernel
theorem dX5_span_61 : decode cX5_span 61 = .ok (.getfield 40, 3) := by decide +kernel
theorem dX5_span_64 : decode cX5_span 64 = .ok (.iload_n 3, 1) := by decide +kernel
theorem dX5_span_65 : decode cX5_span 65 = .ok (.iload 4, 2) := by decide +kernel
theorem dX5_span_67 : decode cX5_span 67 = .ok (.invokevirtual 194, 3) := by decide +kernel
theorem dX5_span_70 : decode cX5_span 70 = .ok (.ireturn, 1) := by decide +kernel
theorem dX5_everywhere_0 : decode cX5_everywhere 0 = .ok (.aload_n 0, 1) := by decide +kernel
theorem dX5_everywhere_1 : decode cX5_everywhere 1 = .ok (.getfield 26, 3) := by decide +kernel
theorem dX5_everywhere_4 : decode cX5_everywhere 4 = .ok (.iload_n 1, 1) := by decide +kernel
theorem dX5_everywhere_5 : decode cX5_everywhere 5 = .ok (.invokevirtual 127, 3) := by decide +kernel
theorem dX5_everywhere_8 : decode cX5_everywhere 8 = .ok (.ifCond .eq 12, 3) := by decide +kernel
theorem dX5_everywhere_11 : decode cX5_everywhere 11 = .ok (.iload_n 2, 1) := by decide +kernel
theorem dX5_everywhere_12 : decode cX5_everywhere 12 = .ok (.ifCond .lt 8, 3) := by decide +kernel
theorem dX5_everywhere_15 : decode cX5_everywhere 15 = .ok (.iload_n 2, 1) := by decide +kernel
theorem dX5_everywhere_16 : decode cX5_everywhere 16 = .ok (.iconst 3, 1) := by decide +kernel
theorem dX5_everywhere_17 : decode cX5_everywhere 17 = .ok (.if_icmp .le 6, 3) := by decide +kernel
theorem dX5_everywhere_20 : decode cX5_everywhere 20 = .ok (.ldc 48, 2) := by decide +kernel
theorem dX5_everywhere_22 : decode cX5_everywhere 22 = .ok (.ireturn, 1) := by decide +kernel
theorem dX5_everywhere_23 : decode cX5_everywhere 23 = .ok (.ldc 150, 2) := by decide +kernel
theorem dX5_everywhere_25 : decode cX5_everywhere 25 = .ok (.istore_n 3, 1) := by decide +kernel
theorem dX5_everywhere_26 : decode cX5_everywhere 26 = .ok (.sipush 9999, 3) := by decide +kernel
theorem dX5_everywhere_29 : decode cX5_everywhere 29 = .ok (.istore 4, 2) := by decide +kernel
theorem dX5_everywhere_31 : decode cX5_everywhere 31 = .ok (.iconst 0, 1) := by decide +kernel
theorem dX5_everywhere_32 : decode cX5_everywhere 32 = .ok (.istore 5, 2) := by decide +kernel
theorem dX5_everywhere_34 : decode cX5_everywhere 34 = .ok (.iconst 0, 1) := by decide +kernel
theorem dX5_everywhere_35 : decode cX5_everywhere 35 = .ok (.istore 6, 2) := by decide +kernel
theorem dX5_everywhere_37 : decode cX5_everywhere 37 = .ok (.iconst 0, 1) := by decide +kernel
theorem dX5_everywhere_38 : decode cX5_everywhere 38 = .ok (.istore 7, 2) := by decide +kernel
theorem dX5_everywhere_40 : decode cX5_everywhere 40 = .ok (.iload 7, 2) := by decide +kernel
theorem dX5_everywhere_42 : decode cX5_everywhere 42 = .ok (.aload_n 0, 1) := by decide +kernel
theorem dX5_everywhere_43 : decode cX5_everywhere 43 = .ok (.getfield 26, 3) := by decide +kernel
theorem dX5_everywhere_46 : decode cX5_everywhere 46 = .ok (.getfield 197, 3) := by decide +kernel
theorem dX5_everywhere_49 : decode cX5_everywhere 49 = .ok (.if_icmp .ge 94, 3) := by decide +kernel
theorem dX5_everywhere_52 : decode cX5_everywhere 52 = .ok (.aload_n 0, 1) := by decide +kernel
theorem dX5_everywhere_53 : decode cX5_everywhere 53 = .ok (.getfield 40, 3) := by decide +kernel
theorem dX5_everywhere_56 : decode cX5_everywhere 56 = .ok (.aload_n 0, 1) := by decide +kernel
theorem dX5_everywhere_57 : decode cX5_everywhere 57 = .ok (.getfield 26, 3) := by decide +kernel
theorem dX5_everywhere_60 : decode cX5_everywhere 60 = .ok (.iload_n 1, 1) := by decide +kernel
theorem dX5_everywhere_61 : decode cX5_everywhere 61 = .ok (.iload 7, 2) := by decide +kernel
theorem dX5_everywhere_63 : decode cX5_everywhere 63 = .ok (.invokevirtual 157, 3) := by decide +kernel
theorem dX5_everywhere_66 : decode cX5_everywhere 66 = .ok (.aload_n 0, 1) := by decide +kernel
theorem dX5_everywhere_67 : decode cX5_everywhere 67 = .ok (.getfield 40, 3) := by decide +kernel
theorem dX5_everywhere_70 : decode cX5_everywhere 70 = .ok (.invokevirtual 170, 3) := by decide +kernel
theorem dX5_everywhere_73 : decode cX5_everywhere 73 = .ok (.iload_n 3, 1) := by decide +kernel
theorem dX5_everywhere_74 : decode cX5_everywhere 74 = .ok (.ldc 150, 2) := by decide +kernel
theorem dX5_everywhere_76 : decode cX5_everywhere 76 = .ok (.if_icmp .eq 15, 3) := by decide +kernel
theorem dX5_everywhere_79 : decode cX5_everywhere 79 = .ok (.aload_n 0, 1) := by decide +kernel
theorem dX5_everywhere_80 : decode cX5_everywhere 80 = .ok (.getfield 40, 3) := by decide +kernel
theorem dX5_everywhere_83 : decode cX5_everywhere 83 = .ok (.getfield 173, 3) := by decide +kernel
theorem dX5_everywhere_86 : decode cX5_everywhere 86 = .ok (.iload 4, 2) := by decide +kernel
theorem dX5_everywhere_88 : decode cX5_everywhere 88 = .ok (.if_icmp .ge 15, 3) := by decide +kernel
theorem dX5_everywhere_91 : decode cX5_everywhere 91 = .ok (.iload 7, 2) := by decide +kernel
theorem dX5_everywhere_93 : decode cX5_everywhere 93 = .ok (.istore_n 3, 1) := by decide +kernel
theorem dX5_everywhere_94 : decode cX5_everywhere 94 = .ok (.aload_n 0, 1) := by decide +kernel
theorem dX5_everywhere_95 : decode cX5_everywhere 95 = .ok (.getfield 40, 3) := by decide +kernel
theorem dX5_everywhere_98 : decode cX5_everywhere 98 = .ok (.getfield 173, 3) := by decide +kernel
theorem dX5_everywhere_101 : decode cX5_everywhere 101 = .ok (.istore 4, 2) := by decide +kernel
theorem dX5_everywhere_103 : decode cX5_everywhere 103 = .ok (.iload 5, 2) := by decide +kernel
theorem dX5_everywhere_105 : decode cX5_everywhere 105 = .ok (.aload_n 0, 1) := by decide +kernel
theorem dX5_everywhere_106 : decode cX5_everywhere 106 = .ok (.getfield 40, 3) := by decide +kernel
theorem dX5_everywhere_109 : decode cX5_everywhere 109 = .ok (.getfield 176, 3) := by decide +kernel
theorem dX5_everywhere_112 : decode cX5_everywhere 112 = .ok (.invokestatic 200, 3) := by decide +kernel
theorem dX5_everywhere_115 : decode cX5_everywhere 115 = .ok (.istore 5, 2) := by decide +kernel
theorem dX5_everywhere_117 : decode cX5_everywhere 117 = .ok (.aload_n 0, 1) := by decide +kernel
theorem dX5_everywhere_118 : decode cX5_everywhere 118 = .ok (.getfield 40, 3) := by decide +kernel
theorem dX5_everywhere_121 : decode cX5_everywhere 121 = .ok (.getfield 173, 3) := by decide +kernel
theorem dX5_everywhere_124 : decode cX5_everywhere 124 = .ok (.aload_n 0, 1) := by decide +kernel
theorem dX5_everywhere_125 : decode cX5_everywhere 125 = .ok (.getfield 40, 3) := by decide +kernel
theorem dX5_everywhere_128 : decode cX5_everywhere 128 = .ok (.getfield 176, 3) := by decide +kernel
theorem dX5_everywhere_131 : decode cX5_everywhere 131 = .ok (.if_icmp .eq 6, 3) := by decide +kernel
theorem dX5_everywhere_134 : decode cX5_everywhere 134 = .ok (.iinc 6 1, 3) := by decide +kernel
theorem dX5_everywhere_137 : decode cX5_everywhere 137 = .ok (.iinc 7 1, 3) := by decide +kernel
theorem dX5_everywhere_140 : decode cX5_everywhere 140 = .ok (.goto (-100), 3) := by decide +kernel
theorem dX5_everywhere_143 : decode cX5_everywhere 143 = .ok (.iload_n 2, 1) := by decide +kernel
theorem dX5_everywhere_144 : decode cX5_everywhere 144 = .ok (.tableswitch 36 0 2 #[28, 30, 33], 28) := by decide +kernel
theorem dX5_everywhere_172 : decode cX5_everywhere 172 = .ok (.iload_n 3, 1) := by decide +kernel
theorem dX5_everywhere_173 : decode cX5_everywhere 173 = .ok (.ireturn, 1) := by decide +kernel
theorem dX5_everywhere_174 : decode cX5_everywhere 174 = .ok (.iload 4, 2) := by decide +kernel
theorem dX5_everywhere_176 : decode cX5_everywhere 176 = .ok (.ireturn, 1) := by decide +kernel
theorem dX5_everywhere_177 : decode cX5_everywhere 177 = .ok (.iload 5, 2) := by decide +kernel
theorem dX5_everywhere_179 : decode cX5_everywhere 179 = .ok (.ireturn, 1) := by decide +kernel
theorem dX5_everywhere_180 : decode cX5_everywhere 180 = .ok (.iload 6, 2) := by decide +kernel
theorem dX5_everywhere_182 : decode cX5_everywhere 182 = .ok (.ireturn, 1) := by decide +kernel
theorem dX5_next_0 : decode cX5_next 0 = .ok (.aload_n 0, 1) := by decide +kernel
theorem dX5_next_1 : decode cX5_next 1 = .ok (.getfield 26, 3) := by decide +kernel
theorem dX5_next_4 : decode cX5_next 4 = .ok (.getfield 197, 3) := by decide +kernel
theorem dX5_next_7 : decode cX5_next 7 = .ok (.ifCond .ne 6, 3) := by decide +kernel
theorem dX5_next_10 : decode cX5_next 10 = .ok (.ldc 86, 2) := by decide +kernel
theorem dX5_next_12 : decode cX5_next 12 = .ok (.ireturn, 1) := by decide +kernel
theorem dX5_next_13 : decode cX5_next 13 = .ok (.iload_n 1, 1) := by decide +kernel
theorem dX5_next_14 : decode cX5_next 14 = .ok (.invokestatic 151, 3) := by decide +kernel
theorem dX5_next_17 : decode cX5_next 17 = .ok (.ifCond .eq 16, 3) := by decide +kernel
theorem dX5_next_20 : decode cX5_next 20 = .ok (.iload_n 2, 1) := by decide +kernel
theorem dX5_next_21 : decode cX5_next 21 = .ok (.ifCond .lt 12, 3) := by decide +kernel
theorem dX5_next_24 : decode cX5_next 24 = .ok (.iload_n 3, 1) := by decide +kernel
theorem dX5_next_25 : decode cX5_next 25 = .ok (.ifCond .lt 8, 3) := by decide +kernel
theorem dX5_next_28 : decode cX5_next 28 = .ok (.iload_n 3, 1) := by decide +kernel
theorem dX5_next_29 : decode cX5_next 29 = .ok (.iconst 1, 1) := by decide +kernel
theorem dX5_next_30 : decode cX5_next 30 = .ok (.if_icmp .le 6, 3) := by decide +kernel
theorem dX5_next_33 : decode cX5_next 33 = .ok (.ldc 48, 2) := by decide +kernel
theorem dX5_next_35 : decode cX5_next 35 = .ok (.ireturn, 1) := by decide +kernel
theorem dX5_next_36 : decode cX5_next 36 = .ok (.aload_n 0, 1) := by decide +kernel
theorem dX5_next_37 : decode cX5_next 37 = .ok (.invokevirtual 205, 3) := by decide +kernel
theorem dX5_next_40 : decode cX5_next 40 = .ok (.aload_n 0, 1) := by decide +kernel
theorem dX5_next_41 : decode cX5_next 41 = .ok (.iload_n 1, 1) := by decide +kernel
theorem dX5_next_42 : decode cX5_next 42 = .ok (.iload_n 2, 1) := by decide +kernel
theorem dX5_next_43 : decode cX5_next 43 = .ok (.invokevirtual 208, 3) := by decide +kernel
theorem dX5_next_46 : decode cX5_next 46 = .ok (.istore 4, 2) := by decide +kernel
theorem dX5_next_48 : decode cX5_next 48 = .ok (.iload 4, 2) := by decide +kernel
theorem dX5_next_50 : decode cX5_next 50 = .ok (.ldc 150, 2) := by decide +kernel
theorem dX5_next_52 : decode cX5_next 52 = .ok (.if_icmp .ne 6, 3) := by decide +kernel
theorem dX5_next_55 : decode cX5_next 55 = .ok (.ldc 150, 2) := by decide +kernel
theorem dX5_next_57 : decode cX5_next 57 = .ok (.ireturn, 1) := by decide +kernel
theorem dX5_next_58 : decode cX5_next 58 = .ok (.iload_n 3, 1) := by decide +kernel
theorem dX5_next_59 : decode cX5_next 59 = .ok (.ifCond .ne 13, 3) := by decide +kernel
theorem dX5_next_62 : decode cX5_next 62 = .ok (.aload_n 0, 1) := by decide +kernel
theorem dX5_next_63 : decode cX5_next 63 = .ok (.getfield 44, 3) := by decide +kernel
theorem dX5_next_66 : decode cX5_next 66 = .ok (.iload 4, 2) := by decide +kernel
theorem dX5_next_68 : decode cX5_next 68 = .ok (.iaload, 1) := by decide +kernel
theorem dX5_next_69 : decode cX5_next 69 = .ok (.goto 17, 3) := by decide +kernel
theorem dX5_next_72 : decode cX5_next 72 = .ok (.bipush 10, 2) := by decide +kernel
theorem dX5_next_74 : decode cX5_next 74 = .ok (.iload 4, 2) := by decide +kernel
theorem dX5_next_76 : decode cX5_next 76 = .ok (.bipush 6, 2) := by decide +kernel
theorem dX5_next_78 : decode cX5_next 78 = .ok (.idiv, 1) := by decide +kernel
theorem dX5_next_79 : decode cX5_next 79 = .ok (.imul, 1) := by decide +kernel
theorem dX5_next_80 : decode cX5_next 80 = .ok (.iload 4, 2) := by decide +kernel
theorem dX5_next_82 : decode cX5_next 82 = .ok (.bipush 6, 2) := by decide +kernel
theorem dX5_next_84 : decode cX5_next 84 = .ok (.irem, 1) := by decide +kernel
theorem dX5_next_85 : decode cX5_next 85 = .ok (.iadd, 1) := by decide +kernel
theorem dX5_next_86 : decode cX5_next 86 = .ok (.ireturn, 1) := by decide +kernel
theorem dX5_longer_0 : decode cX5_longer 0 = .ok (.aload_n 0, 1) := by decide +kernel
theorem dX5_longer_1 : decode cX5_longer 1 = .ok (.getfield 26, 3) := by decide +kernel
theorem dX5_longer_4 : decode cX5_longer 4 = .ok (.iload_n 1, 1) := by decide +kernel
theorem dX5_longer_5 : decode cX5_longer 5 = .ok (.invokevirtual 127, 3) := by decide +kernel
theorem dX5_longer_8 : decode cX5_longer 8 = .ok (.ifCond .eq 26, 3) := by decide +kernel
theorem dX5_longer_11 : decode cX5_longer 11 = .ok (.aload_n 0, 1) := by decide +kernel
theorem dX5_longer_12 : decode cX5_longer 12 = .ok (.getfield 26, 3) := by decide +kernel
theorem dX5_longer_15 : decode cX5_longer 15 = .ok (.iload_n 2, 1) := by decide +kernel
theorem dX5_longer_16 : decode cX5_longer 16 = .ok (.invokevirtual 90, 3) := by decide +kernel
theorem dX5_longer_19 : decode cX5_longer 19 = .ok (.ifCond .eq 15, 3) := by decide +kernel
theorem dX5_longer_22 : decode cX5_longer 22 = .ok (.iload_n 3, 1) := by decide +kernel
theorem dX5_longer_23 : decode cX5_longer 23 = .ok (.bipush (-50), 2) := by decide +kernel
theorem dX5_longer_25 : decode cX5_longer 25 = .ok (.if_icmp .lt 9, 3) := by decide +kernel
theorem dX5_longer_28 : decode cX5_longer 28 = .ok (.iload_n 3, 1) := by decide +kernel
theorem dX5_longer_29 : decode cX5_longer 29 = .ok (.bipush 50, 2) := by decide +kernel
theorem dX5_longer_31 : decode cX5_longer 31 = .ok (.if_icmp .le 6, 3) := by decide +kernel
theorem dX5_longer_34 : decode cX5_longer 34 = .ok (.ldc 48, 2) := by decide +kernel
theorem dX5_longer_36 : decode cX5_longer 36 = .ok (.ireturn, 1) := by decide +kernel
theorem dX5_longer_37 : decode cX5_longer 37 = .ok (.aload_n 0, 1) := by decide +kernel
theorem dX5_longer_38 : decode cX5_longer 38 = .ok (.getfield 40, 3) := by decide +kernel
theorem dX5_longer_41 : decode cX5_longer 41 = .ok (.aload_n 0, 1) := by decide +kernel
theorem dX5_longer_42 : decode cX5_longer 42 = .ok (.getfield 26, 3) := by decide +kernel
theorem dX5_longer_45 : decode cX5_longer 45 = .ok (.iload_n 1, 1) := by decide +kernel
theorem dX5_longer_46 : decode cX5_longer 46 = .ok (.iload_n 2, 1) := by decide +kernel
theorem dX5_longer_47 : decode cX5_longer 47 = .ok (.invokevirtual 157, 3) := by decide +kernel
theorem dX5_longer_50 : decode cX5_longer 50 = .ok (.aload_n 0, 1) := by decide +kernel
theorem dX5_longer_51 : decode cX5_longer 51 = .ok (.getfield 40, 3) := by decide +kernel
theorem dX5_longer_54 : decode cX5_longer 54 = .ok (.invokevirtual 170, 3) := by decide +kernel
theorem dX5_longer_57 : decode cX5_longer 57 = .ok (.aload_n 0, 1) := by decide +kernel
theorem dX5_longer_58 : decode cX5_longer 58 = .ok (.getfield 40, 3) := by decide +kernel
theorem dX5_longer_61 : decode cX5_longer 61 = .ok (.getfield 176, 3) := by decide +kernel
theorem dX5_longer_64 : decode cX5_longer 64 = .ok (.istore 4, 2) := by decide +kernel
theorem dX5_longer_66 : decode cX5_longer 66 = .ok (.aload_n 0, 1) := by decide +kernel
theorem dX5_longer_67 : decode cX5_longer 67 = .ok (.getfield 30, 3) := by decide +kernel
theorem dX5_longer_70 : decode cX5_longer 70 = .ok (.aload_n 0, 1) := by decide +kernel
theorem dX5_longer_71 : decode cX5_longer 71 = .ok (.getfield 26, 3) := by decide +kernel
theorem dX5_longer_74 : decode cX5_longer 74 = .ok (.invokevirtual 72, 3) := by decide +kernel
theorem dX5_longer_77 : decode cX5_longer 77 = .ok (.aload_n 0, 1) := by decide +kernel
theorem dX5_longer_78 : decode cX5_longer 78 = .ok (.getfield 30, 3) := by decide +kernel
theorem dX5_longer_81 : decode cX5_longer 81 = .ok (.iload_n 2, 1) := by decide +kernel
theorem dX5_longer_82 : decode cX5_longer 82 = .ok (.aload_n 0, 1) := by decide +kernel
theorem dX5_longer_83 : decode cX5_longer 83 = .ok (.getfield 30, 3) := by decide +kernel
theorem dX5_longer_86 : decode cX5_longer 86 = .ok (.getfield 93, 3) := by decide +kernel
theorem dX5_longer_89 : decode cX5_longer 89 = .ok (.iload_n 2, 1) := by decide +kernel
theorem dX5_longer_90 : decode cX5_longer 90 = .ok (.iaload, 1) := by decide +kernel
theorem dX5_longer_91 : decode cX5_longer 91 = .ok (.iconst 1, 1) := by decide +kernel
theorem dX5_longer_92 : decode cX5_longer 92 = .ok (.isub, 1) := by decide +kernel
theorem dX5_longer_93 : decode cX5_longer 93 = .ok (.invokevirtual 107, 3) := by decide +kernel
theorem dX5_longer_96 : decode cX5_longer 96 = .ok (.iconst 1, 1) := by decide +kernel
theorem dX5_longer_97 : decode cX5_longer 97 = .ok (.iadd, 1) := by decide +kernel
theorem dX5_longer_98 : decode cX5_longer 98 = .ok (.istore 5, 2) := by decide +kernel
theorem dX5_longer_100 : decode cX5_longer 100 = .ok (.aload_n 0, 1) := by decide +kernel
theorem dX5_longer_101 : decode cX5_longer 101 = .ok (.getfield 30, 3) := by decide +kernel
theorem dX5_longer_104 : decode cX5_longer 104 = .ok (.getfield 111, 3) := by decide +kernel
theorem dX5_longer_107 : decode cX5_longer 107 = .ok (.iload 5, 2) := by decide +kernel
theorem dX5_longer_109 : decode cX5_longer 109 = .ok (.iconst 0, 1) := by decide +kernel
theorem dX5_longer_110 : decode cX5_longer 110 = .ok (.getstatic 211, 3) := by decide +kernel
theorem dX5_longer_113 : decode cX5_longer 113 = .ok (.iconst 1, 1) := by decide +kernel
theorem dX5_longer_114 : decode cX5_longer 114 = .ok (.iaload, 1) := by decide +kernel
theorem dX5_longer_115 : decode cX5_longer 115 = .ok (.aload_n 0, 1) := by decide +kernel
theorem dX5_longer_116 : decode cX5_longer 116 = .ok (.getfield 30, 3) := by decide +kernel
theorem dX5_longer_119 : decode cX5_longer 119 = .ok (.getfield 111, 3) := by decide +kernel
theorem dX5_longer_122 : decode cX5_longer 122 = .ok (.iload 5, 2) := by decide +kernel
theorem dX5_longer_124 : decode cX5_longer 124 = .ok (.iaload, 1) := by decide +kernel
theorem dX5_longer_125 : decode cX5_longer 125 = .ok (.iload_n 3, 1) := by decide +kernel
theorem dX5_longer_126 : decode cX5_longer 126 = .ok (.iadd, 1) := by decide +kernel
theorem dX5_longer_127 : decode cX5_longer 127 = .ok (.invokestatic 214, 3) := by decide +kernel
theorem dX5_longer_130 : decode cX5_longer 130 = .ok (.invokestatic 200, 3) := by decide +kernel
theorem dX5_longer_133 : decode cX5_longer 133 = .ok (.iastore, 1) := by decide +kernel
theorem dX5_longer_134 : decode cX5_longer 134 = .ok (.aload_n 0, 1) := by decide +kernel
theorem dX5_longer_135 : decode cX5_longer 135 = .ok (.getfield 40, 3) := by decide +kernel
theorem dX5_longer_138 : decode cX5_longer 138 = .ok (.aload_n 0, 1) := by decide +kernel
theorem dX5_longer_139 : decode cX5_longer 139 = .ok (.getfield 30, 3) := by decide +kernel
theorem dX5_longer_142 : decode cX5_longer 142 = .ok (.iload_n 1, 1) := by decide +kernel
theorem dX5_longer_143 : decode cX5_longer 143 = .ok (.iload_n 2, 1) := by decide +kernel
theorem dX5_longer_144 : decode cX5_longer 144 = .ok (.invokevirtual 157, 3) := by decide +kernel
theorem dX5_longer_147 : decode cX5_longer 147 = .ok (.aload_n 0, 1) := by decide +kernel
theorem dX5_longer_148 : decode cX5_longer 148 = .ok (.getfield 40, 3) := by decide +kernel
theorem dX5_longer_151 : decode cX5_longer 151 = .ok (.invokevirtual 170, 3) := by decide +kernel
theorem dX5_longer_154 : decode cX5_longer 154 = .ok (.aload_n 0, 1) := by decide +kernel
theorem dX5_longer_155 : decode cX5_longer 155 = .ok (.getfield 40, 3) := by decide +kernel
theorem dX5_longer_158 : decode cX5_longer 158 = .ok (.getfield 176, 3) := by decide +kernel
theorem dX5_longer_161 : decode cX5_longer 161 = .ok (.istore 6, 2) := by decide +kernel
theorem dX5_longer_163 : decode cX5_longer 163 = .ok (.iload 4, 2) := by decide +kernel
theorem dX5_longer_165 : decode cX5_longer 165 = .ok (.sipush 9999, 3) := by decide +kernel
theorem dX5_longer_168 : decode cX5_longer 168 = .ok (.if_icmp .eq 11, 3) := by decide +kernel
theorem dX5_longer_171 : decode cX5_longer 171 = .ok (.iload 6, 2) := by decide +kernel
theorem dX5_longer_173 : decode cX5_longer 173 = .ok (.sipush 9999, 3) := by decide +kernel
theorem dX5_longer_176 : decode cX5_longer 176 = .ok (.if_icmp .ne 8, 3) := by decide +kernel
theorem dX5_longer_179 : decode cX5_longer 179 = .ok (.ldc 150, 2) := by decide +kernel
theorem dX5_longer_181 : decode cX5_longer 181 = .ok (.goto 8, 3) := by decide +kernel
theorem dX5_longer_184 : decode cX5_longer 184 = .ok (.iload 6, 2) := by decide +kernel
theorem dX5_longer_186 : decode cX5_longer 186 = .ok (.iload 4, 2) := by decide +kernel
theorem dX5_longer_188 : decode cX5_longer 188 = .ok (.isub, 1) := by decide +kernel
theorem dX5_longer_189 : decode cX5_longer 189 = .ok (.ireturn, 1) := by decide +kernel
theorem dX5_image_0 : decode cX5_image 0 = .ok (.iload_n 1, 1) := by decide +kernel
theorem dX5_image_1 : decode cX5_image 1 = .ok (.ifCond .lt 8, 3) := by decide +kernel
theorem dX5_image_4 : decode cX5_image 4 = .ok (.iload_n 1, 1) := by decide +kernel
theorem dX5_image_5 : decode cX5_image 5 = .ok (.iconst 2, 1) := by decide +kernel
theorem dX5_image_6 : decode cX5_image 6 = .ok (.if_icmp .lt 6, 3) := by decide +kernel
theorem dX5_image_9 : decode cX5_image 9 = .ok (.ldc 48, 2) := by decide +kernel
theorem dX5_image_11 : decode cX5_image 11 = .ok (.ireturn, 1) := by decide +kernel
theorem dX5_image_12 : decode cX5_image 12 = .ok (.aload_n 0, 1) := by decide +kernel
theorem dX5_image_13 : decode cX5_image 13 = .ok (.getfield 26, 3) := by decide +kernel
theorem dX5_image_16 : decode cX5_image 16 = .ok (.getfield 197, 3) := by decide +kernel
theorem dX5_image_19 : decode cX5_image 19 = .ok (.ifCond .ne 6, 3) := by decide +kernel
theorem dX5_image_22 : decode cX5_image 22 = .ok (.ldc 86, 2) := by decide +kernel
theorem dX5_image_24 : decode cX5_image 24 = .ok (.ireturn, 1) := by decide +kernel
theorem dX5_image_25 : decode cX5_image 25 = .ok (.aload_n 0, 1) := by decide +kernel
theorem dX5_image_26 : decode cX5_image 26 = .ok (.getfield 33, 3) := by decide +kernel
theorem dX5_image_29 : decode cX5_image 29 = .ok (.iload_n 1, 1) := by decide +kernel
theorem dX5_image_30 : decode cX5_image 30 = .ok (.aaload, 1) := by decide +kernel
theorem dX5_image_31 : decode cX5_image 31 = .ok (.aload_n 0, 1) := by decide +kernel
theorem dX5_image_32 : decode cX5_image 32 = .ok (.getfield 26, 3) := by decide +kernel
theorem dX5_image_35 : decode cX5_image 35 = .ok (.invokevirtual 72, 3) := by decide +kernel
theorem dX5_image_38 : decode cX5_image 38 = .ok (.iconst 1, 1) := by decide +kernel
theorem dX5_image_39 : decode cX5_image 39 = .ok (.ireturn, 1) := by decide +kernel
theorem dX5_restore_0 : decode cX5_restore 0 = .ok (.iload_n 1, 1) := by decide +kernel
theorem dX5_restore_1 : decode cX5_restore 1 = .ok (.ifCond .lt 8, 3) := by decide +kernel
theorem dX5_restore_4 : decode cX5_restore 4 = .ok (.iload_n 1, 1) := by decide +kernel
theorem dX5_restore_5 : decode cX5_restore 5 = .ok (.iconst 2, 1) := by decide +kernel
theorem dX5_restore_6 : decode cX5_restore 6 = .ok (.if_icmp .lt 6, 3) := by decide +kernel
theorem dX5_restore_9 : decode cX5_restore 9 = .ok (.ldc 48, 2) := by decide +kernel
theorem dX5_restore_11 : decode cX5_restore 11 = .ok (.ireturn, 1) := by decide +kernel
theorem dX5_restore_12 : decode cX5_restore 12 = .ok (.aload_n 0, 1) := by decide +kernel
theorem dX5_restore_13 : decode cX5_restore 13 = .ok (.getfield 33, 3) := by decide +kernel
theorem dX5_restore_16 : decode cX5_restore 16 = .ok (.iload_n 1, 1) := by decide +kernel
theorem dX5_restore_17 : decode cX5_restore 17 = .ok (.aaload, 1) := by decide +kernel
theorem dX5_restore_18 : decode cX5_restore 18 = .ok (.getfield 197, 3) := by decide +kernel
theorem dX5_restore_21 : decode cX5_restore 21 = .ok (.ifCond .ne 6, 3) := by decide +kernel
theorem dX5_restore_24 : decode cX5_restore 24 = .ok (.ldc 86, 2) := by decide +kernel
theorem dX5_restore_26 : decode cX5_restore 26 = .ok (.ireturn, 1) := by decide +kernel
theorem dX5_restore_27 : decode cX5_restore 27 = .ok (.aload_n 0, 1) := by decide +kernel
theorem dX5_restore_28 : decode cX5_restore 28 = .ok (.getfield 26, 3) := by decide +kernel
theorem dX5_restore_31 : decode cX5_restore 31 = .ok (.aload_n 0, 1) := by decide +kernel
theorem dX5_restore_32 : decode cX5_restore 32 = .ok (.getfield 33, 3) := by decide +kernel
theorem dX5_restore_35 : decode cX5_restore 35 = .ok (.iload_n 1, 1) := by decide +kernel
theorem dX5_restore_36 : decode cX5_restore 36 = .ok (.aaload, 1) := by decide +kernel
theorem dX5_restore_37 : decode cX5_restore 37 = .ok (.invokevirtual 72, 3) := by decide +kernel
theorem dX5_restore_40 : decode cX5_restore 40 = .ok (.aload_n 0, 1) := by decide +kernel
theorem dX5_restore_41 : decode cX5_restore 41 = .ok (.getfield 19, 3) := by decide +kernel
theorem dX5_restore_44 : decode cX5_restore 44 = .ok (.invokevirtual 76, 3) := by decide +kernel
theorem dX5_restore_47 : decode cX5_restore 47 = .ok (.iconst 1, 1) := by decide +kernel
theorem dX5_restore_48 : decode cX5_restore 48 = .ok (.ireturn, 1) := by decide +kernel
theorem dX5_count_0 : decode cX5_count 0 = .ok (.iload_n 1, 1) := by decide +kernel
theorem dX5_count_1 : decode cX5_count 1 = .ok (.tableswitch 90 0 5 #[39, 47, 55, 63, 71, 79], 39) := by decide +kernel
theorem dX5_count_40 : decode cX5_count 40 = .ok (.aload_n 0, 1) := by decide +kernel
theorem dX5_count_41 : decode cX5_count 41 = .ok (.getfield 26, 3) := by decide +kernel
theorem dX5_count_44 : decode cX5_count 44 = .ok (.getfield 197, 3) := by decide +kernel
theorem dX5_count_47 : decode cX5_count 47 = .ok (.ireturn, 1) := by decide +kernel
theorem dX5_count_48 : decode cX5_count 48 = .ok (.aload_n 0, 1) := by decide +kernel
theorem dX5_count_49 : decode cX5_count 49 = .ok (.getfield 26, 3) := by decide +kernel
theorem dX5_count_52 : decode cX5_count 52 = .ok (.invokevirtual 217, 3) := by decide +kernel
theorem dX5_count_55 : decode cX5_count 55 = .ok (.ireturn, 1) := by decide +kernel
theorem dX5_count_56 : decode cX5_count 56 = .ok (.aload_n 0, 1) := by decide +kernel
theorem dX5_count_57 : decode cX5_count 57 = .ok (.getfield 26, 3) := by decide +kernel
theorem dX5_count_60 : decode cX5_count 60 = .ok (.getfield 221, 3) := by decide +kernel
theorem dX5_count_63 : decode cX5_count 63 = .ok (.ireturn, 1) := by decide +kernel
theorem dX5_count_64 : decode cX5_count 64 = .ok (.aload_n 0, 1) := by decide +kernel
theorem dX5_count_65 : decode cX5_count 65 = .ok (.getfield 26, 3) := by decide +kernel
theorem dX5_count_68 : decode cX5_count 68 = .ok (.getfield 79, 3) := by decide +kernel
theorem dX5_count_71 : decode cX5_count 71 = .ok (.ireturn, 1) := by decide +kernel
theorem dX5_count_72 : decode cX5_count 72 = .ok (.aload_n 0, 1) := by decide +kernel
theorem dX5_count_73 : decode cX5_count 73 = .ok (.getfield 19, 3) := by decide +kernel
theorem dX5_count_76 : decode cX5_count 76 = .ok (.getfield 85, 3) := by decide +kernel
theorem dX5_count_79 : decode cX5_count 79 = .ok (.ireturn, 1) := by decide +kernel
theorem dX5_count_80 : decode cX5_count 80 = .ok (.aload_n 0, 1) := by decide +kernel
theorem dX5_count_81 : decode cX5_count 81 = .ok (.getfield 10, 3) := by decide +kernel
theorem dX5_count_84 : decode cX5_count 84 = .ok (.getfield 49, 3) := by decide +kernel
theorem dX5_count_87 : decode cX5_count 87 = .ok (.getfield 59, 3) := by decide +kernel
theorem dX5_count_90 : decode cX5_count 90 = .ok (.ireturn, 1) := by decide +kernel
theorem dX5_count_91 : decode cX5_count 91 = .ok (.ldc 48, 2) := by decide +kernel
theorem dX5_count_93 : decode cX5_count 93 = .ok (.ireturn, 1) := by decide +kernel
theorem dX5_worksBy_0 : decode cX5_worksBy 0 = .ok (.iconst 0, 1) := by decide +kernel
theorem dX5_worksBy_1 : decode cX5_worksBy 1 = .ok (.istore_n 2, 1) := by decide +kernel
theorem dX5_worksBy_2 : decode cX5_worksBy 2 = .ok (.iconst 0, 1) := by decide +kernel
theorem dX5_worksBy_3 : decode cX5_worksBy 3 = .ok (.istore_n 3, 1) := by decide +kernel
theorem dX5_worksBy_4 : decode cX5_worksBy 4 = .ok (.iload_n 3, 1) := by decide +kernel
theorem dX5_worksBy_5 : decode cX5_worksBy 5 = .ok (.aload_n 0, 1) := by decide +kernel
theorem dX5_worksBy_6 : decode cX5_worksBy 6 = .ok (.getfield 26, 3) := by decide +kernel
theorem dX5_worksBy_9 : decode cX5_worksBy 9 = .ok (.getfield 79, 3) := by decide +kernel
theorem dX5_worksBy_12 : decode cX5_worksBy 12 = .ok (.if_icmp .ge 24, 3) := by decide +kernel
theorem dX5_worksBy_15 : decode cX5_worksBy 15 = .ok (.aload_n 0, 1) := by decide +kernel
theorem dX5_worksBy_16 : decode cX5_worksBy 16 = .ok (.getfield 26, 3) := by decide +kernel
theorem dX5_worksBy_19 : decode cX5_worksBy 19 = .ok (.iload_n 3, 1) := by decide +kernel
theorem dX5_worksBy_20 : decode cX5_worksBy 20 = .ok (.iload_n 1, 1) := by decide +kernel
theorem dX5_worksBy_21 : decode cX5_worksBy 21 = .ok (.invokevirtual 224, 3) := by decide +kernel
theorem dX5_worksBy_24 : decode cX5_worksBy 24 = .ok (.ifCond .eq 6, 3) := by decide +kernel
theorem dX5_worksBy_27 : decode cX5_worksBy 27 = .ok (.iinc 2 1, 3) := by decide +kernel
theorem dX5_worksBy_30 : decode cX5_worksBy 30 = .ok (.iinc 3 1, 3) := by decide +kernel
theorem dX5_worksBy_33 : decode cX5_worksBy 33 = .ok (.goto (-29), 3) := by decide +kernel
theorem dX5_worksBy_36 : decode cX5_worksBy 36 = .ok (.iload_n 2, 1) := by decide +kernel
theorem dX5_worksBy_37 : decode cX5_worksBy 37 = .ok (.ireturn, 1) := by decide +kernel
theorem dX5_worksDecidedBy_0 : decode cX5_worksDecidedBy 0 = .ok (.aload_n 0, 1) := by decide +kernel
theorem dX5_worksDecidedBy_1 : decode cX5_worksDecidedBy 1 = .ok (.getfield 30, 3) := by decide +kernel
theorem dX5_worksDecidedBy_4 : decode cX5_worksDecidedBy 4 = .ok (.aload_n 0, 1) := by decide +kernel
theorem dX5_worksDecidedBy_5 : decode cX5_worksDecidedBy 5 = .ok (.getfield 26, 3) := by decide +kernel
theorem dX5_worksDecidedBy_8 : decode cX5_worksDecidedBy 8 = .ok (.invokevirtual 72, 3) := by decide +kernel
theorem dX5_worksDecidedBy_11 : decode cX5_worksDecidedBy 11 = .ok (.iconst 0, 1) := by decide +kernel
theorem dX5_worksDecidedBy_12 : decode cX5_worksDecidedBy 12 = .ok (.istore_n 2, 1) := by decide +kernel
theorem dX5_worksDecidedBy_13 : decode cX5_worksDecidedBy 13 = .ok (.iconst 0, 1) := by decide +kernel
theorem dX5_worksDecidedBy_14 : decode cX5_worksDecidedBy 14 = .ok (.istore_n 3, 1) := by decide +kernel
theorem dX5_worksDecidedBy_15 : decode cX5_worksDecidedBy 15 = .ok (.iload_n 3, 1) := by decide +kernel
theorem dX5_worksDecidedBy_16 : decode cX5_worksDecidedBy 16 = .ok (.aload_n 0, 1) := by decide +kernel
theorem dX5_worksDecidedBy_17 : decode cX5_worksDecidedBy 17 = .ok (.getfield 26, 3) := by decide +kernel
theorem dX5_worksDecidedBy_20 : decode cX5_worksDecidedBy 20 = .ok (.getfield 79, 3) := by decide +kernel
theorem dX5_worksDecidedBy_23 : decode cX5_worksDecidedBy 23 = .ok (.if_icmp .ge 96, 3) := by decide +kernel
theorem dX5_worksDecidedBy_26 : decode cX5_worksDecidedBy 26 = .ok (.aload_n 0, 1) := by decide +kernel
theorem dX5_worksDecidedBy_27 : decode cX5_worksDecidedBy 27 = .ok (.getfield 26, 3) := by decide +kernel
theorem dX5_worksDecidedBy_30 : decode cX5_worksDecidedBy 30 = .ok (.iload_n 3, 1) := by decide +kernel
theorem dX5_worksDecidedBy_31 : decode cX5_worksDecidedBy 31 = .ok (.iload_n 1, 1) := by decide +kernel
theorem dX5_worksDecidedBy_32 : decode cX5_worksDecidedBy 32 = .ok (.invokevirtual 224, 3) := by decide +kernel
theorem dX5_worksDecidedBy_35 : decode cX5_worksDecidedBy 35 = .ok (.ifCond .eq 78, 3) := by decide +kernel
theorem dX5_worksDecidedBy_38 : decode cX5_worksDecidedBy 38 = .ok (.aload_n 0, 1) := by decide +kernel
theorem dX5_worksDecidedBy_39 : decode cX5_worksDecidedBy 39 = .ok (.getfield 26, 3) := by decide +kernel
theorem dX5_worksDecidedBy_42 : decode cX5_worksDecidedBy 42 = .ok (.iload_n 3, 1) := by decide +kernel
theorem dX5_worksDecidedBy_43 : decode cX5_worksDecidedBy 43 = .ok (.iconst 4, 1) := by decide +kernel
theorem dX5_worksDecidedBy_44 : decode cX5_worksDecidedBy 44 = .ok (.invokevirtual 144, 3) := by decide +kernel
theorem dX5_worksDecidedBy_47 : decode cX5_worksDecidedBy 47 = .ok (.iconst 1, 1) := by decide +kernel
theorem dX5_worksDecidedBy_48 : decode cX5_worksDecidedBy 48 = .ok (.iload_n 1, 1) := by decide +kernel
theorem dX5_worksDecidedBy_49 : decode cX5_worksDecidedBy 49 = .ok (.ishl, 1) := by decide +kernel
theorem dX5_worksDecidedBy_50 : decode cX5_worksDecidedBy 50 = .ok (.iconst (-1), 1) := by decide +kernel
theorem dX5_worksDecidedBy_51 : decode cX5_worksDecidedBy 51 = .ok (.ixor, 1) := by decide +kernel
theorem dX5_worksDecidedBy_52 : decode cX5_worksDecidedBy 52 = .ok (.iand, 1) := by decide +kernel
theorem dX5_worksDecidedBy_53 : decode cX5_worksDecidedBy 53 = .ok (.istore 4, 2) := by decide +kernel
theorem dX5_worksDecidedBy_55 : decode cX5_worksDecidedBy 55 = .ok (.aload_n 0, 1) := by decide +kernel
theorem dX5_worksDecidedBy_56 : decode cX5_worksDecidedBy 56 = .ok (.getfield 30, 3) := by decide +kernel
theorem dX5_worksDecidedBy_59 : decode cX5_worksDecidedBy 59 = .ok (.getfield 134, 3) := by decide +kernel
theorem dX5_worksDecidedBy_62 : decode cX5_worksDecidedBy 62 = .ok (.iload_n 3, 1) := by decide +kernel
theorem dX5_worksDecidedBy_63 : decode cX5_worksDecidedBy 63 = .ok (.iconst 5, 1) := by decide +kernel
theorem dX5_worksDecidedBy_64 : decode cX5_worksDecidedBy 64 = .ok (.imul, 1) := by decide +kernel
theorem dX5_worksDecidedBy_65 : decode cX5_worksDecidedBy 65 = .ok (.iconst 4, 1) := by decide +kernel
theorem dX5_worksDecidedBy_66 : decode cX5_worksDecidedBy 66 = .ok (.iadd, 1) := by decide +kernel
theorem dX5_worksDecidedBy_67 : decode cX5_worksDecidedBy 67 = .ok (.iload 4, 2) := by decide +kernel
theorem dX5_worksDecidedBy_69 : decode cX5_worksDecidedBy 69 = .ok (.iastore, 1) := by decide +kernel
theorem dX5_worksDecidedBy_70 : decode cX5_worksDecidedBy 70 = .ok (.iload 4, 2) := by decide +kernel
theorem dX5_worksDecidedBy_72 : decode cX5_worksDecidedBy 72 = .ok (.ifCond .ne 22, 3) := by decide +kernel
theorem dX5_worksDecidedBy_75 : decode cX5_worksDecidedBy 75 = .ok (.aload_n 0, 1) := by decide +kernel
theorem dX5_worksDecidedBy_76 : decode cX5_worksDecidedBy 76 = .ok (.getfield 26, 3) := by decide +kernel
theorem dX5_worksDecidedBy_79 : decode cX5_worksDecidedBy 79 = .ok (.iload_n 3, 1) := by decide +kernel
theorem dX5_worksDecidedBy_80 : decode cX5_worksDecidedBy 80 = .ok (.iconst 0, 1) := by decide +kernel
theorem dX5_worksDecidedBy_81 : decode cX5_worksDecidedBy 81 = .ok (.invokevirtual 144, 3) := by decide +kernel
theorem dX5_worksDecidedBy_84 : decode cX5_worksDecidedBy 84 = .ok (.invokestatic 227, 3) := by decide +kernel
theorem dX5_worksDecidedBy_87 : decode cX5_worksDecidedBy 87 = .ok (.ifCond .eq 7, 3) := by decide +kernel
theorem dX5_worksDecidedBy_90 : decode cX5_worksDecidedBy 90 = .ok (.iconst 1, 1) := by decide +kernel
theorem dX5_worksDecidedBy_91 : decode cX5_worksDecidedBy 91 = .ok (.goto 4, 3) := by decide +kernel
theorem dX5_worksDecidedBy_94 : decode cX5_worksDecidedBy 94 = .ok (.iconst 0, 1) := by decide +kernel
theorem dX5_worksDecidedBy_95 : decode cX5_worksDecidedBy 95 = .ok (.istore 5, 2) := by decide +kernel
theorem dX5_worksDecidedBy_97 : decode cX5_worksDecidedBy 97 = .ok (.iload 5, 2) := by decide +kernel
theorem dX5_worksDecidedBy_99 : decode cX5_worksDecidedBy 99 = .ok (.ifCond .ne 11, 3) := by decide +kernel
theorem dX5_worksDecidedBy_102 : decode cX5_worksDecidedBy 102 = .ok (.aload_n 0, 1) := by decide +kernel
theorem dX5_worksDecidedBy_103 : decode cX5_worksDecidedBy 103 = .ok (.iload_n 3, 1) := by decide +kernel
theorem dX5_worksDecidedBy_104 : decode cX5_worksDecidedBy 104 = .ok (.invokevirtual 230, 3) := by decide +kernel
theorem dX5_worksDecidedBy_107 : decode cX5_worksDecidedBy 107 = .ok (.ifCond .eq 6, 3) := by decide +kernel
theorem dX5_worksDecidedBy_110 : decode cX5_worksDecidedBy 110 = .ok (.iinc 2 1, 3) := by decide +kernel
theorem dX5_worksDecidedBy_113 : decode cX5_worksDecidedBy 113 = .ok (.iinc 3 1, 3) := by decide +kernel
theorem dX5_worksDecidedBy_116 : decode cX5_worksDecidedBy 116 = .ok (.goto (-101), 3) := by decide +kernel
theorem dX5_worksDecidedBy_119 : decode cX5_worksDecidedBy 119 = .ok (.iload_n 2, 1) := by decide +kernel
theorem dX5_worksDecidedBy_120 : decode cX5_worksDecidedBy 120 = .ok (.ireturn, 1) := by decide +kernel
theorem dX5_isFreeOtherwiseInTrial_0 : decode cX5_isFreeOtherwiseInTrial 0 = .ok (.iconst 0, 1) := by decide +kernel
theorem dX5_isFreeOtherwiseInTrial_1 : decode cX5_isFreeOtherwiseInTrial 1 = .ok (.istore_n 2, 1) := by decide +kernel
theorem dX5_isFreeOtherwiseInTrial_2 : decode cX5_isFreeOtherwiseInTrial 2 = .ok (.iload_n 2, 1) := by decide +kernel
theorem dX5_isFreeOtherwiseInTrial_3 : decode cX5_isFreeOtherwiseInTrial 3 = .ok (.aload_n 0, 1) := by decide +kernel
theorem dX5_isFreeOtherwiseInTrial_4 : decode cX5_isFreeOtherwiseInTrial 4 = .ok (.getfield 26, 3) := by decide +kernel
theorem dX5_isFreeOtherwiseInTrial_7 : decode cX5_isFreeOtherwiseInTrial 7 = .ok (.getfield 197, 3) := by decide +kernel
theorem dX5_isFreeOtherwiseInTrial_10 : decode cX5_isFreeOtherwiseInTrial 10 = .ok (.if_icmp .ge 91, 3) := by decide +kernel
theorem dX5_isFreeOtherwiseInTrial_13 : decode cX5_isFreeOtherwiseInTrial 13 = .ok (.aload_n 0, 1) := by decide +kernel
theorem dX5_isFreeOtherwiseInTrial_14 : decode cX5_isFreeOtherwiseInTrial 14 = .ok (.getfield 40, 3) := by decide +kernel
theorem dX5_isFreeOtherwiseInTrial_17 : decode cX5_isFreeOtherwiseInTrial 17 = .ok (.aload_n 0, 1) := by decide +kernel
theorem dX5_isFreeOtherwiseInTrial_18 : decode cX5_isFreeOtherwiseInTrial 18 = .ok (.getfield 26, 3) := by decide +kernel
theorem dX5_isFreeOtherwiseInTrial_21 : decode cX5_isFreeOtherwiseInTrial 21 = .ok (.iload_n 1, 1) := by decide +kernel
theorem dX5_isFreeOtherwiseInTrial_22 : decode cX5_isFreeOtherwiseInTrial 22 = .ok (.iload_n 2, 1) := by decide +kernel
theorem dX5_isFreeOtherwiseInTrial_23 : decode cX5_isFreeOtherwiseInTrial 23 = .ok (.invokevirtual 157, 3) := by decide +kernel
theorem dX5_isFreeOtherwiseInTrial_26 : decode cX5_isFreeOtherwiseInTrial 26 = .ok (.aload_n 0, 1) := by decide +kernel
theorem dX5_isFreeOtherwiseInTrial_27 : decode cX5_isFreeOtherwiseInTrial 27 = .ok (.getfield 40, 3) := by decide +kernel
theorem dX5_isFreeOtherwiseInTrial_30 : decode cX5_isFreeOtherwiseInTrial 30 = .ok (.invokevirtual 170, 3) := by decide +kernel
theorem dX5_isFreeOtherwiseInTrial_33 : decode cX5_isFreeOtherwiseInTrial 33 = .ok (.aload_n 0, 1) := by decide +kernel
theorem dX5_isFreeOtherwiseInTrial_34 : decode cX5_isFreeOtherwiseInTrial 34 = .ok (.getfield 40, 3) := by decide +kernel
theorem dX5_isFreeOtherwiseInTrial_37 : decode cX5_isFreeOtherwiseInTrial 37 = .ok (.getfield 173, 3) := by decide +kernel
theorem dX5_isFreeOtherwiseInTrial_40 : decode cX5_isFreeOtherwiseInTrial 40 = .ok (.istore_n 3, 1) := by decide +kernel
theorem dX5_isFreeOtherwiseInTrial_41 : decode cX5_isFreeOtherwiseInTrial 41 = .ok (.aload_n 0, 1) := by decide +kernel
theorem dX5_isFreeOtherwiseInTrial_42 : decode cX5_isFreeOtherwiseInTrial 42 = .ok (.getfield 40, 3) := by decide +kernel
theorem dX5_isFreeOtherwiseInTrial_45 : decode cX5_isFreeOtherwiseInTrial 45 = .ok (.getfield 176, 3) := by decide +kernel
theorem dX5_isFreeOtherwiseInTrial_48 : decode cX5_isFreeOtherwiseInTrial 48 = .ok (.istore 4, 2) := by decide +kernel
theorem dX5_isFreeOtherwiseInTrial_50 : decode cX5_isFreeOtherwiseInTrial 50 = .ok (.aload_n 0, 1) := by decide +kernel
theorem dX5_isFreeOtherwiseInTrial_51 : decode cX5_isFreeOtherwiseInTrial 51 = .ok (.getfield 40, 3) := by decide +kernel
theorem dX5_isFreeOtherwiseInTrial_54 : decode cX5_isFreeOtherwiseInTrial 54 = .ok (.aload_n 0, 1) := by decide +kernel
theorem dX5_isFreeOtherwiseInTrial_55 : decode cX5_isFreeOtherwiseInTrial 55 = .ok (.getfield 30, 3) := by decide +kernel
theorem dX5_isFreeOtherwiseInTrial_58 : decode cX5_isFreeOtherwiseInTrial 58 = .ok (.iload_n 1, 1) := by decide +kernel
theorem dX5_isFreeOtherwiseInTrial_59 : decode cX5_isFreeOtherwiseInTrial 59 = .ok (.iload_n 2, 1) := by decide +kernel
theorem dX5_isFreeOtherwiseInTrial_60 : decode cX5_isFreeOtherwiseInTrial 60 = .ok (.invokevirtual 157, 3) := by decide +kernel
theorem dX5_isFreeOtherwiseInTrial_63 : decode cX5_isFreeOtherwiseInTrial 63 = .ok (.aload_n 0, 1) := by decide +kernel
theorem dX5_isFreeOtherwiseInTrial_64 : decode cX5_isFreeOtherwiseInTrial 64 = .ok (.getfield 40, 3) := by decide +kernel
theorem dX5_isFreeOtherwiseInTrial_67 : decode cX5_isFreeOtherwiseInTrial 67 = .ok (.invokevirtual 170, 3) := by decide +kernel
theorem dX5_isFreeOtherwiseInTrial_70 : decode cX5_isFreeOtherwiseInTrial 70 = .ok (.aload_n 0, 1) := by decide +kernel
theorem dX5_isFreeOtherwiseInTrial_71 : decode cX5_isFreeOtherwiseInTrial 71 = .ok (.getfield 40, 3) := by decide +kernel
theorem dX5_isFreeOtherwiseInTrial_74 : decode cX5_isFreeOtherwiseInTrial 74 = .ok (.getfield 173, 3) := by decide +kernel
theorem dX5_isFreeOtherwiseInTrial_77 : decode cX5_isFreeOtherwiseInTrial 77 = .ok (.iload_n 3, 1) := by decide +kernel
theorem dX5_isFreeOtherwiseInTrial_78 : decode cX5_isFreeOtherwiseInTrial 78 = .ok (.if_icmp .ne 15, 3) := by decide +kernel
theorem dX5_isFreeOtherwiseInTrial_81 : decode cX5_isFreeOtherwiseInTrial 81 = .ok (.aload_n 0, 1) := by decide +kernel
theorem dX5_isFreeOtherwiseInTrial_82 : decode cX5_isFreeOtherwiseInTrial 82 = .ok (.getfield 40, 3) := by decide +kernel
theorem dX5_isFreeOtherwiseInTrial_85 : decode cX5_isFreeOtherwiseInTrial 85 = .ok (.getfield 176, 3) := by decide +kernel
theorem dX5_isFreeOtherwiseInTrial_88 : decode cX5_isFreeOtherwiseInTrial 88 = .ok (.iload 4, 2) := by decide +kernel
theorem dX5_isFreeOtherwiseInTrial_90 : decode cX5_isFreeOtherwiseInTrial 90 = .ok (.if_icmp .eq 5, 3) := by decide +kernel
theorem dX5_isFreeOtherwiseInTrial_93 : decode cX5_isFreeOtherwiseInTrial 93 = .ok (.iconst 1, 1) := by decide +kernel
theorem dX5_isFreeOtherwiseInTrial_94 : decode cX5_isFreeOtherwiseInTrial 94 = .ok (.ireturn, 1) := by decide +kernel
theorem dX5_isFreeOtherwiseInTrial_95 : decode cX5_isFreeOtherwiseInTrial 95 = .ok (.iinc 2 1, 3) := by decide +kernel
theorem dX5_isFreeOtherwiseInTrial_98 : decode cX5_isFreeOtherwiseInTrial 98 = .ok (.goto (-96), 3) := by decide +kernel
theorem dX5_isFreeOtherwiseInTrial_101 : decode cX5_isFreeOtherwiseInTrial 101 = .ok (.iconst 0, 1) := by decide +kernel
theorem dX5_isFreeOtherwiseInTrial_102 : decode cX5_isFreeOtherwiseInTrial 102 = .ok (.ireturn, 1) := by decide +kernel
theorem dX5_fillEarliestOfAll_0 : decode cX5_fillEarliestOfAll 0 = .ok (.iconst 0, 1) := by decide +kernel
theorem dX5_fillEarliestOfAll_1 : decode cX5_fillEarliestOfAll 1 = .ok (.istore_n 1, 1) := by decide +kernel
theorem dX5_fillEarliestOfAll_2 : decode cX5_fillEarliestOfAll 2 = .ok (.iload_n 1, 1) := by decide +kernel
theorem dX5_fillEarliestOfAll_3 : decode cX5_fillEarliestOfAll 3 = .ok (.aload_n 0, 1) := by decide +kernel
theorem dX5_fillEarliestOfAll_4 : decode cX5_fillEarliestOfAll 4 = .ok (.getfield 44, 3) := by decide +kernel
theorem dX5_fillEarliestOfAll_7 : decode cX5_fillEarliestOfAll 7 = .ok (.arraylength, 1) := by decide +kernel
theorem dX5_fillEarliestOfAll_8 : decode cX5_fillEarliestOfAll 8 = .ok (.if_icmp .ge 83, 3) := by decide +kernel
theorem dX5_fillEarliestOfAll_11 : decode cX5_fillEarliestOfAll 11 = .ok (.iload_n 1, 1) := by decide +kernel
theorem dX5_fillEarliestOfAll_12 : decode cX5_fillEarliestOfAll 12 = .ok (.bipush 6, 2) := by decide +kernel
theorem dX5_fillEarliestOfAll_14 : decode cX5_fillEarliestOfAll 14 = .ok (.idiv, 1) := by decide +kernel
theorem dX5_fillEarliestOfAll_15 : decode cX5_fillEarliestOfAll 15 = .ok (.istore_n 2, 1) := by decide +kernel
theorem dX5_fillEarliestOfAll_16 : decode cX5_fillEarliestOfAll 16 = .ok (.iload_n 1, 1) := by decide +kernel
theorem dX5_fillEarliestOfAll_17 : decode cX5_fillEarliestOfAll 17 = .ok (.bipush 6, 2) := by decide +kernel
theorem dX5_fillEarliestOfAll_19 : decode cX5_fillEarliestOfAll 19 = .ok (.irem, 1) := by decide +kernel
theorem dX5_fillEarliestOfAll_20 : decode cX5_fillEarliestOfAll 20 = .ok (.istore_n 3, 1) := by decide +kernel
theorem dX5_fillEarliestOfAll_21 : decode cX5_fillEarliestOfAll 21 = .ok (.aload_n 0, 1) := by decide +kernel
theorem dX5_fillEarliestOfAll_22 : decode cX5_fillEarliestOfAll 22 = .ok (.getfield 44, 3) := by decide +kernel
theorem dX5_fillEarliestOfAll_25 : decode cX5_fillEarliestOfAll 25 = .ok (.iload_n 1, 1) := by decide +kernel
theorem dX5_fillEarliestOfAll_26 : decode cX5_fillEarliestOfAll 26 = .ok (.sipush 9999, 3) := by decide +kernel
theorem dX5_fillEarliestOfAll_29 : decode cX5_fillEarliestOfAll 29 = .ok (.iastore, 1) := by decide +kernel
theorem dX5_fillEarliestOfAll_30 : decode cX5_fillEarliestOfAll 30 = .ok (.aload_n 0, 1) := by decide +kernel
theorem dX5_fillEarliestOfAll_31 : decode cX5_fillEarliestOfAll 31 = .ok (.getfield 26, 3) := by decide +kernel
theorem dX5_fillEarliestOfAll_34 : decode cX5_fillEarliestOfAll 34 = .ok (.iload_n 2, 1) := by decide +kernel
theorem dX5_fillEarliestOfAll_35 : decode cX5_fillEarliestOfAll 35 = .ok (.invokevirtual 90, 3) := by decide +kernel
theorem dX5_fillEarliestOfAll_38 : decode cX5_fillEarliestOfAll 38 = .ok (.ifCond .eq 47, 3) := by decide +kernel
theorem dX5_fillEarliestOfAll_41 : decode cX5_fillEarliestOfAll 41 = .ok (.aload_n 0, 1) := by decide +kernel
theorem dX5_fillEarliestOfAll_42 : decode cX5_fillEarliestOfAll 42 = .ok (.getfield 26, 3) := by decide +kernel
theorem dX5_fillEarliestOfAll_45 : decode cX5_fillEarliestOfAll 45 = .ok (.iload_n 3, 1) := by decide +kernel
theorem dX5_fillEarliestOfAll_46 : decode cX5_fillEarliestOfAll 46 = .ok (.invokevirtual 127, 3) := by decide +kernel
theorem dX5_fillEarliestOfAll_49 : decode cX5_fillEarliestOfAll 49 = .ok (.ifCond .eq 36, 3) := by decide +kernel
theorem dX5_fillEarliestOfAll_52 : decode cX5_fillEarliestOfAll 52 = .ok (.aload_n 0, 1) := by decide +kernel
theorem dX5_fillEarliestOfAll_53 : decode cX5_fillEarliestOfAll 53 = .ok (.getfield 40, 3) := by decide +kernel
theorem dX5_fillEarliestOfAll_56 : decode cX5_fillEarliestOfAll 56 = .ok (.aload_n 0, 1) := by decide +kernel
theorem dX5_fillEarliestOfAll_57 : decode cX5_fillEarliestOfAll 57 = .ok (.getfield 26, 3) := by decide +kernel
theorem dX5_fillEarliestOfAll_60 : decode cX5_fillEarliestOfAll 60 = .ok (.iload_n 3, 1) := by decide +kernel
theorem dX5_fillEarliestOfAll_61 : decode cX5_fillEarliestOfAll 61 = .ok (.iload_n 2, 1) := by decide +kernel
theorem dX5_fillEarliestOfAll_62 : decode cX5_fillEarliestOfAll 62 = .ok (.invokevirtual 157, 3) := by decide +kernel
theorem dX5_fillEarliestOfAll_65 : decode cX5_fillEarliestOfAll 65 = .ok (.aload_n 0, 1) := by decide +kernel
theorem dX5_fillEarliestOfAll_66 : decode cX5_fillEarliestOfAll 66 = .ok (.getfield 40, 3) := by decide +kernel
theorem dX5_fillEarliestOfAll_69 : decode cX5_fillEarliestOfAll 69 = .ok (.invokevirtual 170, 3) := by decide +kernel
theorem dX5_fillEarliestOfAll_72 : decode cX5_fillEarliestOfAll 72 = .ok (.aload_n 0, 1) := by decide +kernel
theorem dX5_fillEarliestOfAll_73 : decode cX5_fillEarliestOfAll 73 = .ok (.getfield 44, 3) := by decide +kernel
theorem dX5_fillEarliestOfAll_76 : decode cX5_fillEarliestOfAll 76 = .ok (.iload_n 1, 1) := by decide +kernel
theorem dX5_fillEarliestOfAll_77 : decode cX5_fillEarliestOfAll 77 = .ok (.aload_n 0, 1) := by decide +kernel
theorem dX5_fillEarliestOfAll_78 : decode cX5_fillEarliestOfAll 78 = .ok (.getfield 40, 3) := by decide +kernel
theorem dX5_fillEarliestOfAll_81 : decode cX5_fillEarliestOfAll 81 = .ok (.getfield 173, 3) := by decide +kernel
theorem dX5_fillEarliestOfAll_84 : decode cX5_fillEarliestOfAll 84 = .ok (.iastore, 1) := by decide +kernel
theorem dX5_fillEarliestOfAll_85 : decode cX5_fillEarliestOfAll 85 = .ok (.iinc 1 1, 3) := by decide +kernel
theorem dX5_fillEarliestOfAll_88 : decode cX5_fillEarliestOfAll 88 = .ok (.goto (-86), 3) := by decide +kernel
theorem dX5_fillEarliestOfAll_91 : decode cX5_fillEarliestOfAll 91 = .ok (.return_, 1) := by decide +kernel
theorem dX5_placeOfRank_0 : decode cX5_placeOfRank 0 = .ok (.iconst 0, 1) := by decide +kernel
theorem dX5_placeOfRank_1 : decode cX5_placeOfRank 1 = .ok (.istore_n 3, 1) := by decide +kernel
theorem dX5_placeOfRank_2 : decode cX5_placeOfRank 2 = .ok (.iload_n 3, 1) := by decide +kernel
theorem dX5_placeOfRank_3 : decode cX5_placeOfRank 3 = .ok (.aload_n 0, 1) := by decide +kernel
theorem dX5_placeOfRank_4 : decode cX5_placeOfRank 4 = .ok (.getfield 44, 3) := by decide +kernel
theorem dX5_placeOfRank_7 : decode cX5_placeOfRank 7 = .ok (.arraylength, 1) := by decide +kernel
theorem dX5_placeOfRank_8 : decode cX5_placeOfRank 8 = .ok (.if_icmp .ge 30, 3) := by decide +kernel
theorem dX5_placeOfRank_11 : decode cX5_placeOfRank 11 = .ok (.aload_n 0, 1) := by decide +kernel
theorem dX5_placeOfRank_12 : decode cX5_placeOfRank 12 = .ok (.iload_n 1, 1) := by decide +kernel
theorem dX5_placeOfRank_13 : decode cX5_placeOfRank 13 = .ok (.iload_n 3, 1) := by decide +kernel
theorem dX5_placeOfRank_14 : decode cX5_placeOfRank 14 = .ok (.invokevirtual 233, 3) := by decide +kernel
theorem dX5_placeOfRank_17 : decode cX5_placeOfRank 17 = .ok (.ifCond .eq 15, 3) := by decide +kernel
theorem dX5_placeOfRank_20 : decode cX5_placeOfRank 20 = .ok (.aload_n 0, 1) := by decide +kernel
theorem dX5_placeOfRank_21 : decode cX5_placeOfRank 21 = .ok (.iload_n 1, 1) := by decide +kernel
theorem dX5_placeOfRank_22 : decode cX5_placeOfRank 22 = .ok (.iload_n 3, 1) := by decide +kernel
theorem dX5_placeOfRank_23 : decode cX5_placeOfRank 23 = .ok (.invokevirtual 236, 3) := by decide +kernel
theorem dX5_placeOfRank_26 : decode cX5_placeOfRank 26 = .ok (.iload_n 2, 1) := by decide +kernel
theorem dX5_placeOfRank_27 : decode cX5_placeOfRank 27 = .ok (.if_icmp .ne 5, 3) := by decide +kernel
theorem dX5_placeOfRank_30 : decode cX5_placeOfRank 30 = .ok (.iload_n 3, 1) := by decide +kernel
theorem dX5_placeOfRank_31 : decode cX5_placeOfRank 31 = .ok (.ireturn, 1) := by decide +kernel
theorem dX5_placeOfRank_32 : decode cX5_placeOfRank 32 = .ok (.iinc 3 1, 3) := by decide +kernel
theorem dX5_placeOfRank_35 : decode cX5_placeOfRank 35 = .ok (.goto (-33), 3) := by decide +kernel
theorem dX5_placeOfRank_38 : decode cX5_placeOfRank 38 = .ok (.ldc 150, 2) := by decide +kernel
theorem dX5_placeOfRank_40 : decode cX5_placeOfRank 40 = .ok (.ireturn, 1) := by decide +kernel
theorem dX5_isAhead_0 : decode cX5_isAhead 0 = .ok (.aload_n 0, 1) := by decide +kernel
theorem dX5_isAhead_1 : decode cX5_isAhead 1 = .ok (.getfield 44, 3) := by decide +kernel
theorem dX5_isAhead_4 : decode cX5_isAhead 4 = .ok (.iload_n 2, 1) := by decide +kernel
theorem dX5_isAhead_5 : decode cX5_isAhead 5 = .ok (.iaload, 1) := by decide +kernel
theorem dX5_isAhead_6 : decode cX5_isAhead 6 = .ok (.iload_n 1, 1) := by decide +kernel
theorem dX5_isAhead_7 : decode cX5_isAhead 7 = .ok (.if_icmp .lt 19, 3) := by decide +kernel
theorem dX5_isAhead_10 : decode cX5_isAhead 10 = .ok (.aload_n 0, 1) := by decide +kernel
theorem dX5_isAhead_11 : decode cX5_isAhead 11 = .ok (.getfield 44, 3) := by decide +kernel
theorem dX5_isAhead_14 : decode cX5_isAhead 14 = .ok (.iload_n 2, 1) := by decide +kernel
theorem dX5_isAhead_15 : decode cX5_isAhead 15 = .ok (.iaload, 1) := by decide +kernel
theorem dX5_isAhead_16 : decode cX5_isAhead 16 = .ok (.sipush 9999, 3) := by decide +kernel
theorem dX5_isAhead_19 : decode cX5_isAhead 19 = .ok (.if_icmp .eq 7, 3) := by decide +kernel
theorem dX5_isAhead_22 : decode cX5_isAhead 22 = .ok (.iconst 1, 1) := by decide +kernel
theorem dX5_isAhead_23 : decode cX5_isAhead 23 = .ok (.goto 4, 3) := by decide +kernel
theorem dX5_isAhead_26 : decode cX5_isAhead 26 = .ok (.iconst 0, 1) := by decide +kernel
theorem dX5_isAhead_27 : decode cX5_isAhead 27 = .ok (.ireturn, 1) := by decide +kernel
theorem dX5_rankOf_0 : decode cX5_rankOf 0 = .ok (.iconst 0, 1) := by decide +kernel
theorem dX5_rankOf_1 : decode cX5_rankOf 1 = .ok (.istore_n 3, 1) := by decide +kernel
theorem dX5_rankOf_2 : decode cX5_rankOf 2 = .ok (.iconst 0, 1) := by decide +kernel
theorem dX5_rankOf_3 : decode cX5_rankOf 3 = .ok (.istore 4, 2) := by decide +kernel
theorem dX5_rankOf_5 : decode cX5_rankOf 5 = .ok (.iload 4, 2) := by decide +kernel
theorem dX5_rankOf_7 : decode cX5_rankOf 7 = .ok (.aload_n 0, 1) := by decide +kernel
theorem dX5_rankOf_8 : decode cX5_rankOf 8 = .ok (.getfield 44, 3) := by decide +kernel
theorem dX5_rankOf_11 : decode cX5_rankOf 11 = .ok (.arraylength, 1) := by decide +kernel
theorem dX5_rankOf_12 : decode cX5_rankOf 12 = .ok (.if_icmp .ge 72, 3) := by decide +kernel
theorem dX5_rankOf_15 : decode cX5_rankOf 15 = .ok (.aload_n 0, 1) := by decide +kernel
theorem dX5_rankOf_16 : decode cX5_rankOf 16 = .ok (.getfield 44, 3) := by decide +kernel
theorem dX5_rankOf_19 : decode cX5_rankOf 19 = .ok (.iload 4, 2) := by decide +kernel
theorem dX5_rankOf_21 : decode cX5_rankOf 21 = .ok (.iaload, 1) := by decide +kernel
theorem dX5_rankOf_22 : decode cX5_rankOf 22 = .ok (.aload_n 0, 1) := by decide +kernel
theorem dX5_rankOf_23 : decode cX5_rankOf 23 = .ok (.getfield 44, 3) := by decide +kernel
theorem dX5_rankOf_26 : decode cX5_rankOf 26 = .ok (.iload_n 2, 1) := by decide +kernel
theorem dX5_rankOf_27 : decode cX5_rankOf 27 = .ok (.iaload, 1) := by decide +kernel
theorem dX5_rankOf_28 : decode cX5_rankOf 28 = .ok (.if_icmp .lt 25, 3) := by decide +kernel
theorem dX5_rankOf_31 : decode cX5_rankOf 31 = .ok (.aload_n 0, 1) := by decide +kernel
theorem dX5_rankOf_32 : decode cX5_rankOf 32 = .ok (.getfield 44, 3) := by decide +kernel
theorem dX5_rankOf_35 : decode cX5_rankOf 35 = .ok (.iload 4, 2) := by decide +kernel
theorem dX5_rankOf_37 : decode cX5_rankOf 37 = .ok (.iaload, 1) := by decide +kernel
theorem dX5_rankOf_38 : decode cX5_rankOf 38 = .ok (.aload_n 0, 1) := by decide +kernel
theorem dX5_rankOf_39 : decode cX5_rankOf 39 = .ok (.getfield 44, 3) := by decide +kernel
theorem dX5_rankOf_42 : decode cX5_rankOf 42 = .ok (.iload_n 2, 1) := by decide +kernel
theorem dX5_rankOf_43 : decode cX5_rankOf 43 = .ok (.iaload, 1) := by decide +kernel
theorem dX5_rankOf_44 : decode cX5_rankOf 44 = .ok (.if_icmp .ne 13, 3) := by decide +kernel
theorem dX5_rankOf_47 : decode cX5_rankOf 47 = .ok (.iload 4, 2) := by decide +kernel
theorem dX5_rankOf_49 : decode cX5_rankOf 49 = .ok (.iload_n 2, 1) := by decide +kernel
theorem dX5_rankOf_50 : decode cX5_rankOf 50 = .ok (.if_icmp .ge 7, 3) := by decide +kernel
theorem dX5_rankOf_53 : decode cX5_rankOf 53 = .ok (.iconst 1, 1) := by decide +kernel
theorem dX5_rankOf_54 : decode cX5_rankOf 54 = .ok (.goto 4, 3) := by decide +kernel
theorem dX5_rankOf_57 : decode cX5_rankOf 57 = .ok (.iconst 0, 1) := by decide +kernel
theorem dX5_rankOf_58 : decode cX5_rankOf 58 = .ok (.istore 5, 2) := by decide +kernel
theorem dX5_rankOf_60 : decode cX5_rankOf 60 = .ok (.iload 5, 2) := by decide +kernel
theorem dX5_rankOf_62 : decode cX5_rankOf 62 = .ok (.ifCond .eq 16, 3) := by decide +kernel
theorem dX5_rankOf_65 : decode cX5_rankOf 65 = .ok (.aload_n 0, 1) := by decide +kernel
theorem dX5_rankOf_66 : decode cX5_rankOf 66 = .ok (.iload_n 1, 1) := by decide +kernel
theorem dX5_rankOf_67 : decode cX5_rankOf 67 = .ok (.iload 4, 2) := by decide +kernel
theorem dX5_rankOf_69 : decode cX5_rankOf 69 = .ok (.invokevirtual 233, 3) := by decide +kernel
theorem dX5_rankOf_72 : decode cX5_rankOf 72 = .ok (.ifCond .eq 6, 3) := by decide +kernel
theorem dX5_rankOf_75 : decode cX5_rankOf 75 = .ok (.iinc 3 1, 3) := by decide +kernel
theorem dX5_rankOf_78 : decode cX5_rankOf 78 = .ok (.iinc 4 1, 3) := by decide +kernel
theorem dX5_rankOf_81 : decode cX5_rankOf 81 = .ok (.goto (-76), 3) := by decide +kernel
theorem dX5_rankOf_84 : decode cX5_rankOf 84 = .ok (.iload_n 3, 1) := by decide +kernel
theorem dX5_rankOf_85 : decode cX5_rankOf 85 = .ok (.ireturn, 1) := by decide +kernel
theorem dX5_mayBeAsked_0 : decode cX5_mayBeAsked 0 = .ok (.iload_n 0, 1) := by decide +kernel
theorem dX5_mayBeAsked_1 : decode cX5_mayBeAsked 1 = .ok (.sipush 1500, 3) := by decide +kernel
theorem dX5_mayBeAsked_4 : decode cX5_mayBeAsked 4 = .ok (.if_icmp .lt 14, 3) := by decide +kernel
theorem dX5_mayBeAsked_7 : decode cX5_mayBeAsked 7 = .ok (.iload_n 0, 1) := by decide +kernel
theorem dX5_mayBeAsked_8 : decode cX5_mayBeAsked 8 = .ok (.sipush 2299, 3) := by decide +kernel
theorem dX5_mayBeAsked_11 : decode cX5_mayBeAsked 11 = .ok (.if_icmp .gt 7, 3) := by decide +kernel
theorem dX5_mayBeAsked_14 : decode cX5_mayBeAsked 14 = .ok (.iconst 1, 1) := by decide +kernel
theorem dX5_mayBeAsked_15 : decode cX5_mayBeAsked 15 = .ok (.goto 4, 3) := by decide +kernel
theorem dX5_mayBeAsked_18 : decode cX5_mayBeAsked 18 = .ok (.iconst 0, 1) := by decide +kernel
theorem dX5_mayBeAsked_19 : decode cX5_mayBeAsked 19 = .ok (.ireturn, 1) := by decide +kernel
theorem dX5_diedWithin_0 : decode cX5_diedWithin 0 = .ok (.iload_n 0, 1) := by decide +kernel
theorem dX5_diedWithin_1 : decode cX5_diedWithin 1 = .ok (.sipush 1500, 3) := by decide +kernel
theorem dX5_diedWithin_4 : decode cX5_diedWithin 4 = .ok (.if_icmp .lt 19, 3) := by decide +kernel
theorem dX5_diedWithin_7 : decode cX5_diedWithin 7 = .ok (.iload_n 0, 1) := by decide +kernel
theorem dX5_diedWithin_8 : decode cX5_diedWithin 8 = .ok (.iload_n 1, 1) := by decide +kernel
theorem dX5_diedWithin_9 : decode cX5_diedWithin 9 = .ok (.if_icmp .gt 14, 3) := by decide +kernel
theorem dX5_diedWithin_12 : decode cX5_diedWithin 12 = .ok (.iload_n 1, 1) := by decide +kernel
theorem dX5_diedWithin_13 : decode cX5_diedWithin 13 = .ok (.sipush 2099, 3) := by decide +kernel
theorem dX5_diedWithin_16 : decode cX5_diedWithin 16 = .ok (.if_icmp .gt 7, 3) := by decide +kernel
theorem dX5_diedWithin_19 : decode cX5_diedWithin 19 = .ok (.iconst 1, 1) := by decide +kernel
theorem dX5_diedWithin_20 : decode cX5_diedWithin 20 = .ok (.goto 4, 3) := by decide +kernel
theorem dX5_diedWithin_23 : decode cX5_diedWithin 23 = .ok (.iconst 0, 1) := by decide +kernel
theorem dX5_diedWithin_24 : decode cX5_diedWithin 24 = .ok (.ireturn, 1) := by decide +kernel
theorem dX5_needsAuthors_0 : decode cX5_needsAuthors 0 = .ok (.iload_n 0, 1) := by decide +kernel
theorem dX5_needsAuthors_1 : decode cX5_needsAuthors 1 = .ok (.iconst 3, 1) := by decide +kernel
theorem dX5_needsAuthors_2 : decode cX5_needsAuthors 2 = .ok (.if_icmp .eq 12, 3) := by decide +kernel
theorem dX5_needsAuthors_5 : decode cX5_needsAuthors 5 = .ok (.iload_n 0, 1) := by decide +kernel
theorem dX5_needsAuthors_6 : decode cX5_needsAuthors 6 = .ok (.iconst 5, 1) := by decide +kernel
theorem dX5_needsAuthors_7 : decode cX5_needsAuthors 7 = .ok (.if_icmp .eq 7, 3) := by decide +kernel
theorem dX5_needsAuthors_10 : decode cX5_needsAuthors 10 = .ok (.iconst 1, 1) := by decide +kernel
theorem dX5_needsAuthors_11 : decode cX5_needsAuthors 11 = .ok (.goto 4, 3) := by decide +kernel
theorem dX5_needsAuthors_14 : decode cX5_needsAuthors 14 = .ok (.iconst 0, 1) := by decide +kernel
theorem dX5_needsAuthors_15 : decode cX5_needsAuthors 15 = .ok (.ireturn, 1) := by decide +kernel
theorem dX5_isOfKind_0 : decode cX5_isOfKind 0 = .ok (.iload_n 0, 1) := by decide +kernel
theorem dX5_isOfKind_1 : decode cX5_isOfKind 1 = .ok (.istore_n 2, 1) := by decide +kernel
theorem dX5_isOfKind_2 : decode cX5_isOfKind 2 = .ok (.iconst 0, 1) := by decide +kernel
theorem dX5_isOfKind_3 : decode cX5_isOfKind 3 = .ok (.istore_n 3, 1) := by decide +kernel
theorem dX5_isOfKind_4 : decode cX5_isOfKind 4 = .ok (.iload_n 3, 1) := by decide +kernel
theorem dX5_isOfKind_5 : decode cX5_isOfKind 5 = .ok (.bipush 6, 2) := by decide +kernel
theorem dX5_isOfKind_7 : decode cX5_isOfKind 7 = .ok (.if_icmp .ge 32, 3) := by decide +kernel
theorem dX5_isOfKind_10 : decode cX5_isOfKind 10 = .ok (.iload_n 2, 1) := by decide +kernel
theorem dX5_isOfKind_11 : decode cX5_isOfKind 11 = .ok (.ifCond .lt 28, 3) := by decide +kernel
theorem dX5_isOfKind_14 : decode cX5_isOfKind 14 = .ok (.iload_n 2, 1) := by decide +kernel
theorem dX5_isOfKind_15 : decode cX5_isOfKind 15 = .ok (.bipush 6, 2) := by decide +kernel
theorem dX5_isOfKind_17 : decode cX5_isOfKind 17 = .ok (.if_icmp .ge 22, 3) := by decide +kernel
theorem dX5_isOfKind_20 : decode cX5_isOfKind 20 = .ok (.iload_n 2, 1) := by decide +kernel
theorem dX5_isOfKind_21 : decode cX5_isOfKind 21 = .ok (.iload_n 1, 1) := by decide +kernel
theorem dX5_isOfKind_22 : decode cX5_isOfKind 22 = .ok (.if_icmp .ne 5, 3) := by decide +kernel
theorem dX5_isOfKind_25 : decode cX5_isOfKind 25 = .ok (.iconst 1, 1) := by decide +kernel
theorem dX5_isOfKind_26 : decode cX5_isOfKind 26 = .ok (.ireturn, 1) := by decide +kernel
theorem dX5_isOfKind_27 : decode cX5_isOfKind 27 = .ok (.getstatic 239, 3) := by decide +kernel
theorem dX5_isOfKind_30 : decode cX5_isOfKind 30 = .ok (.iload_n 2, 1) := by decide +kernel
theorem dX5_isOfKind_31 : decode cX5_isOfKind 31 = .ok (.iaload, 1) := by decide +kernel
theorem dX5_isOfKind_32 : decode cX5_isOfKind 32 = .ok (.istore_n 2, 1) := by decide +kernel
theorem dX5_isOfKind_33 : decode cX5_isOfKind 33 = .ok (.iinc 3 1, 3) := by decide +kernel
theorem dX5_isOfKind_36 : decode cX5_isOfKind 36 = .ok (.goto (-32), 3) := by decide +kernel
theorem dX5_isOfKind_39 : decode cX5_isOfKind 39 = .ok (.iconst 0, 1) := by decide +kernel
theorem dX5_isOfKind_40 : decode cX5_isOfKind 40 = .ok (.ireturn, 1) := by decide +kernel
theorem dL_law_0 : decode cL_law 0 = .ok (.new 7, 3) := by decide +kernel
theorem dL_law_3 : decode cL_law 3 = .ok (.dup, 1) := by decide +kernel
theorem dL_law_4 : decode cL_law 4 = .ok (.invokespecial 9, 3) := by decide +kernel
theorem dL_law_7 : decode cL_law 7 = .ok (.astore_n 1, 1) := by decide +kernel
theorem dL_law_8 : decode cL_law 8 = .ok (.new 10, 3) := by decide +kernel
theorem dL_law_11 : decode cL_law 11 = .ok (.dup, 1) := by decide +kernel
theorem dL_law_12 : decode cL_law 12 = .ok (.invokespecial 12, 3) := by decide +kernel
theorem dL_law_15 : decode cL_law 15 = .ok (.astore_n 2, 1) := by decide +kernel
theorem dL_law_16 : decode cL_law 16 = .ok (.iconst 0, 1) := by decide +kernel
theorem dL_law_17 : decode cL_law 17 = .ok (.istore_n 3, 1) := by decide +kernel
theorem dL_law_18 : decode cL_law 18 = .ok (.iload_n 3, 1) := by decide +kernel
theorem dL_law_19 : decode cL_law 19 = .ok (.aload_n 0, 1) := by decide +kernel
theorem dL_law_20 : decode cL_law 20 = .ok (.arraylength, 1) := by decide +kernel
theorem dL_law_21 : decode cL_law 21 = .ok (.iconst 5, 1) := by decide +kernel
theorem dL_law_22 : decode cL_law 22 = .ok (.isub, 1) := by decide +kernel
theorem dL_law_23 : decode cL_law 23 = .ok (.if_icmp .gt 959, 3) := by decide +kernel
theorem dL_law_26 : decode cL_law 26 = .ok (.aload_n 0, 1) := by decide +kernel
theorem dL_law_27 : decode cL_law 27 = .ok (.iload_n 3, 1) := by decide +kernel
theorem dL_law_28 : decode cL_law 28 = .ok (.iaload, 1) := by decide +kernel
theorem dL_law_29 : decode cL_law 29 = .ok (.bipush 31, 2) := by decide +kernel
theorem dL_law_31 : decode cL_law 31 = .ok (.iand, 1) := by decide +kernel
theorem dL_law_32 : decode cL_law 32 = .ok (.tableswitch 944 0 23 #[112, 135, 148, 161, 174, 227, 250, 303, 346, 389, 432, 465, 498, 531, 564, 617, 660, 703, 756, 789, 832, 875, 898, 921], 112) := by decide +kernel
theorem dL_law_144 : decode cL_law 144 = .ok (.aload_n 1, 1) := by decide +kernel
theorem dL_law_145 : decode cL_law 145 = .ok (.aload_n 0, 1) := by decide +kernel
theorem dL_law_146 : decode cL_law 146 = .ok (.iload_n 3, 1) := by decide +kernel
theorem dL_law_147 : decode cL_law 147 = .ok (.iconst 1, 1) := by decide +kernel
theorem dL_law_148 : decode cL_law 148 = .ok (.iadd, 1) := by decide +kernel
theorem dL_law_149 : decode cL_law 149 = .ok (.iaload, 1) := by decide +kernel
theorem dL_law_150 : decode cL_law 150 = .ok (.invokevirtual 13, 3) := by decide +kernel
theorem dL_law_153 : decode cL_law 153 = .ok (.aload_n 2, 1) := by decide +kernel
theorem dL_law_154 : decode cL_law 154 = .ok (.aload_n 0, 1) := by decide +kernel
theorem dL_law_155 : decode cL_law 155 = .ok (.iload_n 3, 1) := by decide +kernel
theorem dL_law_156 : decode cL_law 156 = .ok (.iconst 1, 1) := by decide +kernel
theorem dL_law_157 : decode cL_law 157 = .ok (.iadd, 1) := by decide +kernel
theorem dL_law_158 : decode cL_law 158 = .ok (.iaload, 1) := by decide +kernel
theorem dL_law_159 : decode cL_law 159 = .ok (.invokevirtual 17, 3) := by decide +kernel
theorem dL_law_162 : decode cL_law 162 = .ok (.if_icmp .eq 814, 3) := by decide +kernel
theorem dL_law_165 : decode cL_law 165 = .ok (.iconst 0, 1) := by decide +kernel
theorem dL_law_166 : decode cL_law 166 = .ok (.ireturn, 1) := by decide +kernel
theorem dL_law_167 : decode cL_law 167 = .ok (.aload_n 1, 1) := by decide +kernel
theorem dL_law_168 : decode cL_law 168 = .ok (.invokevirtual 18, 3) := by decide +kernel
theorem dL_law_171 : decode cL_law 171 = .ok (.aload_n 2, 1) := by decide +kernel
theorem dL_law_172 : decode cL_law 172 = .ok (.invokevirtual 22, 3) := by decide +kernel
theorem dL_law_175 : decode cL_law 175 = .ok (.if_icmp .eq 801, 3) := by decide +kernel
theorem dL_law_178 : decode cL_law 178 = .ok (.iconst 0, 1) := by decide +kernel
theorem dL_law_179 : decode cL_law 179 = .ok (.ireturn, 1) := by decide +kernel
theorem dL_law_180 : decode cL_law 180 = .ok (.aload_n 1, 1) := by decide +kernel
theorem dL_law_181 : decode cL_law 181 = .ok (.invokevirtual 23, 3) := by decide +kernel
theorem dL_law_184 : decode cL_law 184 = .ok (.aload_n 2, 1) := by decide +kernel
theorem dL_law_185 : decode cL_law 185 = .ok (.invokevirtual 26, 3) := by decide +kernel
theorem dL_law_188 : decode cL_law 188 = .ok (.if_icmp .eq 788, 3) := by decide +kernel
theorem dL_law_191 : decode cL_law 191 = .ok (.iconst 0, 1) := by decide +kernel
theorem dL_law_192 : decode cL_law 192 = .ok (.ireturn, 1) := by decide +kernel
theorem dL_law_193 : decode cL_law 193 = .ok (.aload_n 1, 1) := by decide +kernel
theorem dL_law_194 : decode cL_law 194 = .ok (.invokevirtual 27, 3) := by decide +kernel
theorem dL_law_197 : decode cL_law 197 = .ok (.aload_n 2, 1) := by decide +kernel
theorem dL_law_198 : decode cL_law 198 = .ok (.invokevirtual 30, 3) := by decide +kernel
theorem dL_law_201 : decode cL_law 201 = .ok (.if_icmp .eq 775, 3) := by decide +kernel
theorem dL_law_204 : decode cL_law 204 = .ok (.iconst 0, 1) := by decide +kernel
theorem dL_law_205 : decode cL_law 205 = .ok (.ireturn, 1) := by decide +kernel
theorem dL_law_206 : decode cL_law 206 = .ok (.aload_n 1, 1) := by decide +kernel
theorem dL_law_207 : decode cL_law 207 = .ok (.aload_n 0, 1) := by decide +kernel
theorem dL_law_208 : decode cL_law 208 = .ok (.iload_n 3, 1) := by decide +kernel
theorem dL_law_209 : decode cL_law 209 = .ok (.iconst 1, 1) := by decide +kernel
theorem dL_law_210 : decode cL_law 210 = .ok (.iadd, 1) := by decide +kernel
theorem dL_law_211 : decode cL_law 211 = .ok (.iaload, 1) := by decide +kernel
theorem dL_law_212 : decode cL_law 212 = .ok (.aload_n 0, 1) := by decide +kernel
theorem dL_law_213 : decode cL_law 213 = .ok (.iload_n 3, 1) := by decide +kernel
theorem dL_law_214 : decode cL_law 214 = .ok (.iconst 2, 1) := by decide +kernel
theorem dL_law_215 : decode cL_law 215 = .ok (.iadd, 1) := by decide +kernel
theorem dL_law_216 : decode cL_law 216 = .ok (.iaload, 1) := by decide +kernel
theorem dL_law_217 : decode cL_law 217 = .ok (.aload_n 0, 1) := by decide +kernel
theorem dL_law_218 : decode cL_law 218 = .ok (.iload_n 3, 1) := by decide +kernel
theorem dL_law_219 : decode cL_law 219 = .ok (.iconst 3, 1) := by decide +kernel
theorem dL_law_220 : decode cL_law 220 = .ok (.iadd, 1) := by decide +kernel
theorem dL_law_221 : decode cL_law 221 = .ok (.iaload, 1) := by decide +kernel
theorem dL_law_222 : decode cL_law 222 = .ok (.aload_n 0, 1) := by decide +kernel
theorem dL_law_223 : decode cL_law 223 = .ok (.iload_n 3, 1) := by decide +kernel
theorem dL_law_224 : decode cL_law 224 = .ok (.iconst 4, 1) := by decide +kernel
theorem dL_law_225 : decode cL_law 225 = .ok (.iadd, 1) := by decide +kernel
theorem dL_law_226 : decode cL_law 226 = .ok (.iaload, 1) := by decide +kernel
theorem dL_law_227 : decode cL_law 227 = .ok (.invokevirtual 31, 3) := by decide +kernel
theorem dL_law_230 : decode cL_law 230 = .ok (.aload_n 2, 1) := by decide +kernel
theorem dL_law_231 : decode cL_law 231 = .ok (.aload_n 0, 1) := by decide +kernel
theorem dL_law_232 : decode cL_law 232 = .ok (.iload_n 3, 1) := by decide +kernel
theorem dL_law_233 : decode cL_law 233 = .ok (.iconst 1, 1) := by decide +kernel
theorem dL_law_234 : decode cL_law 234 = .ok (.iadd, 1) := by decide +kernel
theorem dL_law_235 : decode cL_law 235 = .ok (.iaload, 1) := by decide +kernel
theorem dL_law_236 : decode cL_law 236 = .ok (.aload_n 0, 1) := by decide +kernel
theorem dL_law_237 : decode cL_law 237 = .ok (.iload_n 3, 1) := by decide +kernel
theorem dL_law_238 : decode cL_law 238 = .ok (.iconst 2, 1) := by decide +kernel
theorem dL_law_239 : decode cL_law 239 = .ok (.iadd, 1) := by decide +kernel
theorem dL_law_240 : decode cL_law 240 = .ok (.iaload, 1) := by decide +kernel
theorem dL_law_241 : decode cL_law 241 = .ok (.aload_n 0, 1) := by decide +kernel
theorem dL_law_242 : decode cL_law 242 = .ok (.iload_n 3, 1) := by decide +kernel
theorem dL_law_243 : decode cL_law 243 = .ok (.iconst 3, 1) := by decide +kernel
theorem dL_law_244 : decode cL_law 244 = .ok (.iadd, 1) := by decide +kernel
theorem dL_law_245 : decode cL_law 245 = .ok (.iaload, 1) := by decide +kernel
theorem dL_law_246 : decode cL_law 246 = .ok (.aload_n 0, 1) := by decide +kernel
theorem dL_law_247 : decode cL_law 247 = .ok (.iload_n 3, 1) := by decide +kernel
theorem dL_law_248 : decode cL_law 248 = .ok (.iconst 4, 1) := by decide +kernel
theorem dL_law_249 : decode cL_law 249 = .ok (.iadd, 1) := by decide +kernel
theorem dL_law_250 : decode cL_law 250 = .ok (.iaload, 1) := by decide +kernel
theorem dL_law_251 : decode cL_law 251 = .ok (.invokevirtual 35, 3) := by decide +kernel
theorem dL_law_254 : decode cL_law 254 = .ok (.if_icmp .eq 722, 3) := by decide +kernel
theorem dL_law_257 : decode cL_law 257 = .ok (.iconst 0, 1) := by decide +kernel
theorem dL_law_258 : decode cL_law 258 = .ok (.ireturn, 1) := by decide +kernel
theorem dL_law_259 : decode cL_law 259 = .ok (.aload_n 1, 1) := by decide +kernel
theorem dL_law_260 : decode cL_law 260 = .ok (.aload_n 0, 1) := by decide +kernel
theorem dL_law_261 : decode cL_law 261 = .ok (.iload_n 3, 1) := by decide +kernel
theorem dL_law_262 : decode cL_law 262 = .ok (.iconst 1, 1) := by decide +kernel
theorem dL_law_263 : decode cL_law 263 = .ok (.iadd, 1) := by decide +kernel
theorem dL_law_264 : decode cL_law 264 = .ok (.iaload, 1) := by decide +kernel
theorem dL_law_265 : decode cL_law 265 = .ok (.invokevirtual 36, 3) := by decide +kernel
theorem dL_law_268 : decode cL_law 268 = .ok (.aload_n 2, 1) := by decide +kernel
theorem dL_law_269 : decode cL_law 269 = .ok (.aload_n 0, 1) := by decide +kernel
theorem dL_law_270 : decode cL_law 270 = .ok (.iload_n 3, 1) := by decide +kernel
theorem dL_law_271 : decode cL_law 271 = .ok (.iconst 1, 1) := by decide +kernel
theorem dL_law_272 : decode cL_law 272 = .ok (.iadd, 1) := by decide +kernel
theorem dL_law_273 : decode cL_law 273 = .ok (.iaload, 1) := by decide +kernel
theorem dL_law_274 : decode cL_law 274 = .ok (.invokevirtual 39, 3) := by decide +kernel
theorem dL_law_277 : decode cL_law 277 = .ok (.if_icmp .eq 699, 3) := by decide +kernel
theorem dL_law_280 : decode cL_law 280 = .ok (.iconst 0, 1) := by decide +kernel
theorem dL_law_281 : decode cL_law 281 = .ok (.ireturn, 1) := by decide +kernel
theorem dL_law_282 : decode cL_law 282 = .ok (.aload_n 1, 1) := by decide +kernel
theorem dL_law_283 : decode cL_law 283 = .ok (.aload_n 0, 1) := by decide +kernel
theorem dL_law_284 : decode cL_law 284 = .ok (.iload_n 3, 1) := by decide +kernel
theorem dL_law_285 : decode cL_law 285 = .ok (.iconst 1, 1) := by decide +kernel
theorem dL_law_286 : decode cL_law 286 = .ok (.iadd, 1) := by decide +kernel
theorem dL_law_287 : decode cL_law 287 = .ok (.iaload, 1) := by decide +kernel
theorem dL_law_288 : decode cL_law 288 = .ok (.aload_n 0, 1) := by decide +kernel
theorem dL_law_289 : decode cL_law 289 = .ok (.iload_n 3, 1) := by decide +kernel
theorem dL_law_290 : decode cL_law 290 = .ok (.iconst 2, 1) := by decide +kernel
theorem dL_law_291 : decode cL_law 291 = .ok (.iadd, 1) := by decide +kernel
theorem dL_law_292 : decode cL_law 292 = .ok (.iaload, 1) := by decide +kernel
theorem dL_law_293 : decode cL_law 293 = .ok (.aload_n 0, 1) := by decide +kernel
theorem dL_law_294 : decode cL_law 294 = .ok (.iload_n 3, 1) := by decide +kernel
theorem dL_law_295 : decode cL_law 295 = .ok (.iconst 3, 1) := by decide +kernel
theorem dL_law_296 : decode cL_law 296 = .ok (.iadd, 1) := by decide +kernel
theorem dL_law_297 : decode cL_law 297 = .ok (.iaload, 1) := by decide +kernel
theorem dL_law_298 : decode cL_law 298 = .ok (.aload_n 0, 1) := by decide +kernel
theorem dL_law_299 : decode cL_law 299 = .ok (.iload_n 3, 1) := by decide +kernel
theorem dL_law_300 : decode cL_law 300 = .ok (.iconst 4, 1) := by decide +kernel
theorem dL_law_301 : decode cL_law 301 = .ok (.iadd, 1) := by decide +kernel
theorem dL_law_302 : decode cL_law 302 = .ok (.iaload, 1) := by decide +kernel
theorem dL_law_303 : decode cL_law 303 = .ok (.invokevirtual 40, 3) := by decide +kernel
theorem dL_law_306 : decode cL_law 306 = .ok (.aload_n 2, 1) := by decide +kernel
theorem dL_law_307 : decode cL_law 307 = .ok (.aload_n 0, 1) := by decide +kernel
theorem dL_law_308 : decode cL_law 308 = .ok (.iload_n 3, 1) := by decide +kernel
theorem dL_law_309 : decode cL_law 309 = .ok (.iconst 1, 1) := by decide +kernel
theorem dL_law_310 : decode cL_law 310 = .ok (.iadd, 1) := by decide +kernel
theorem dL_law_311 : decode cL_law 311 = .ok (.iaload, 1) := by decide +kernel
theorem dL_law_312 : decode cL_law 312 = .ok (.aload_n 0, 1) := by decide +kernel
theorem dL_law_313 : decode cL_law 313 = .ok (.iload_n 3, 1) := by decide +kernel
theorem dL_law_314 : decode cL_law 314 = .ok (.iconst 2, 1) := by decide +kernel
theorem dL_law_315 : decode cL_law 315 = .ok (.iadd, 1) := by decide +kernel
theorem dL_law_316 : decode cL_law 316 = .ok (.iaload, 1) := by decide +kernel
theorem dL_law_317 : decode cL_law 317 = .ok (.aload_n 0, 1) := by decide +kernel
theorem dL_law_318 : decode cL_law 318 = .ok (.iload_n 3, 1) := by decide +kernel
theorem dL_law_319 : decode cL_law 319 = .ok (.iconst 3, 1) := by decide +kernel
theorem dL_law_320 : decode cL_law 320 = .ok (.iadd, 1) := by decide +kernel
theorem dL_law_321 : decode cL_law 321 = .ok (.iaload, 1) := by decide +kernel
theorem dL_law_322 : decode cL_law 322 = .ok (.aload_n 0, 1) := by decide +kernel
theorem dL_law_323 : decode cL_law 323 = .ok (.iload_n 3, 1) := by decide +kernel
theorem dL_law_324 : decode cL_law 324 = .ok (.iconst 4, 1) := by decide +kernel
theorem dL_law_325 : decode cL_law 325 = .ok (.iadd, 1) := by decide +kernel
theorem dL_law_326 : decode cL_law 326 = .ok (.iaload, 1) := by decide +kernel
theorem dL_law_327 : decode cL_law 327 = .ok (.invokevirtual 43, 3) := by decide +kernel
theorem dL_law_330 : decode cL_law 330 = .ok (.if_icmp .eq 646, 3) := by decide +kernel
theorem dL_law_333 : decode cL_law 333 = .ok (.iconst 0, 1) := by decide +kernel
theorem dL_law_334 : decode cL_law 334 = .ok (.ireturn, 1) := by decide +kernel
theorem dL_law_335 : decode cL_law 335 = .ok (.aload_n 1, 1) := by decide +kernel
theorem dL_law_336 : decode cL_law 336 = .ok (.aload_n 0, 1) := by decide +kernel
theorem dL_law_337 : decode cL_law 337 = .ok (.iload_n 3, 1) := by decide +kernel
theorem dL_law_338 : decode cL_law 338 = .ok (.iconst 1, 1) := by decide +kernel
theorem dL_law_339 : decode cL_law 339 = .ok (.iadd, 1) := by decide +kernel
theorem dL_law_340 : decode cL_law 340 = .ok (.iaload, 1) := by decide +kernel
theorem dL_law_341 : decode cL_law 341 = .ok (.aload_n 0, 1) := by decide +kernel
theorem dL_law_342 : decode cL_law 342 = .ok (.iload_n 3, 1) := by decide +kernel
theorem dL_law_343 : decode cL_law 343 = .ok (.iconst 2, 1) := by decide +kernel
theorem dL_law_344 : decode cL_law 344 = .ok (.iadd, 1) := by decide +kernel
theorem dL_law_345 : decode cL_law 345 = .ok (.iaload, 1) := by decide +kernel
theorem dL_law_346 : decode cL_law 346 = .ok (.aload_n 0, 1) := by decide +kernel
theorem dL_law_347 : decode cL_law 347 = .ok (.iload_n 3, 1) := by decide +kernel
theorem dL_law_348 : decode cL_law 348 = .ok (.iconst 3, 1) := by decide +kernel
theorem dL_law_349 : decode cL_law 349 = .ok (.iadd, 1) := by decide +kernel
theorem dL_law_350 : decode cL_law 350 = .ok (.iaload, 1) := by decide +kernel
theorem dL_law_351 : decode cL_law 351 = .ok (.invokevirtual 44, 3) := by decide +kernel
theorem dL_law_354 : decode cL_law 354 = .ok (.aload_n 2, 1) := by decide +kernel
theorem dL_law_355 : decode cL_law 355 = .ok (.aload_n 0, 1) := by decide +kernel
theorem dL_law_356 : decode cL_law 356 = .ok (.iload_n 3, 1) := by decide +kernel
theorem dL_law_357 : decode cL_law 357 = .ok (.iconst 1, 1) := by decide +kernel
theorem dL_law_358 : decode cL_law 358 = .ok (.iadd, 1) := by decide +kernel
theorem dL_law_359 : decode cL_law 359 = .ok (.iaload, 1) := by decide +kernel
theorem dL_law_360 : decode cL_law 360 = .ok (.aload_n 0, 1) := by decide +kernel
theorem dL_law_361 : decode cL_law 361 = .ok (.iload_n 3, 1) := by decide +kernel
theorem dL_law_362 : decode cL_law 362 = .ok (.iconst 2, 1) := by decide +kernel
theorem dL_law_363 : decode cL_law 363 = .ok (.iadd, 1) := by decide +kernel
theorem dL_law_364 : decode cL_law 364 = .ok (.iaload, 1) := by decide +kernel
theorem dL_law_365 : decode cL_law 365 = .ok (.aload_n 0, 1) := by decide +kernel
theorem dL_law_366 : decode cL_law 366 = .ok (.iload_n 3, 1) := by decide +kernel
theorem dL_law_367 : decode cL_law 367 = .ok (.iconst 3, 1) := by decide +kernel
theorem dL_law_368 : decode cL_law 368 = .ok (.iadd, 1) := by decide +kernel
theorem dL_law_369 : decode cL_law 369 = .ok (.iaload, 1) := by decide +kernel
theorem dL_law_370 : decode cL_law 370 = .ok (.invokevirtual 48, 3) := by decide +kernel
theorem dL_law_373 : decode cL_law 373 = .ok (.if_icmp .eq 603, 3) := by decide +kernel
theorem dL_law_376 : decode cL_law 376 = .ok (.iconst 0, 1) := by decide +kernel
theorem dL_law_377 : decode cL_law 377 = .ok (.ireturn, 1) := by decide +kernel
theorem dL_law_378 : decode cL_law 378 = .ok (.aload_n 1, 1) := by decide +kernel
theorem dL_law_379 : decode cL_law 379 = .ok (.aload_n 0, 1) := by decide +kernel
theorem dL_law_380 : decode cL_law 380 = .ok (.iload_n 3, 1) := by decide +kernel
theorem dL_law_381 : decode cL_law 381 = .ok (.iconst 1, 1) := by decide +kernel
theorem dL_law_382 : decode cL_law 382 = .ok (.iadd, 1) := by decide +kernel
theorem dL_law_383 : decode cL_law 383 = .ok (.iaload, 1) := by decide +kernel
theorem dL_law_384 : decode cL_law 384 = .ok (.aload_n 0, 1) := by decide +kernel
theorem dL_law_385 : decode cL_law 385 = .ok (.iload_n 3, 1) := by decide +kernel
theorem dL_law_386 : decode cL_law 386 = .ok (.iconst 2, 1) := by decide +kernel
theorem dL_law_387 : decode cL_law 387 = .ok (.iadd, 1) := by decide +kernel
theorem dL_law_388 : decode cL_law 388 = .ok (.iaload, 1) := by decide +kernel
theorem dL_law_389 : decode cL_law 389 = .ok (.aload_n 0, 1) := by decide +kernel
theorem dL_law_390 : decode cL_law 390 = .ok (.iload_n 3, 1) := by decide +kernel
theorem dL_law_391 : decode cL_law 391 = .ok (.iconst 3, 1) := by decide +kernel
theorem dL_law_392 : decode cL_law 392 = .ok (.iadd, 1) := by decide +kernel
theorem dL_law_393 : decode cL_law 393 = .ok (.iaload, 1) := by decide +kernel
theorem dL_law_394 : decode cL_law 394 = .ok (.invokevirtual 49, 3) := by decide +kernel
theorem dL_law_397 : decode cL_law 397 = .ok (.aload_n 2, 1) := by decide +kernel
theorem dL_law_398 : decode cL_law 398 = .ok (.aload_n 0, 1) := by decide +kernel
theorem dL_law_399 : decode cL_law 399 = .ok (.iload_n 3, 1) := by decide +kernel
theorem dL_law_400 : decode cL_law 400 = .ok (.iconst 1, 1) := by decide +kernel
theorem dL_law_401 : decode cL_law 401 = .ok (.iadd, 1) := by decide +kernel
theorem dL_law_402 : decode cL_law 402 = .ok (.iaload, 1) := by decide +kernel
theorem dL_law_403 : decode cL_law 403 = .ok (.aload_n 0, 1) := by decide +kernel
theorem dL_law_404 : decode cL_law 404 = .ok (.iload_n 3, 1) := by decide +kernel
theorem dL_law_405 : decode cL_law 405 = .ok (.iconst 2, 1) := by decide +kernel
theorem dL_law_406 : decode cL_law 406 = .ok (.iadd, 1) := by decide +kernel
theorem dL_law_407 : decode cL_law 407 = .ok (.iaload, 1) := by decide +kernel
theorem dL_law_408 : decode cL_law 408 = .ok (.aload_n 0, 1) := by decide +kernel
theorem dL_law_409 : decode cL_law 409 = .ok (.iload_n 3, 1) := by decide +kernel
theorem dL_law_410 : decode cL_law 410 = .ok (.iconst 3, 1) := by decide +kernel
theorem dL_law_411 : decode cL_law 411 = .ok (.iadd, 1) := by decide +kernel
theorem dL_law_412 : decode cL_law 412 = .ok (.iaload, 1) := by decide +kernel
theorem dL_law_413 : decode cL_law 413 = .ok (.invokevirtual 52, 3) := by decide +kernel
theorem dL_law_416 : decode cL_law 416 = .ok (.if_icmp .eq 560, 3) := by decide +kernel
theorem dL_law_419 : decode cL_law 419 = .ok (.iconst 0, 1) := by decide +kernel
theorem dL_law_420 : decode cL_law 420 = .ok (.ireturn, 1) := by decide +kernel
theorem dL_law_421 : decode cL_law 421 = .ok (.aload_n 1, 1) := by decide +kernel
theorem dL_law_422 : decode cL_law 422 = .ok (.aload_n 0, 1) := by decide +kernel
theorem dL_law_423 : decode cL_law 423 = .ok (.iload_n 3, 1) := by decide +kernel
theorem dL_law_424 : decode cL_law 424 = .ok (.iconst 1, 1) := by decide +kernel
theorem dL_law_425 : decode cL_law 425 = .ok (.iadd, 1) := by decide +kernel
theorem dL_law_426 : decode cL_law 426 = .ok (.iaload, 1) := by decide +kernel
theorem dL_law_427 : decode cL_law 427 = .ok (.aload_n 0, 1) := by decide +kernel
theorem dL_law_428 : decode cL_law 428 = .ok (.iload_n 3, 1) := by decide +kernel
theorem dL_law_429 : decode cL_law 429 = .ok (.iconst 2, 1) := by decide +kernel
theorem dL_law_430 : decode cL_law 430 = .ok (.iadd, 1) := by decide +kernel
theorem dL_law_431 : decode cL_law 431 = .ok (.iaload, 1) := by decide +kernel
theorem dL_law_432 : decode cL_law 432 = .ok (.aload_n 0, 1) := by decide +kernel
theorem dL_law_433 : decode cL_law 433 = .ok (.iload_n 3, 1) := by decide +kernel
theorem dL_law_434 : decode cL_law 434 = .ok (.iconst 3, 1) := by decide +kernel
theorem dL_law_435 : decode cL_law 435 = .ok (.iadd, 1) := by decide +kernel
theorem dL_law_436 : decode cL_law 436 = .ok (.iaload, 1) := by decide +kernel
theorem dL_law_437 : decode cL_law 437 = .ok (.invokevirtual 53, 3) := by decide +kernel
theorem dL_law_440 : decode cL_law 440 = .ok (.aload_n 2, 1) := by decide +kernel
theorem dL_law_441 : decode cL_law 441 = .ok (.aload_n 0, 1) := by decide +kernel
theorem dL_law_442 : decode cL_law 442 = .ok (.iload_n 3, 1) := by decide +kernel
theorem dL_law_443 : decode cL_law 443 = .ok (.iconst 1, 1) := by decide +kernel
theorem dL_law_444 : decode cL_law 444 = .ok (.iadd, 1) := by decide +kernel
theorem dL_law_445 : decode cL_law 445 = .ok (.iaload, 1) := by decide +kernel
theorem dL_law_446 : decode cL_law 446 = .ok (.aload_n 0, 1) := by decide +kernel
theorem dL_law_447 : decode cL_law 447 = .ok (.iload_n 3, 1) := by decide +kernel
theorem dL_law_448 : decode cL_law 448 = .ok (.iconst 2, 1) := by decide +kernel
theorem dL_law_449 : decode cL_law 449 = .ok (.iadd, 1) := by decide +kernel
theorem dL_law_450 : decode cL_law 450 = .ok (.iaload, 1) := by decide +kernel
theorem dL_law_451 : decode cL_law 451 = .ok (.aload_n 0, 1) := by decide +kernel
theorem dL_law_452 : decode cL_law 452 = .ok (.iload_n 3, 1) := by decide +kernel
theorem dL_law_453 : decode cL_law 453 = .ok (.iconst 3, 1) := by decide +kernel
theorem dL_law_454 : decode cL_law 454 = .ok (.iadd, 1) := by decide +kernel
theorem dL_law_455 : decode cL_law 455 = .ok (.iaload, 1) := by decide +kernel
theorem dL_law_456 : decode cL_law 456 = .ok (.invokevirtual 56, 3) := by decide +kernel
theorem dL_law_459 : decode cL_law 459 = .ok (.if_icmp .eq 517, 3) := by decide +kernel
theorem dL_law_462 : decode cL_law 462 = .ok (.iconst 0, 1) := by decide +kernel
theorem dL_law_463 : decode cL_law 463 = .ok (.ireturn, 1) := by decide +kernel
theorem dL_law_464 : decode cL_law 464 = .ok (.aload_n 1, 1) := by decide +kernel
theorem dL_law_465 : decode cL_law 465 = .ok (.aload_n 0, 1) := by decide +kernel
theorem dL_law_466 : decode cL_law 466 = .ok (.iload_n 3, 1) := by decide +kernel
theorem dL_law_467 : decode cL_law 467 = .ok (.iconst 1, 1) := by decide +kernel
theorem dL_law_468 : decode cL_law 468 = .ok (.iadd, 1) := by decide +kernel
theorem dL_law_469 : decode cL_law 469 = .ok (.iaload, 1) := by decide +kernel
theorem dL_law_470 : decode cL_law 470 = .ok (.aload_n 0, 1) := by decide +kernel
theorem dL_law_471 : decode cL_law 471 = .ok (.iload_n 3, 1) := by decide +kernel
theorem dL_law_472 : decode cL_law 472 = .ok (.iconst 2, 1) := by decide +kernel
theorem dL_law_473 : decode cL_law 473 = .ok (.iadd, 1) := by decide +kernel
theorem dL_law_474 : decode cL_law 474 = .ok (.iaload, 1) := by decide +kernel
theorem dL_law_475 : decode cL_law 475 = .ok (.invokevirtual 57, 3) := by decide +kernel
theorem dL_law_478 : decode cL_law 478 = .ok (.aload_n 2, 1) := by decide +kernel
theorem dL_law_479 : decode cL_law 479 = .ok (.aload_n 0, 1) := by decide +kernel
theorem dL_law_480 : decode cL_law 480 = .ok (.iload_n 3, 1) := by decide +kernel
theorem dL_law_481 : decode cL_law 481 = .ok (.iconst 1, 1) := by decide +kernel
theorem dL_law_482 : decode cL_law 482 = .ok (.iadd, 1) := by decide +kernel
theorem dL_law_483 : decode cL_law 483 = .ok (.iaload, 1) := by decide +kernel
theorem dL_law_484 : decode cL_law 484 = .ok (.aload_n 0, 1) := by decide +kernel
theorem dL_law_485 : decode cL_law 485 = .ok (.iload_n 3, 1) := by decide +kernel
theorem dL_law_486 : decode cL_law 486 = .ok (.iconst 2, 1) := by decide +kernel
theorem dL_law_487 : decode cL_law 487 = .ok (.iadd, 1) := by decide +kernel
theorem dL_law_488 : decode cL_law 488 = .ok (.iaload, 1) := by decide +kernel
theorem dL_law_489 : decode cL_law 489 = .ok (.invokevirtual 61, 3) := by decide +kernel
theorem dL_law_492 : decode cL_law 492 = .ok (.if_icmp .eq 484, 3) := by decide +kernel
theorem dL_law_495 : decode cL_law 495 = .ok (.iconst 0, 1) := by decide +kernel
theorem dL_law_496 : decode cL_law 496 = .ok (.ireturn, 1) := by decide +kernel
theorem dL_law_497 : decode cL_law 497 = .ok (.aload_n 1, 1) := by decide +kernel
theorem dL_law_498 : decode cL_law 498 = .ok (.aload_n 0, 1) := by decide +kernel
theorem dL_law_499 : decode cL_law 499 = .ok (.iload_n 3, 1) := by decide +kernel
theorem dL_law_500 : decode cL_law 500 = .ok (.iconst 1, 1) := by decide +kernel
theorem dL_law_501 : decode cL_law 501 = .ok (.iadd, 1) := by decide +kernel
theorem dL_law_502 : decode cL_law 502 = .ok (.iaload, 1) := by decide +kernel
theorem dL_law_503 : decode cL_law 503 = .ok (.aload_n 0, 1) := by decide +kernel
theorem dL_law_504 : decode cL_law 504 = .ok (.iload_n 3, 1) := by decide +kernel
theorem dL_law_505 : decode cL_law 505 = .ok (.iconst 2, 1) := by decide +kernel
theorem dL_law_506 : decode cL_law 506 = .ok (.iadd, 1) := by decide +kernel
theorem dL_law_507 : decode cL_law 507 = .ok (.iaload, 1) := by decide +kernel
theorem dL_law_508 : decode cL_law 508 = .ok (.invokevirtual 62, 3) := by decide +kernel
theorem dL_law_511 : decode cL_law 511 = .ok (.aload_n 2, 1) := by decide +kernel
theorem dL_law_512 : decode cL_law 512 = .ok (.aload_n 0, 1) := by decide +kernel
theorem dL_law_513 : decode cL_law 513 = .ok (.iload_n 3, 1) := by decide +kernel
theorem dL_law_514 : decode cL_law 514 = .ok (.iconst 1, 1) := by decide +kernel
theorem dL_law_515 : decode cL_law 515 = .ok (.iadd, 1) := by decide +kernel
theorem dL_law_516 : decode cL_law 516 = .ok (.iaload, 1) := by decide +kernel
theorem dL_law_517 : decode cL_law 517 = .ok (.aload_n 0, 1) := by decide +kernel
theorem dL_law_518 : decode cL_law 518 = .ok (.iload_n 3, 1) := by decide +kernel
theorem dL_law_519 : decode cL_law 519 = .ok (.iconst 2, 1) := by decide +kernel
theorem dL_law_520 : decode cL_law 520 = .ok (.iadd, 1) := by decide +kernel
theorem dL_law_521 : decode cL_law 521 = .ok (.iaload, 1) := by decide +kernel
theorem dL_law_522 : decode cL_law 522 = .ok (.invokevirtual 65, 3) := by decide +kernel
theorem dL_law_525 : decode cL_law 525 = .ok (.if_icmp .eq 451, 3) := by decide +kernel
theorem dL_law_528 : decode cL_law 528 = .ok (.iconst 0, 1) := by decide +kernel
theorem dL_law_529 : decode cL_law 529 = .ok (.ireturn, 1) := by decide +kernel
theorem dL_law_530 : decode cL_law 530 = .ok (.aload_n 1, 1) := by decide +kernel
theorem dL_law_531 : decode cL_law 531 = .ok (.aload_n 0, 1) := by decide +kernel
theorem dL_law_532 : decode cL_law 532 = .ok (.iload_n 3, 1) := by decide +kernel
theorem dL_law_533 : decode cL_law 533 = .ok (.iconst 1, 1) := by decide +kernel
theorem dL_law_534 : decode cL_law 534 = .ok (.iadd, 1) := by decide +kernel
theorem dL_law_535 : decode cL_law 535 = .ok (.iaload, 1) := by decide +kernel
theorem dL_law_536 : decode cL_law 536 = .ok (.aload_n 0, 1) := by decide +kernel
theorem dL_law_537 : decode cL_law 537 = .ok (.iload_n 3, 1) := by decide +kernel
theorem dL_law_538 : decode cL_law 538 = .ok (.iconst 2, 1) := by decide +kernel
theorem dL_law_539 : decode cL_law 539 = .ok (.iadd, 1) := by decide +kernel
theorem dL_law_540 : decode cL_law 540 = .ok (.iaload, 1) := by decide +kernel
theorem dL_law_541 : decode cL_law 541 = .ok (.invokevirtual 66, 3) := by decide +kernel
theorem dL_law_544 : decode cL_law 544 = .ok (.aload_n 2, 1) := by decide +kernel
theorem dL_law_545 : decode cL_law 545 = .ok (.aload_n 0, 1) := by decide +kernel
theorem dL_law_546 : decode cL_law 546 = .ok (.iload_n 3, 1) := by decide +kernel
theorem dL_law_547 : decode cL_law 547 = .ok (.iconst 1, 1) := by decide +kernel
theorem dL_law_548 : decode cL_law 548 = .ok (.iadd, 1) := by decide +kernel
theorem dL_law_549 : decode cL_law 549 = .ok (.iaload, 1) := by decide +kernel
theorem dL_law_550 : decode cL_law 550 = .ok (.aload_n 0, 1) := by decide +kernel
theorem dL_law_551 : decode cL_law 551 = .ok (.iload_n 3, 1) := by decide +kernel
theorem dL_law_552 : decode cL_law 552 = .ok (.iconst 2, 1) := by decide +kernel
theorem dL_law_553 : decode cL_law 553 = .ok (.iadd, 1) := by decide +kernel
theorem dL_law_554 : decode cL_law 554 = .ok (.iaload, 1) := by decide +kernel
theorem dL_law_555 : decode cL_law 555 = .ok (.invokevirtual 69, 3) := by decide +kernel
theorem dL_law_558 : decode cL_law 558 = .ok (.if_icmp .eq 418, 3) := by decide +kernel
theorem dL_law_561 : decode cL_law 561 = .ok (.iconst 0, 1) := by decide +kernel
theorem dL_law_562 : decode cL_law 562 = .ok (.ireturn, 1) := by decide +kernel
theorem dL_law_563 : decode cL_law 563 = .ok (.aload_n 1, 1) := by decide +kernel
theorem dL_law_564 : decode cL_law 564 = .ok (.aload_n 0, 1) := by decide +kernel
theorem dL_law_565 : decode cL_law 565 = .ok (.iload_n 3, 1) := by decide +kernel
theorem dL_law_566 : decode cL_law 566 = .ok (.iconst 1, 1) := by decide +kernel
theorem dL_law_567 : decode cL_law 567 = .ok (.iadd, 1) := by decide +kernel
theorem dL_law_568 : decode cL_law 568 = .ok (.iaload, 1) := by decide +kernel
theorem dL_law_569 : decode cL_law 569 = .ok (.aload_n 0, 1) := by decide +kernel
theorem dL_law_570 : decode cL_law 570 = .ok (.iload_n 3, 1) := by decide +kernel
theorem dL_law_571 : decode cL_law 571 = .ok (.iconst 2, 1) := by decide +kernel
theorem dL_law_572 : decode cL_law 572 = .ok (.iadd, 1) := by decide +kernel
theorem dL_law_573 : decode cL_law 573 = .ok (.iaload, 1) := by decide +kernel
theorem dL_law_574 : decode cL_law 574 = .ok (.invokevirtual 70, 3) := by decide +kernel
theorem dL_law_577 : decode cL_law 577 = .ok (.aload_n 2, 1) := by decide +kernel
theorem dL_law_578 : decode cL_law 578 = .ok (.aload_n 0, 1) := by decide +kernel
theorem dL_law_579 : decode cL_law 579 = .ok (.iload_n 3, 1) := by decide +kernel
theorem dL_law_580 : decode cL_law 580 = .ok (.iconst 1, 1) := by decide +kernel
theorem dL_law_581 : decode cL_law 581 = .ok (.iadd, 1) := by decide +kernel
theorem dL_law_582 : decode cL_law 582 = .ok (.iaload, 1) := by decide +kernel
theorem dL_law_583 : decode cL_law 583 = .ok (.aload_n 0, 1) := by decide +kernel
theorem dL_law_584 : decode cL_law 584 = .ok (.iload_n 3, 1) := by decide +kernel
theorem dL_law_585 : decode cL_law 585 = .ok (.iconst 2, 1) := by decide +kernel
theorem dL_law_586 : decode cL_law 586 = .ok (.iadd, 1) := by decide +kernel
theorem dL_law_587 : decode cL_law 587 = .ok (.iaload, 1) := by decide +kernel
theorem dL_law_588 : decode cL_law 588 = .ok (.invokevirtual 73, 3) := by decide +kernel
theorem dL_law_591 : decode cL_law 591 = .ok (.if_icmp .eq 385, 3) := by decide +kernel
theorem dL_law_594 : decode cL_law 594 = .ok (.iconst 0, 1) := by decide +kernel
theorem dL_law_595 : decode cL_law 595 = .ok (.ireturn, 1) := by decide +kernel
theorem dL_law_596 : decode cL_law 596 = .ok (.aload_n 1, 1) := by decide +kernel
theorem dL_law_597 : decode cL_law 597 = .ok (.aload_n 0, 1) := by decide +kernel
theorem dL_law_598 : decode cL_law 598 = .ok (.iload_n 3, 1) := by decide +kernel
theorem dL_law_599 : decode cL_law 599 = .ok (.iconst 1, 1) := by decide +kernel
theorem dL_law_600 : decode cL_law 600 = .ok (.iadd, 1) := by decide +kernel
theorem dL_law_601 : decode cL_law 601 = .ok (.iaload, 1) := by decide +kernel
theorem dL_law_602 : decode cL_law 602 = .ok (.aload_n 0, 1) := by decide +kernel
theorem dL_law_603 : decode cL_law 603 = .ok (.iload_n 3, 1) := by decide +kernel
theorem dL_law_604 : decode cL_law 604 = .ok (.iconst 2, 1) := by decide +kernel
theorem dL_law_605 : decode cL_law 605 = .ok (.iadd, 1) := by decide +kernel
theorem dL_law_606 : decode cL_law 606 = .ok (.iaload, 1) := by decide +kernel
theorem dL_law_607 : decode cL_law 607 = .ok (.aload_n 0, 1) := by decide +kernel
theorem dL_law_608 : decode cL_law 608 = .ok (.iload_n 3, 1) := by decide +kernel
theorem dL_law_609 : decode cL_law 609 = .ok (.iconst 3, 1) := by decide +kernel
theorem dL_law_610 : decode cL_law 610 = .ok (.iadd, 1) := by decide +kernel
theorem dL_law_611 : decode cL_law 611 = .ok (.iaload, 1) := by decide +kernel
theorem dL_law_612 : decode cL_law 612 = .ok (.aload_n 0, 1) := by decide +kernel
theorem dL_law_613 : decode cL_law 613 = .ok (.iload_n 3, 1) := by decide +kernel
theorem dL_law_614 : decode cL_law 614 = .ok (.iconst 4, 1) := by decide +kernel
theorem dL_law_615 : decode cL_law 615 = .ok (.iadd, 1) := by decide +kernel
theorem dL_law_616 : decode cL_law 616 = .ok (.iaload, 1) := by decide +kernel
theorem dL_law_617 : decode cL_law 617 = .ok (.invokevirtual 74, 3) := by decide +kernel
theorem dL_law_620 : decode cL_law 620 = .ok (.aload_n 2, 1) := by decide +kernel
theorem dL_law_621 : decode cL_law 621 = .ok (.aload_n 0, 1) := by decide +kernel
theorem dL_law_622 : decode cL_law 622 = .ok (.iload_n 3, 1) := by decide +kernel
theorem dL_law_623 : decode cL_law 623 = .ok (.iconst 1, 1) := by decide +kernel
theorem dL_law_624 : decode cL_law 624 = .ok (.iadd, 1) := by decide +kernel
theorem dL_law_625 : decode cL_law 625 = .ok (.iaload, 1) := by decide +kernel
theorem dL_law_626 : decode cL_law 626 = .ok (.aload_n 0, 1) := by decide +kernel
theorem dL_law_627 : decode cL_law 627 = .ok (.iload_n 3, 1) := by decide +kernel
theorem dL_law_628 : decode cL_law 628 = .ok (.iconst 2, 1) := by decide +kernel
theorem dL_law_629 : decode cL_law 629 = .ok (.iadd, 1) := by decide +kernel
theorem dL_law_630 : decode cL_law 630 = .ok (.iaload, 1) := by decide +kernel
theorem dL_law_631 : decode cL_law 631 = .ok (.aload_n 0, 1) := by decide +kernel
theorem dL_law_632 : decode cL_law 632 = .ok (.iload_n 3, 1) := by decide +kernel
theorem dL_law_633 : decode cL_law 633 = .ok (.iconst 3, 1) := by decide +kernel
theorem dL_law_634 : decode cL_law 634 = .ok (.iadd, 1) := by decide +kernel
theorem dL_law_635 : decode cL_law 635 = .ok (.iaload, 1) := by decide +kernel
theorem dL_law_636 : decode cL_law 636 = .ok (.aload_n 0, 1) := by decide +kernel
theorem dL_law_637 : decode cL_law 637 = .ok (.iload_n 3, 1) := by decide +kernel
theorem dL_law_638 : decode cL_law 638 = .ok (.iconst 4, 1) := by decide +kernel
theorem dL_law_639 : decode cL_law 639 = .ok (.iadd, 1) := by decide +kernel
theorem dL_law_640 : decode cL_law 640 = .ok (.iaload, 1) := by decide +kernel
theorem dL_law_641 : decode cL_law 641 = .ok (.invokevirtual 77, 3) := by decide +kernel
theorem dL_law_644 : decode cL_law 644 = .ok (.if_icmp .eq 332, 3) := by decide +kernel
theorem dL_law_647 : decode cL_law 647 = .ok (.iconst 0, 1) := by decide +kernel
theorem dL_law_648 : decode cL_law 648 = .ok (.ireturn, 1) := by decide +kernel
theorem dL_law_649 : decode cL_law 649 = .ok (.aload_n 1, 1) := by decide +kernel
theorem dL_law_650 : decode cL_law 650 = .ok (.aload_n 0, 1) := by decide +kernel
theorem dL_law_651 : decode cL_law 651 = .ok (.iload_n 3, 1) := by decide +kernel
theorem dL_law_652 : decode cL_law 652 = .ok (.iconst 1, 1) := by decide +kernel
theorem dL_law_653 : decode cL_law 653 = .ok (.iadd, 1) := by decide +kernel
theorem dL_law_654 : decode cL_law 654 = .ok (.iaload, 1) := by decide +kernel
theorem dL_law_655 : decode cL_law 655 = .ok (.aload_n 0, 1) := by decide +kernel
theorem dL_law_656 : decode cL_law 656 = .ok (.iload_n 3, 1) := by decide +kernel
theorem dL_law_657 : decode cL_law 657 = .ok (.iconst 2, 1) := by decide +kernel
theorem dL_law_658 : decode cL_law 658 = .ok (.iadd, 1) := by decide +kernel
theorem dL_law_659 : decode cL_law 659 = .ok (.iaload, 1) := by decide +kernel
theorem dL_law_660 : decode cL_law 660 = .ok (.aload_n 0, 1) := by decide +kernel
theorem dL_law_661 : decode cL_law 661 = .ok (.iload_n 3, 1) := by decide +kernel
theorem dL_law_662 : decode cL_law 662 = .ok (.iconst 3, 1) := by decide +kernel
theorem dL_law_663 : decode cL_law 663 = .ok (.iadd, 1) := by decide +kernel
theorem dL_law_664 : decode cL_law 664 = .ok (.iaload, 1) := by decide +kernel
theorem dL_law_665 : decode cL_law 665 = .ok (.invokevirtual 78, 3) := by decide +kernel
theorem dL_law_668 : decode cL_law 668 = .ok (.aload_n 2, 1) := by decide +kernel
theorem dL_law_669 : decode cL_law 669 = .ok (.aload_n 0, 1) := by decide +kernel
theorem dL_law_670 : decode cL_law 670 = .ok (.iload_n 3, 1) := by decide +kernel
theorem dL_law_671 : decode cL_law 671 = .ok (.iconst 1, 1) := by decide +kernel
theorem dL_law_672 : decode cL_law 672 = .ok (.iadd, 1) := by decide +kernel
theorem dL_law_673 : decode cL_law 673 = .ok (.iaload, 1) := by decide +kernel
theorem dL_law_674 : decode cL_law 674 = .ok (.aload_n 0, 1) := by decide +kernel
theorem dL_law_675 : decode cL_law 675 = .ok (.iload_n 3, 1) := by decide +kernel
theorem dL_law_676 : decode cL_law 676 = .ok (.iconst 2, 1) := by decide +kernel
theorem dL_law_677 : decode cL_law 677 = .ok (.iadd, 1) := by decide +kernel
theorem dL_law_678 : decode cL_law 678 = .ok (.iaload, 1) := by decide +kernel
theorem dL_law_679 : decode cL_law 679 = .ok (.aload_n 0, 1) := by decide +kernel
theorem dL_law_680 : decode cL_law 680 = .ok (.iload_n 3, 1) := by decide +kernel
theorem dL_law_681 : decode cL_law 681 = .ok (.iconst 3, 1) := by decide +kernel
theorem dL_law_682 : decode cL_law 682 = .ok (.iadd, 1) := by decide +kernel
theorem dL_law_683 : decode cL_law 683 = .ok (.iaload, 1) := by decide +kernel
theorem dL_law_684 : decode cL_law 684 = .ok (.invokevirtual 81, 3) := by decide +kernel
theorem dL_law_687 : decode cL_law 687 = .ok (.if_icmp .eq 289, 3) := by decide +kernel
theorem dL_law_690 : decode cL_law 690 = .ok (.iconst 0, 1) := by decide +kernel
theorem dL_law_691 : decode cL_law 691 = .ok (.ireturn, 1) := by decide +kernel
theorem dL_law_692 : decode cL_law 692 = .ok (.aload_n 1, 1) := by decide +kernel
theorem dL_law_693 : decode cL_law 693 = .ok (.aload_n 0, 1) := by decide +kernel
theorem dL_law_694 : decode cL_law 694 = .ok (.iload_n 3, 1) := by decide +kernel
theorem dL_law_695 : decode cL_law 695 = .ok (.iconst 1, 1) := by decide +kernel
theorem dL_law_696 : decode cL_law 696 = .ok (.iadd, 1) := by decide +kernel
theorem dL_law_697 : decode cL_law 697 = .ok (.iaload, 1) := by decide +kernel
theorem dL_law_698 : decode cL_law 698 = .ok (.aload_n 0, 1) := by decide +kernel
theorem dL_law_699 : decode cL_law 699 = .ok (.iload_n 3, 1) := by decide +kernel
theorem dL_law_700 : decode cL_law 700 = .ok (.iconst 2, 1) := by decide +kernel
theorem dL_law_701 : decode cL_law 701 = .ok (.iadd, 1) := by decide +kernel
theorem dL_law_702 : decode cL_law 702 = .ok (.iaload, 1) := by decide +kernel
theorem dL_law_703 : decode cL_law 703 = .ok (.aload_n 0, 1) := by decide +kernel
theorem dL_law_704 : decode cL_law 704 = .ok (.iload_n 3, 1) := by decide +kernel
theorem dL_law_705 : decode cL_law 705 = .ok (.iconst 3, 1) := by decide +kernel
theorem dL_law_706 : decode cL_law 706 = .ok (.iadd, 1) := by decide +kernel
theorem dL_law_707 : decode cL_law 707 = .ok (.iaload, 1) := by decide +kernel
theorem dL_law_708 : decode cL_law 708 = .ok (.invokevirtual 82, 3) := by decide +kernel
theorem dL_law_711 : decode cL_law 711 = .ok (.aload_n 2, 1) := by decide +kernel
theorem dL_law_712 : decode cL_law 712 = .ok (.aload_n 0, 1) := by decide +kernel
theorem dL_law_713 : decode cL_law 713 = .ok (.iload_n 3, 1) := by decide +kernel
theorem dL_law_714 : decode cL_law 714 = .ok (.iconst 1, 1) := by decide +kernel
theorem dL_law_715 : decode cL_law 715 = .ok (.iadd, 1) := by decide +kernel
theorem dL_law_716 : decode cL_law 716 = .ok (.iaload, 1) := by decide +kernel
theorem dL_law_717 : decode cL_law 717 = .ok (.aload_n 0, 1) := by decide +kernel
theorem dL_law_718 : decode cL_law 718 = .ok (.iload_n 3, 1) := by decide +kernel
theorem dL_law_719 : decode cL_law 719 = .ok (.iconst 2, 1) := by decide +kernel
theorem dL_law_720 : decode cL_law 720 = .ok (.iadd, 1) := by decide +kernel
theorem dL_law_721 : decode cL_law 721 = .ok (.iaload, 1) := by decide +kernel
theorem dL_law_722 : decode cL_law 722 = .ok (.aload_n 0, 1) := by decide +kernel
theorem dL_law_723 : decode cL_law 723 = .ok (.iload_n 3, 1) := by decide +kernel
theorem dL_law_724 : decode cL_law 724 = .ok (.iconst 3, 1) := by decide +kernel
theorem dL_law_725 : decode cL_law 725 = .ok (.iadd, 1) := by decide +kernel
theorem dL_law_726 : decode cL_law 726 = .ok (.iaload, 1) := by decide +kernel
theorem dL_law_727 : decode cL_law 727 = .ok (.invokevirtual 85, 3) := by decide +kernel
theorem dL_law_730 : decode cL_law 730 = .ok (.if_icmp .eq 246, 3) := by decide +kernel
theorem dL_law_733 : decode cL_law 733 = .ok (.iconst 0, 1) := by decide +kernel
theorem dL_law_734 : decode cL_law 734 = .ok (.ireturn, 1) := by decide +kernel
theorem dL_law_735 : decode cL_law 735 = .ok (.aload_n 1, 1) := by decide +kernel
theorem dL_law_736 : decode cL_law 736 = .ok (.aload_n 0, 1) := by decide +kernel
theorem dL_law_737 : decode cL_law 737 = .ok (.iload_n 3, 1) := by decide +kernel
theorem dL_law_738 : decode cL_law 738 = .ok (.iconst 1, 1) := by decide +kernel
theorem dL_law_739 : decode cL_law 739 = .ok (.iadd, 1) := by decide +kernel
theorem dL_law_740 : decode cL_law 740 = .ok (.iaload, 1) := by decide +kernel
theorem dL_law_741 : decode cL_law 741 = .ok (.aload_n 0, 1) := by decide +kernel
theorem dL_law_742 : decode cL_law 742 = .ok (.iload_n 3, 1) := by decide +kernel
theorem dL_law_743 : decode cL_law 743 = .ok (.iconst 2, 1) := by decide +kernel
theorem dL_law_744 : decode cL_law 744 = .ok (.iadd, 1) := by decide +kernel
theorem dL_law_745 : decode cL_law 745 = .ok (.iaload, 1) := by decide +kernel
theorem dL_law_746 : decode cL_law 746 = .ok (.aload_n 0, 1) := by decide +kernel
theorem dL_law_747 : decode cL_law 747 = .ok (.iload_n 3, 1) := by decide +kernel
theorem dL_law_748 : decode cL_law 748 = .ok (.iconst 3, 1) := by decide +kernel
theorem dL_law_749 : decode cL_law 749 = .ok (.iadd, 1) := by decide +kernel
theorem dL_law_750 : decode cL_law 750 = .ok (.iaload, 1) := by decide +kernel
theorem dL_law_751 : decode cL_law 751 = .ok (.aload_n 0, 1) := by decide +kernel
theorem dL_law_752 : decode cL_law 752 = .ok (.iload_n 3, 1) := by decide +kernel
theorem dL_law_753 : decode cL_law 753 = .ok (.iconst 4, 1) := by decide +kernel
theorem dL_law_754 : decode cL_law 754 = .ok (.iadd, 1) := by decide +kernel
theorem dL_law_755 : decode cL_law 755 = .ok (.iaload, 1) := by decide +kernel
theorem dL_law_756 : decode cL_law 756 = .ok (.invokevirtual 86, 3) := by decide +kernel
theorem dL_law_759 : decode cL_law 759 = .ok (.aload_n 2, 1) := by decide +kernel
theorem dL_law_760 : decode cL_law 760 = .ok (.aload_n 0, 1) := by decide +kernel
theorem dL_law_761 : decode cL_law 761 = .ok (.iload_n 3, 1) := by decide +kernel
theorem dL_law_762 : decode cL_law 762 = .ok (.iconst 1, 1) := by decide +kernel
theorem dL_law_763 : decode cL_law 763 = .ok (.iadd, 1) := by decide +kernel
theorem dL_law_764 : decode cL_law 764 = .ok (.iaload, 1) := by decide +kernel
theorem dL_law_765 : decode cL_law 765 = .ok (.aload_n 0, 1) := by decide +kernel
theorem dL_law_766 : decode cL_law 766 = .ok (.iload_n 3, 1) := by decide +kernel
theorem dL_law_767 : decode cL_law 767 = .ok (.iconst 2, 1) := by decide +kernel
theorem dL_law_768 : decode cL_law 768 = .ok (.iadd, 1) := by decide +kernel
theorem dL_law_769 : decode cL_law 769 = .ok (.iaload, 1) := by decide +kernel
theorem dL_law_770 : decode cL_law 770 = .ok (.aload_n 0, 1) := by decide +kernel
theorem dL_law_771 : decode cL_law 771 = .ok (.iload_n 3, 1) := by decide +kernel
theorem dL_law_772 : decode cL_law 772 = .ok (.iconst 3, 1) := by decide +kernel
theorem dL_law_773 : decode cL_law 773 = .ok (.iadd, 1) := by decide +kernel
theorem dL_law_774 : decode cL_law 774 = .ok (.iaload, 1) := by decide +kernel
theorem dL_law_775 : decode cL_law 775 = .ok (.aload_n 0, 1) := by decide +kernel
theorem dL_law_776 : decode cL_law 776 = .ok (.iload_n 3, 1) := by decide +kernel
theorem dL_law_777 : decode cL_law 777 = .ok (.iconst 4, 1) := by decide +kernel
theorem dL_law_778 : decode cL_law 778 = .ok (.iadd, 1) := by decide +kernel
theorem dL_law_779 : decode cL_law 779 = .ok (.iaload, 1) := by decide +kernel
theorem dL_law_780 : decode cL_law 780 = .ok (.invokevirtual 89, 3) := by decide +kernel
theorem dL_law_783 : decode cL_law 783 = .ok (.if_icmp .eq 193, 3) := by decide +kernel
theorem dL_law_786 : decode cL_law 786 = .ok (.iconst 0, 1) := by decide +kernel
theorem dL_law_787 : decode cL_law 787 = .ok (.ireturn, 1) := by decide +kernel
theorem dL_law_788 : decode cL_law 788 = .ok (.aload_n 1, 1) := by decide +kernel
theorem dL_law_789 : decode cL_law 789 = .ok (.aload_n 0, 1) := by decide +kernel
theorem dL_law_790 : decode cL_law 790 = .ok (.iload_n 3, 1) := by decide +kernel
theorem dL_law_791 : decode cL_law 791 = .ok (.iconst 1, 1) := by decide +kernel
theorem dL_law_792 : decode cL_law 792 = .ok (.iadd, 1) := by decide +kernel
theorem dL_law_793 : decode cL_law 793 = .ok (.iaload, 1) := by decide +kernel
theorem dL_law_794 : decode cL_law 794 = .ok (.aload_n 0, 1) := by decide +kernel
theorem dL_law_795 : decode cL_law 795 = .ok (.iload_n 3, 1) := by decide +kernel
theorem dL_law_796 : decode cL_law 796 = .ok (.iconst 2, 1) := by decide +kernel
theorem dL_law_797 : decode cL_law 797 = .ok (.iadd, 1) := by decide +kernel
theorem dL_law_798 : decode cL_law 798 = .ok (.iaload, 1) := by decide +kernel
theorem dL_law_799 : decode cL_law 799 = .ok (.invokevirtual 90, 3) := by decide +kernel
theorem dL_law_802 : decode cL_law 802 = .ok (.aload_n 2, 1) := by decide +kernel
theorem dL_law_803 : decode cL_law 803 = .ok (.aload_n 0, 1) := by decide +kernel
theorem dL_law_804 : decode cL_law 804 = .ok (.iload_n 3, 1) := by decide +kernel
theorem dL_law_805 : decode cL_law 805 = .ok (.iconst 1, 1) := by decide +kernel
theorem dL_law_806 : decode cL_law 806 = .ok (.iadd, 1) := by decide +kernel
theorem dL_law_807 : decode cL_law 807 = .ok (.iaload, 1) := by decide +kernel
theorem dL_law_808 : decode cL_law 808 = .ok (.aload_n 0, 1) := by decide +kernel
theorem dL_law_809 : decode cL_law 809 = .ok (.iload_n 3, 1) := by decide +kernel
theorem dL_law_810 : decode cL_law 810 = .ok (.iconst 2, 1) := by decide +kernel
theorem dL_law_811 : decode cL_law 811 = .ok (.iadd, 1) := by decide +kernel
theorem dL_law_812 : decode cL_law 812 = .ok (.iaload, 1) := by decide +kernel
theorem dL_law_813 : decode cL_law 813 = .ok (.invokevirtual 93, 3) := by decide +kernel
theorem dL_law_816 : decode cL_law 816 = .ok (.if_icmp .eq 160, 3) := by decide +kernel
theorem dL_law_819 : decode cL_law 819 = .ok (.iconst 0, 1) := by decide +kernel
theorem dL_law_820 : decode cL_law 820 = .ok (.ireturn, 1) := by decide +kernel
theorem dL_law_821 : decode cL_law 821 = .ok (.aload_n 1, 1) := by decide +kernel
theorem dL_law_822 : decode cL_law 822 = .ok (.aload_n 0, 1) := by decide +kernel
theorem dL_law_823 : decode cL_law 823 = .ok (.iload_n 3, 1) := by decide +kernel
theorem dL_law_824 : decode cL_law 824 = .ok (.iconst 1, 1) := by decide +kernel
theorem dL_law_825 : decode cL_law 825 = .ok (.iadd, 1) := by decide +kernel
theorem dL_law_826 : decode cL_law 826 = .ok (.iaload, 1) := by decide +kernel
theorem dL_law_827 : decode cL_law 827 = .ok (.aload_n 0, 1) := by decide +kernel
theorem dL_law_828 : decode cL_law 828 = .ok (.iload_n 3, 1) := by decide +kernel
theorem dL_law_829 : decode cL_law 829 = .ok (.iconst 2, 1) := by decide +kernel
theorem dL_law_830 : decode cL_law 830 = .ok (.iadd, 1) := by decide +kernel
theorem dL_law_831 : decode cL_law 831 = .ok (.iaload, 1) := by decide +kernel
theorem dL_law_832 : decode cL_law 832 = .ok (.aload_n 0, 1) := by decide +kernel
theorem dL_law_833 : decode cL_law 833 = .ok (.iload_n 3, 1) := by decide +kernel
theorem dL_law_834 : decode cL_law 834 = .ok (.iconst 3, 1) := by decide +kernel
theorem dL_law_835 : decode cL_law 835 = .ok (.iadd, 1) := by decide +kernel
theorem dL_law_836 : decode cL_law 836 = .ok (.iaload, 1) := by decide +kernel
theorem dL_law_837 : decode cL_law 837 = .ok (.invokevirtual 94, 3) := by decide +kernel
theorem dL_law_840 : decode cL_law 840 = .ok (.aload_n 2, 1) := by decide +kernel
theorem dL_law_841 : decode cL_law 841 = .ok (.aload_n 0, 1) := by decide +kernel
theorem dL_law_842 : decode cL_law 842 = .ok (.iload_n 3, 1) := by decide +kernel
theorem dL_law_843 : decode cL_law 843 = .ok (.iconst 1, 1) := by decide +kernel
theorem dL_law_844 : decode cL_law 844 = .ok (.iadd, 1) := by decide +kernel
theorem dL_law_845 : decode cL_law 845 = .ok (.iaload, 1) := by decide +kernel
theorem dL_law_846 : decode cL_law 846 = .ok (.aload_n 0, 1) := by decide +kernel
theorem dL_law_847 : decode cL_law 847 = .ok (.iload_n 3, 1) := by decide +kernel
theorem dL_law_848 : decode cL_law 848 = .ok (.iconst 2, 1) := by decide +kernel
theorem dL_law_849 : decode cL_law 849 = .ok (.iadd, 1) := by decide +kernel
theorem dL_law_850 : decode cL_law 850 = .ok (.iaload, 1) := by decide +kernel
theorem dL_law_851 : decode cL_law 851 = .ok (.aload_n 0, 1) := by decide +kernel
theorem dL_law_852 : decode cL_law 852 = .ok (.iload_n 3, 1) := by decide +kernel
theorem dL_law_853 : decode cL_law 853 = .ok (.iconst 3, 1) := by decide +kernel
theorem dL_law_854 : decode cL_law 854 = .ok (.iadd, 1) := by decide +kernel
theorem dL_law_855 : decode cL_law 855 = .ok (.iaload, 1) := by decide +kernel
theorem dL_law_856 : decode cL_law 856 = .ok (.invokevirtual 97, 3) := by decide +kernel
theorem dL_law_859 : decode cL_law 859 = .ok (.if_icmp .eq 117, 3) := by decide +kernel
theorem dL_law_862 : decode cL_law 862 = .ok (.iconst 0, 1) := by decide +kernel
theorem dL_law_863 : decode cL_law 863 = .ok (.ireturn, 1) := by decide +kernel
theorem dL_law_864 : decode cL_law 864 = .ok (.aload_n 1, 1) := by decide +kernel
theorem dL_law_865 : decode cL_law 865 = .ok (.aload_n 0, 1) := by decide +kernel
theorem dL_law_866 : decode cL_law 866 = .ok (.iload_n 3, 1) := by decide +kernel
theorem dL_law_867 : decode cL_law 867 = .ok (.iconst 1, 1) := by decide +kernel
theorem dL_law_868 : decode cL_law 868 = .ok (.iadd, 1) := by decide +kernel
theorem dL_law_869 : decode cL_law 869 = .ok (.iaload, 1) := by decide +kernel
theorem dL_law_870 : decode cL_law 870 = .ok (.aload_n 0, 1) := by decide +kernel
theorem dL_law_871 : decode cL_law 871 = .ok (.iload_n 3, 1) := by decide +kernel
theorem dL_law_872 : decode cL_law 872 = .ok (.iconst 2, 1) := by decide +kernel
theorem dL_law_873 : decode cL_law 873 = .ok (.iadd, 1) := by decide +kernel
theorem dL_law_874 : decode cL_law 874 = .ok (.iaload, 1) := by decide +kernel
theorem dL_law_875 : decode cL_law 875 = .ok (.aload_n 0, 1) := by decide +kernel
theorem dL_law_876 : decode cL_law 876 = .ok (.iload_n 3, 1) := by decide +kernel
theorem dL_law_877 : decode cL_law 877 = .ok (.iconst 3, 1) := by decide +kernel
theorem dL_law_878 : decode cL_law 878 = .ok (.iadd, 1) := by decide +kernel
theorem dL_law_879 : decode cL_law 879 = .ok (.iaload, 1) := by decide +kernel
theorem dL_law_880 : decode cL_law 880 = .ok (.invokevirtual 98, 3) := by decide +kernel
theorem dL_law_883 : decode cL_law 883 = .ok (.aload_n 2, 1) := by decide +kernel
theorem dL_law_884 : decode cL_law 884 = .ok (.aload_n 0, 1) := by decide +kernel
theorem dL_law_885 : decode cL_law 885 = .ok (.iload_n 3, 1) := by decide +kernel
theorem dL_law_886 : decode cL_law 886 = .ok (.iconst 1, 1) := by decide +kernel
theorem dL_law_887 : decode cL_law 887 = .ok (.iadd, 1) := by decide +kernel
theorem dL_law_888 : decode cL_law 888 = .ok (.iaload, 1) := by decide +kernel
theorem dL_law_889 : decode cL_law 889 = .ok (.aload_n 0, 1) := by decide +kernel
theorem dL_law_890 : decode cL_law 890 = .ok (.iload_n 3, 1) := by decide +kernel
theorem dL_law_891 : decode cL_law 891 = .ok (.iconst 2, 1) := by decide +kernel
theorem dL_law_892 : decode cL_law 892 = .ok (.iadd, 1) := by decide +kernel
theorem dL_law_893 : decode cL_law 893 = .ok (.iaload, 1) := by decide +kernel
theorem dL_law_894 : decode cL_law 894 = .ok (.aload_n 0, 1) := by decide +kernel
theorem dL_law_895 : decode cL_law 895 = .ok (.iload_n 3, 1) := by decide +kernel
theorem dL_law_896 : decode cL_law 896 = .ok (.iconst 3, 1) := by decide +kernel
theorem dL_law_897 : decode cL_law 897 = .ok (.iadd, 1) := by decide +kernel
theorem dL_law_898 : decode cL_law 898 = .ok (.iaload, 1) := by decide +kernel
theorem dL_law_899 : decode cL_law 899 = .ok (.invokevirtual 101, 3) := by decide +kernel
theorem dL_law_902 : decode cL_law 902 = .ok (.if_icmp .eq 74, 3) := by decide +kernel
theorem dL_law_905 : decode cL_law 905 = .ok (.iconst 0, 1) := by decide +kernel
theorem dL_law_906 : decode cL_law 906 = .ok (.ireturn, 1) := by decide +kernel
theorem dL_law_907 : decode cL_law 907 = .ok (.aload_n 1, 1) := by decide +kernel
theorem dL_law_908 : decode cL_law 908 = .ok (.aload_n 0, 1) := by decide +kernel
theorem dL_law_909 : decode cL_law 909 = .ok (.iload_n 3, 1) := by decide +kernel
theorem dL_law_910 : decode cL_law 910 = .ok (.iconst 1, 1) := by decide +kernel
theorem dL_law_911 : decode cL_law 911 = .ok (.iadd, 1) := by decide +kernel
theorem dL_law_912 : decode cL_law 912 = .ok (.iaload, 1) := by decide +kernel
theorem dL_law_913 : decode cL_law 913 = .ok (.invokevirtual 102, 3) := by decide +kernel
theorem dL_law_916 : decode cL_law 916 = .ok (.aload_n 2, 1) := by decide +kernel
theorem dL_law_917 : decode cL_law 917 = .ok (.aload_n 0, 1) := by decide +kernel
theorem dL_law_918 : decode cL_law 918 = .ok (.iload_n 3, 1) := by decide +kernel
theorem dL_law_919 : decode cL_law 919 = .ok (.iconst 1, 1) := by decide +kernel
theorem dL_law_920 : decode cL_law 920 = .ok (.iadd, 1) := by decide +kernel
theorem dL_law_921 : decode cL_law 921 = .ok (.iaload, 1) := by decide +kernel
theorem dL_law_922 : decode cL_law 922 = .ok (.invokevirtual 105, 3) := by decide +kernel
theorem dL_law_925 : decode cL_law 925 = .ok (.if_icmp .eq 51, 3) := by decide +kernel
theorem dL_law_928 : decode cL_law 928 = .ok (.iconst 0, 1) := by decide +kernel
theorem dL_law_929 : decode cL_law 929 = .ok (.ireturn, 1) := by decide +kernel
theorem dL_law_930 : decode cL_law 930 = .ok (.aload_n 1, 1) := by decide +kernel
theorem dL_law_931 : decode cL_law 931 = .ok (.aload_n 0, 1) := by decide +kernel
theorem dL_law_932 : decode cL_law 932 = .ok (.iload_n 3, 1) := by decide +kernel
theorem dL_law_933 : decode cL_law 933 = .ok (.iconst 1, 1) := by decide +kernel
theorem dL_law_934 : decode cL_law 934 = .ok (.iadd, 1) := by decide +kernel
theorem dL_law_935 : decode cL_law 935 = .ok (.iaload, 1) := by decide +kernel
theorem dL_law_936 : decode cL_law 936 = .ok (.invokevirtual 106, 3) := by decide +kernel
theorem dL_law_939 : decode cL_law 939 = .ok (.aload_n 2, 1) := by decide +kernel
theorem dL_law_940 : decode cL_law 940 = .ok (.aload_n 0, 1) := by decide +kernel
theorem dL_law_941 : decode cL_law 941 = .ok (.iload_n 3, 1) := by decide +kernel
theorem dL_law_942 : decode cL_law 942 = .ok (.iconst 1, 1) := by decide +kernel
theorem dL_law_943 : decode cL_law 943 = .ok (.iadd, 1) := by decide +kernel
theorem dL_law_944 : decode cL_law 944 = .ok (.iaload, 1) := by decide +kernel
theorem dL_law_945 : decode cL_law 945 = .ok (.invokevirtual 109, 3) := by decide +kernel
theorem dL_law_948 : decode cL_law 948 = .ok (.if_icmp .eq 28, 3) := by decide +kernel
theorem dL_law_951 : decode cL_law 951 = .ok (.iconst 0, 1) := by decide +kernel
theorem dL_law_952 : decode cL_law 952 = .ok (.ireturn, 1) := by decide +kernel
theorem dL_law_953 : decode cL_law 953 = .ok (.aload_n 1, 1) := by decide +kernel
theorem dL_law_954 : decode cL_law 954 = .ok (.aload_n 0, 1) := by decide +kernel
theorem dL_law_955 : decode cL_law 955 = .ok (.iload_n 3, 1) := by decide +kernel
theorem dL_law_956 : decode cL_law 956 = .ok (.iconst 1, 1) := by decide +kernel
theorem dL_law_957 : decode cL_law 957 = .ok (.iadd, 1) := by decide +kernel
theorem dL_law_958 : decode cL_law 958 = .ok (.iaload, 1) := by decide +kernel
theorem dL_law_959 : decode cL_law 959 = .ok (.invokevirtual 110, 3) := by decide +kernel
theorem dL_law_962 : decode cL_law 962 = .ok (.aload_n 2, 1) := by decide +kernel
theorem dL_law_963 : decode cL_law 963 = .ok (.aload_n 0, 1) := by decide +kernel
theorem dL_law_964 : decode cL_law 964 = .ok (.iload_n 3, 1) := by decide +kernel
theorem dL_law_965 : decode cL_law 965 = .ok (.iconst 1, 1) := by decide +kernel
theorem dL_law_966 : decode cL_law 966 = .ok (.iadd, 1) := by decide +kernel
theorem dL_law_967 : decode cL_law 967 = .ok (.iaload, 1) := by decide +kernel
theorem dL_law_968 : decode cL_law 968 = .ok (.invokevirtual 113, 3) := by decide +kernel
theorem dL_law_971 : decode cL_law 971 = .ok (.if_icmp .eq 5, 3) := by decide +kernel
theorem dL_law_974 : decode cL_law 974 = .ok (.iconst 0, 1) := by decide +kernel
theorem dL_law_975 : decode cL_law 975 = .ok (.ireturn, 1) := by decide +kernel
theorem dL_law_976 : decode cL_law 976 = .ok (.iinc 3 5, 3) := by decide +kernel
theorem dL_law_979 : decode cL_law 979 = .ok (.goto (-961), 3) := by decide +kernel
theorem dL_law_982 : decode cL_law 982 = .ok (.iconst 1, 1) := by decide +kernel
theorem dL_law_983 : decode cL_law 983 = .ok (.ireturn, 1) := by decide +kernel
