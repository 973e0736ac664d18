theorem dX0_init_0 : decode cX0_init 0 = .ok (.aload_n 0, 1) := by decide +kernel
theorem dX0_init_1 : decode cX0_init 1 = .ok (.invokespecial 5, 3) := by decide +kernel
theorem dX0_init_4 : decode cX0_init 4 = .ok (.aload_n 0, 1) := by decide +kernel
theorem dX0_init_5 : decode cX0_init 5 = .ok (.sipush 168, 3) := by decide +kernel
theorem dX0_init_8 : decode cX0_init 8 = .ok (.newarray .int, 2) := by decide +kernel
theorem dX0_init_10 : decode cX0_init 10 = .ok (.putfield 11, 3) := by decide +kernel
theorem dX0_init_13 : decode cX0_init 13 = .ok (.aload_n 0, 1) := by decide +kernel
theorem dX0_init_14 : decode cX0_init 14 = .ok (.bipush 8, 2) := by decide +kernel
theorem dX0_init_16 : decode cX0_init 16 = .ok (.newarray .int, 2) := by decide +kernel
theorem dX0_init_18 : decode cX0_init 18 = .ok (.putfield 15, 3) := by decide +kernel
theorem dX0_init_21 : decode cX0_init 21 = .ok (.aload_n 0, 1) := by decide +kernel
theorem dX0_init_22 : decode cX0_init 22 = .ok (.new 18, 3) := by decide +kernel
theorem dX0_init_25 : decode cX0_init 25 = .ok (.dup, 1) := by decide +kernel
theorem dX0_init_26 : decode cX0_init 26 = .ok (.invokespecial 20, 3) := by decide +kernel
theorem dX0_init_29 : decode cX0_init 29 = .ok (.putfield 21, 3) := by decide +kernel
theorem dX0_init_32 : decode cX0_init 32 = .ok (.return_, 1) := by decide +kernel
theorem dX0_aimAt_0 : decode cX0_aimAt 0 = .ok (.aload_n 0, 1) := by decide +kernel
theorem dX0_aimAt_1 : decode cX0_aimAt 1 = .ok (.invokevirtual 25, 3) := by decide +kernel
theorem dX0_aimAt_4 : decode cX0_aimAt 4 = .ok (.aload_n 0, 1) := by decide +kernel
theorem dX0_aimAt_5 : decode cX0_aimAt 5 = .ok (.iload_n 2, 1) := by decide +kernel
theorem dX0_aimAt_6 : decode cX0_aimAt 6 = .ok (.aload_n 1, 1) := by decide +kernel
theorem dX0_aimAt_7 : decode cX0_aimAt 7 = .ok (.getfield 28, 3) := by decide +kernel
theorem dX0_aimAt_10 : decode cX0_aimAt 10 = .ok (.getfield 34, 3) := by decide +kernel
theorem dX0_aimAt_13 : decode cX0_aimAt 13 = .ok (.iconst 0, 1) := by decide +kernel
theorem dX0_aimAt_14 : decode cX0_aimAt 14 = .ok (.invokevirtual 40, 3) := by decide +kernel
theorem dX0_aimAt_17 : decode cX0_aimAt 17 = .ok (.iconst 0, 1) := by decide +kernel
theorem dX0_aimAt_18 : decode cX0_aimAt 18 = .ok (.istore_n 3, 1) := by decide +kernel
theorem dX0_aimAt_19 : decode cX0_aimAt 19 = .ok (.iconst 0, 1) := by decide +kernel
theorem dX0_aimAt_20 : decode cX0_aimAt 20 = .ok (.istore 4, 2) := by decide +kernel
theorem dX0_aimAt_22 : decode cX0_aimAt 22 = .ok (.iload 4, 2) := by decide +kernel
theorem dX0_aimAt_24 : decode cX0_aimAt 24 = .ok (.sipush 1512, 3) := by decide +kernel
theorem dX0_aimAt_27 : decode cX0_aimAt 27 = .ok (.if_icmp .ge 75, 3) := by decide +kernel
theorem dX0_aimAt_30 : decode cX0_aimAt 30 = .ok (.iload_n 3, 1) := by decide +kernel
theorem dX0_aimAt_31 : decode cX0_aimAt 31 = .ok (.bipush 10, 2) := by decide +kernel
theorem dX0_aimAt_33 : decode cX0_aimAt 33 = .ok (.if_icmp .ge 69, 3) := by decide +kernel
theorem dX0_aimAt_36 : decode cX0_aimAt 36 = .ok (.iinc 3 1, 3) := by decide +kernel
theorem dX0_aimAt_39 : decode cX0_aimAt 39 = .ok (.iconst 0, 1) := by decide +kernel
theorem dX0_aimAt_40 : decode cX0_aimAt 40 = .ok (.istore 5, 2) := by decide +kernel
theorem dX0_aimAt_42 : decode cX0_aimAt 42 = .ok (.iload 5, 2) := by decide +kernel
theorem dX0_aimAt_44 : decode cX0_aimAt 44 = .ok (.aload_n 1, 1) := by decide +kernel
theorem dX0_aimAt_45 : decode cX0_aimAt 45 = .ok (.getfield 44, 3) := by decide +kernel
theorem dX0_aimAt_48 : decode cX0_aimAt 48 = .ok (.if_icmp .ge 48, 3) := by decide +kernel
theorem dX0_aimAt_51 : decode cX0_aimAt 51 = .ok (.aload_n 0, 1) := by decide +kernel
theorem dX0_aimAt_52 : decode cX0_aimAt 52 = .ok (.getfield 21, 3) := by decide +kernel
theorem dX0_aimAt_55 : decode cX0_aimAt 55 = .ok (.iload 4, 2) := by decide +kernel
theorem dX0_aimAt_57 : decode cX0_aimAt 57 = .ok (.iload 5, 2) := by decide +kernel
theorem dX0_aimAt_59 : decode cX0_aimAt 59 = .ok (.invokevirtual 47, 3) := by decide +kernel
theorem dX0_aimAt_62 : decode cX0_aimAt 62 = .ok (.aload_n 0, 1) := by decide +kernel
theorem dX0_aimAt_63 : decode cX0_aimAt 63 = .ok (.getfield 15, 3) := by decide +kernel
theorem dX0_aimAt_66 : decode cX0_aimAt 66 = .ok (.iload 5, 2) := by decide +kernel
theorem dX0_aimAt_68 : decode cX0_aimAt 68 = .ok (.iaload, 1) := by decide +kernel
theorem dX0_aimAt_69 : decode cX0_aimAt 69 = .ok (.iconst (-1), 1) := by decide +kernel
theorem dX0_aimAt_70 : decode cX0_aimAt 70 = .ok (.ixor, 1) := by decide +kernel
theorem dX0_aimAt_71 : decode cX0_aimAt 71 = .ok (.iand, 1) := by decide +kernel
theorem dX0_aimAt_72 : decode cX0_aimAt 72 = .ok (.istore 6, 2) := by decide +kernel
theorem dX0_aimAt_74 : decode cX0_aimAt 74 = .ok (.iload 6, 2) := by decide +kernel
theorem dX0_aimAt_76 : decode cX0_aimAt 76 = .ok (.ifCond .eq 14, 3) := by decide +kernel
theorem dX0_aimAt_79 : decode cX0_aimAt 79 = .ok (.iconst 0, 1) := by decide +kernel
theorem dX0_aimAt_80 : decode cX0_aimAt 80 = .ok (.istore_n 3, 1) := by decide +kernel
theorem dX0_aimAt_81 : decode cX0_aimAt 81 = .ok (.aload_n 0, 1) := by decide +kernel
theorem dX0_aimAt_82 : decode cX0_aimAt 82 = .ok (.aload_n 1, 1) := by decide +kernel
theorem dX0_aimAt_83 : decode cX0_aimAt 83 = .ok (.iload 5, 2) := by decide +kernel
theorem dX0_aimAt_85 : decode cX0_aimAt 85 = .ok (.iload 6, 2) := by decide +kernel
theorem dX0_aimAt_87 : decode cX0_aimAt 87 = .ok (.invokevirtual 51, 3) := by decide +kernel
theorem dX0_aimAt_90 : decode cX0_aimAt 90 = .ok (.iinc 5 1, 3) := by decide +kernel
theorem dX0_aimAt_93 : decode cX0_aimAt 93 = .ok (.goto (-51), 3) := by decide +kernel
theorem dX0_aimAt_96 : decode cX0_aimAt 96 = .ok (.iinc 4 1, 3) := by decide +kernel
theorem dX0_aimAt_99 : decode cX0_aimAt 99 = .ok (.goto (-77), 3) := by decide +kernel
theorem dX0_aimAt_102 : decode cX0_aimAt 102 = .ok (.return_, 1) := by decide +kernel
theorem dX0_goingsFrom_0 : decode cX0_goingsFrom 0 = .ok (.aload_n 0, 1) := by decide +kernel
theorem dX0_goingsFrom_1 : decode cX0_goingsFrom 1 = .ok (.getfield 11, 3) := by decide +kernel
theorem dX0_goingsFrom_4 : decode cX0_goingsFrom 4 = .ok (.iload_n 1, 1) := by decide +kernel
theorem dX0_goingsFrom_5 : decode cX0_goingsFrom 5 = .ok (.bipush 21, 2) := by decide +kernel
theorem dX0_goingsFrom_7 : decode cX0_goingsFrom 7 = .ok (.imul, 1) := by decide +kernel
theorem dX0_goingsFrom_8 : decode cX0_goingsFrom 8 = .ok (.iaload, 1) := by decide +kernel
theorem dX0_goingsFrom_9 : decode cX0_goingsFrom 9 = .ok (.istore_n 2, 1) := by decide +kernel
theorem dX0_goingsFrom_10 : decode cX0_goingsFrom 10 = .ok (.iload_n 2, 1) := by decide +kernel
theorem dX0_goingsFrom_11 : decode cX0_goingsFrom 11 = .ok (.ldc 55, 2) := by decide +kernel
theorem dX0_goingsFrom_13 : decode cX0_goingsFrom 13 = .ok (.if_icmp .ne 8, 3) := by decide +kernel
theorem dX0_goingsFrom_16 : decode cX0_goingsFrom 16 = .ok (.bipush (-9), 2) := by decide +kernel
theorem dX0_goingsFrom_18 : decode cX0_goingsFrom 18 = .ok (.goto 8, 3) := by decide +kernel
theorem dX0_goingsFrom_21 : decode cX0_goingsFrom 21 = .ok (.iload_n 2, 1) := by decide +kernel
theorem dX0_goingsFrom_22 : decode cX0_goingsFrom 22 = .ok (.sipush 256, 3) := by decide +kernel
theorem dX0_goingsFrom_25 : decode cX0_goingsFrom 25 = .ok (.irem, 1) := by decide +kernel
theorem dX0_goingsFrom_26 : decode cX0_goingsFrom 26 = .ok (.ireturn, 1) := by decide +kernel
theorem dX0_goingAt_0 : decode cX0_goingAt 0 = .ok (.iload_n 3, 1) := by decide +kernel
theorem dX0_goingAt_1 : decode cX0_goingAt 1 = .ok (.aload_n 0, 1) := by decide +kernel
theorem dX0_goingAt_2 : decode cX0_goingAt 2 = .ok (.iload_n 2, 1) := by decide +kernel
theorem dX0_goingAt_3 : decode cX0_goingAt 3 = .ok (.invokevirtual 56, 3) := by decide +kernel
theorem dX0_goingAt_6 : decode cX0_goingAt 6 = .ok (.if_icmp .lt 6, 3) := by decide +kernel
theorem dX0_goingAt_9 : decode cX0_goingAt 9 = .ok (.bipush (-9), 2) := by decide +kernel
theorem dX0_goingAt_11 : decode cX0_goingAt 11 = .ok (.ireturn, 1) := by decide +kernel
theorem dX0_goingAt_12 : decode cX0_goingAt 12 = .ok (.aload_n 0, 1) := by decide +kernel
theorem dX0_goingAt_13 : decode cX0_goingAt 13 = .ok (.iload_n 2, 1) := by decide +kernel
theorem dX0_goingAt_14 : decode cX0_goingAt 14 = .ok (.putfield 60, 3) := by decide +kernel
theorem dX0_goingAt_17 : decode cX0_goingAt 17 = .ok (.aload_n 0, 1) := by decide +kernel
theorem dX0_goingAt_18 : decode cX0_goingAt 18 = .ok (.iconst 1, 1) := by decide +kernel
theorem dX0_goingAt_19 : decode cX0_goingAt 19 = .ok (.putfield 63, 3) := by decide +kernel
theorem dX0_goingAt_22 : decode cX0_goingAt 22 = .ok (.aload_n 0, 1) := by decide +kernel
theorem dX0_goingAt_23 : decode cX0_goingAt 23 = .ok (.aload_n 0, 1) := by decide +kernel
theorem dX0_goingAt_24 : decode cX0_goingAt 24 = .ok (.getfield 11, 3) := by decide +kernel
theorem dX0_goingAt_27 : decode cX0_goingAt 27 = .ok (.iload_n 2, 1) := by decide +kernel
theorem dX0_goingAt_28 : decode cX0_goingAt 28 = .ok (.bipush 21, 2) := by decide +kernel
theorem dX0_goingAt_30 : decode cX0_goingAt 30 = .ok (.imul, 1) := by decide +kernel
theorem dX0_goingAt_31 : decode cX0_goingAt 31 = .ok (.iaload, 1) := by decide +kernel
theorem dX0_goingAt_32 : decode cX0_goingAt 32 = .ok (.putfield 66, 3) := by decide +kernel
theorem dX0_goingAt_35 : decode cX0_goingAt 35 = .ok (.bipush (-9), 2) := by decide +kernel
theorem dX0_goingAt_37 : decode cX0_goingAt 37 = .ok (.istore 4, 2) := by decide +kernel
theorem dX0_goingAt_39 : decode cX0_goingAt 39 = .ok (.iconst 0, 1) := by decide +kernel
theorem dX0_goingAt_40 : decode cX0_goingAt 40 = .ok (.istore 5, 2) := by decide +kernel
theorem dX0_goingAt_42 : decode cX0_goingAt 42 = .ok (.iload 5, 2) := by decide +kernel
theorem dX0_goingAt_44 : decode cX0_goingAt 44 = .ok (.iload_n 3, 1) := by decide +kernel
theorem dX0_goingAt_45 : decode cX0_goingAt 45 = .ok (.if_icmp .gt 16, 3) := by decide +kernel
theorem dX0_goingAt_48 : decode cX0_goingAt 48 = .ok (.aload_n 0, 1) := by decide +kernel
theorem dX0_goingAt_49 : decode cX0_goingAt 49 = .ok (.aload_n 1, 1) := by decide +kernel
theorem dX0_goingAt_50 : decode cX0_goingAt 50 = .ok (.invokevirtual 69, 3) := by decide +kernel
theorem dX0_goingAt_53 : decode cX0_goingAt 53 = .ok (.istore 4, 2) := by decide +kernel
theorem dX0_goingAt_55 : decode cX0_goingAt 55 = .ok (.iinc 5 1, 3) := by decide +kernel
theorem dX0_goingAt_58 : decode cX0_goingAt 58 = .ok (.goto (-16), 3) := by decide +kernel
theorem dX0_goingAt_61 : decode cX0_goingAt 61 = .ok (.iload 4, 2) := by decide +kernel
theorem dX0_goingAt_63 : decode cX0_goingAt 63 = .ok (.ireturn, 1) := by decide +kernel
theorem dX0_reset_0 : decode cX0_reset 0 = .ok (.aload_n 0, 1) := by decide +kernel
theorem dX0_reset_1 : decode cX0_reset 1 = .ok (.getfield 21, 3) := by decide +kernel
theorem dX0_reset_4 : decode cX0_reset 4 = .ok (.invokevirtual 73, 3) := by decide +kernel
theorem dX0_reset_7 : decode cX0_reset 7 = .ok (.iconst 0, 1) := by decide +kernel
theorem dX0_reset_8 : decode cX0_reset 8 = .ok (.istore_n 1, 1) := by decide +kernel
theorem dX0_reset_9 : decode cX0_reset 9 = .ok (.iload_n 1, 1) := by decide +kernel
theorem dX0_reset_10 : decode cX0_reset 10 = .ok (.sipush 168, 3) := by decide +kernel
theorem dX0_reset_13 : decode cX0_reset 13 = .ok (.if_icmp .ge 17, 3) := by decide +kernel
theorem dX0_reset_16 : decode cX0_reset 16 = .ok (.aload_n 0, 1) := by decide +kernel
theorem dX0_reset_17 : decode cX0_reset 17 = .ok (.getfield 11, 3) := by decide +kernel
theorem dX0_reset_20 : decode cX0_reset 20 = .ok (.iload_n 1, 1) := by decide +kernel
theorem dX0_reset_21 : decode cX0_reset 21 = .ok (.ldc 55, 2) := by decide +kernel
theorem dX0_reset_23 : decode cX0_reset 23 = .ok (.iastore, 1) := by decide +kernel
theorem dX0_reset_24 : decode cX0_reset 24 = .ok (.iinc 1 1, 3) := by decide +kernel
theorem dX0_reset_27 : decode cX0_reset 27 = .ok (.goto (-18), 3) := by decide +kernel
theorem dX0_reset_30 : decode cX0_reset 30 = .ok (.iconst 0, 1) := by decide +kernel
theorem dX0_reset_31 : decode cX0_reset 31 = .ok (.istore_n 1, 1) := by decide +kernel
theorem dX0_reset_32 : decode cX0_reset 32 = .ok (.iload_n 1, 1) := by decide +kernel
theorem dX0_reset_33 : decode cX0_reset 33 = .ok (.bipush 8, 2) := by decide +kernel
theorem dX0_reset_35 : decode cX0_reset 35 = .ok (.if_icmp .ge 16, 3) := by decide +kernel
theorem dX0_reset_38 : decode cX0_reset 38 = .ok (.aload_n 0, 1) := by decide +kernel
theorem dX0_reset_39 : decode cX0_reset 39 = .ok (.getfield 15, 3) := by decide +kernel
theorem dX0_reset_42 : decode cX0_reset 42 = .ok (.iload_n 1, 1) := by decide +kernel
theorem dX0_reset_43 : decode cX0_reset 43 = .ok (.iconst 0, 1) := by decide +kernel
theorem dX0_reset_44 : decode cX0_reset 44 = .ok (.iastore, 1) := by decide +kernel
theorem dX0_reset_45 : decode cX0_reset 45 = .ok (.iinc 1 1, 3) := by decide +kernel
theorem dX0_reset_48 : decode cX0_reset 48 = .ok (.goto (-16), 3) := by decide +kernel
theorem dX0_reset_51 : decode cX0_reset 51 = .ok (.return_, 1) := by decide +kernel
theorem dX0_offer_0 : decode cX0_offer 0 = .ok (.iconst 0, 1) := by decide +kernel
theorem dX0_offer_1 : decode cX0_offer 1 = .ok (.istore 4, 2) := by decide +kernel
theorem dX0_offer_3 : decode cX0_offer 3 = .ok (.iconst 0, 1) := by decide +kernel
theorem dX0_offer_4 : decode cX0_offer 4 = .ok (.istore 5, 2) := by decide +kernel
theorem dX0_offer_6 : decode cX0_offer 6 = .ok (.iload 5, 2) := by decide +kernel
theorem dX0_offer_8 : decode cX0_offer 8 = .ok (.bipush 21, 2) := by decide +kernel
theorem dX0_offer_10 : decode cX0_offer 10 = .ok (.if_icmp .ge 63, 3) := by decide +kernel
theorem dX0_offer_13 : decode cX0_offer 13 = .ok (.iload_n 2, 1) := by decide +kernel
theorem dX0_offer_14 : decode cX0_offer 14 = .ok (.iload 5, 2) := by decide +kernel
theorem dX0_offer_16 : decode cX0_offer 16 = .ok (.ishr, 1) := by decide +kernel
theorem dX0_offer_17 : decode cX0_offer 17 = .ok (.ifCond .eq 56, 3) := by decide +kernel
theorem dX0_offer_20 : decode cX0_offer 20 = .ok (.iload_n 2, 1) := by decide +kernel
theorem dX0_offer_21 : decode cX0_offer 21 = .ok (.iload 5, 2) := by decide +kernel
theorem dX0_offer_23 : decode cX0_offer 23 = .ok (.ishr, 1) := by decide +kernel
theorem dX0_offer_24 : decode cX0_offer 24 = .ok (.iconst 1, 1) := by decide +kernel
theorem dX0_offer_25 : decode cX0_offer 25 = .ok (.iand, 1) := by decide +kernel
theorem dX0_offer_26 : decode cX0_offer 26 = .ok (.ifCond .eq 41, 3) := by decide +kernel
theorem dX0_offer_29 : decode cX0_offer 29 = .ok (.iload_n 3, 1) := by decide +kernel
theorem dX0_offer_30 : decode cX0_offer 30 = .ok (.aload_n 0, 1) := by decide +kernel
theorem dX0_offer_31 : decode cX0_offer 31 = .ok (.getfield 11, 3) := by decide +kernel
theorem dX0_offer_34 : decode cX0_offer 34 = .ok (.iload_n 1, 1) := by decide +kernel
theorem dX0_offer_35 : decode cX0_offer 35 = .ok (.bipush 21, 2) := by decide +kernel
theorem dX0_offer_37 : decode cX0_offer 37 = .ok (.imul, 1) := by decide +kernel
theorem dX0_offer_38 : decode cX0_offer 38 = .ok (.iload 5, 2) := by decide +kernel
theorem dX0_offer_40 : decode cX0_offer 40 = .ok (.iadd, 1) := by decide +kernel
theorem dX0_offer_41 : decode cX0_offer 41 = .ok (.iaload, 1) := by decide +kernel
theorem dX0_offer_42 : decode cX0_offer 42 = .ok (.if_icmp .ge 25, 3) := by decide +kernel
theorem dX0_offer_45 : decode cX0_offer 45 = .ok (.aload_n 0, 1) := by decide +kernel
theorem dX0_offer_46 : decode cX0_offer 46 = .ok (.getfield 11, 3) := by decide +kernel
theorem dX0_offer_49 : decode cX0_offer 49 = .ok (.iload_n 1, 1) := by decide +kernel
theorem dX0_offer_50 : decode cX0_offer 50 = .ok (.bipush 21, 2) := by decide +kernel
theorem dX0_offer_52 : decode cX0_offer 52 = .ok (.imul, 1) := by decide +kernel
theorem dX0_offer_53 : decode cX0_offer 53 = .ok (.iload 5, 2) := by decide +kernel
theorem dX0_offer_55 : decode cX0_offer 55 = .ok (.iadd, 1) := by decide +kernel
theorem dX0_offer_56 : decode cX0_offer 56 = .ok (.iload_n 3, 1) := by decide +kernel
theorem dX0_offer_57 : decode cX0_offer 57 = .ok (.iastore, 1) := by decide +kernel
theorem dX0_offer_58 : decode cX0_offer 58 = .ok (.iload 4, 2) := by decide +kernel
theorem dX0_offer_60 : decode cX0_offer 60 = .ok (.iconst 1, 1) := by decide +kernel
theorem dX0_offer_61 : decode cX0_offer 61 = .ok (.iload 5, 2) := by decide +kernel
theorem dX0_offer_63 : decode cX0_offer 63 = .ok (.ishl, 1) := by decide +kernel
theorem dX0_offer_64 : decode cX0_offer 64 = .ok (.ior, 1) := by decide +kernel
theorem dX0_offer_65 : decode cX0_offer 65 = .ok (.istore 4, 2) := by decide +kernel
theorem dX0_offer_67 : decode cX0_offer 67 = .ok (.iinc 5 1, 3) := by decide +kernel
theorem dX0_offer_70 : decode cX0_offer 70 = .ok (.goto (-64), 3) := by decide +kernel
theorem dX0_offer_73 : decode cX0_offer 73 = .ok (.aload_n 0, 1) := by decide +kernel
theorem dX0_offer_74 : decode cX0_offer 74 = .ok (.getfield 21, 3) := by decide +kernel
theorem dX0_offer_77 : decode cX0_offer 77 = .ok (.iload_n 3, 1) := by decide +kernel
theorem dX0_offer_78 : decode cX0_offer 78 = .ok (.sipush 256, 3) := by decide +kernel
theorem dX0_offer_81 : decode cX0_offer 81 = .ok (.idiv, 1) := by decide +kernel
theorem dX0_offer_82 : decode cX0_offer 82 = .ok (.iload_n 1, 1) := by decide +kernel
theorem dX0_offer_83 : decode cX0_offer 83 = .ok (.iload 4, 2) := by decide +kernel
theorem dX0_offer_85 : decode cX0_offer 85 = .ok (.invokevirtual 76, 3) := by decide +kernel
theorem dX0_offer_88 : decode cX0_offer 88 = .ok (.return_, 1) := by decide +kernel
theorem dX0_settle_0 : decode cX0_settle 0 = .ok (.aload_n 0, 1) := by decide +kernel
theorem dX0_settle_1 : decode cX0_settle 1 = .ok (.getfield 15, 3) := by decide +kernel
theorem dX0_settle_4 : decode cX0_settle 4 = .ok (.iload_n 2, 1) := by decide +kernel
theorem dX0_settle_5 : decode cX0_settle 5 = .ok (.dup2, 1) := by decide +kernel
theorem dX0_settle_6 : decode cX0_settle 6 = .ok (.iaload, 1) := by decide +kernel
theorem dX0_settle_7 : decode cX0_settle 7 = .ok (.iload_n 3, 1) := by decide +kernel
theorem dX0_settle_8 : decode cX0_settle 8 = .ok (.ior, 1) := by decide +kernel
theorem dX0_settle_9 : decode cX0_settle 9 = .ok (.iastore, 1) := by decide +kernel
theorem dX0_settle_10 : decode cX0_settle 10 = .ok (.iconst 0, 1) := by decide +kernel
theorem dX0_settle_11 : decode cX0_settle 11 = .ok (.istore 4, 2) := by decide +kernel
theorem dX0_settle_13 : decode cX0_settle 13 = .ok (.iload 4, 2) := by decide +kernel
theorem dX0_settle_15 : decode cX0_settle 15 = .ok (.bipush 21, 2) := by decide +kernel
theorem dX0_settle_17 : decode cX0_settle 17 = .ok (.if_icmp .ge 33, 3) := by decide +kernel
theorem dX0_settle_20 : decode cX0_settle 20 = .ok (.iload_n 3, 1) := by decide +kernel
theorem dX0_settle_21 : decode cX0_settle 21 = .ok (.iload 4, 2) := by decide +kernel
theorem dX0_settle_23 : decode cX0_settle 23 = .ok (.ishr, 1) := by decide +kernel
theorem dX0_settle_24 : decode cX0_settle 24 = .ok (.ifCond .eq 26, 3) := by decide +kernel
theorem dX0_settle_27 : decode cX0_settle 27 = .ok (.iload_n 3, 1) := by decide +kernel
theorem dX0_settle_28 : decode cX0_settle 28 = .ok (.iload 4, 2) := by decide +kernel
theorem dX0_settle_30 : decode cX0_settle 30 = .ok (.ishr, 1) := by decide +kernel
theorem dX0_settle_31 : decode cX0_settle 31 = .ok (.iconst 1, 1) := by decide +kernel
theorem dX0_settle_32 : decode cX0_settle 32 = .ok (.iand, 1) := by decide +kernel
theorem dX0_settle_33 : decode cX0_settle 33 = .ok (.ifCond .eq 11, 3) := by decide +kernel
theorem dX0_settle_36 : decode cX0_settle 36 = .ok (.aload_n 0, 1) := by decide +kernel
theorem dX0_settle_37 : decode cX0_settle 37 = .ok (.aload_n 1, 1) := by decide +kernel
theorem dX0_settle_38 : decode cX0_settle 38 = .ok (.iload_n 2, 1) := by decide +kernel
theorem dX0_settle_39 : decode cX0_settle 39 = .ok (.iload 4, 2) := by decide +kernel
theorem dX0_settle_41 : decode cX0_settle 41 = .ok (.invokevirtual 79, 3) := by decide +kernel
theorem dX0_settle_44 : decode cX0_settle 44 = .ok (.iinc 4 1, 3) := by decide +kernel
theorem dX0_settle_47 : decode cX0_settle 47 = .ok (.goto (-34), 3) := by decide +kernel
theorem dX0_settle_50 : decode cX0_settle 50 = .ok (.return_, 1) := by decide +kernel
theorem dX0_goBack_0 : decode cX0_goBack 0 = .ok (.aload_n 1, 1) := by decide +kernel
theorem dX0_goBack_1 : decode cX0_goBack 1 = .ok (.getfield 28, 3) := by decide +kernel
theorem dX0_goBack_4 : decode cX0_goBack 4 = .ok (.getfield 82, 3) := by decide +kernel
theorem dX0_goBack_7 : decode cX0_goBack 7 = .ok (.iload_n 3, 1) := by decide +kernel
theorem dX0_goBack_8 : decode cX0_goBack 8 = .ok (.iaload, 1) := by decide +kernel
theorem dX0_goBack_9 : decode cX0_goBack 9 = .ok (.istore 4, 2) := by decide +kernel
theorem dX0_goBack_11 : decode cX0_goBack 11 = .ok (.iconst 0, 1) := by decide +kernel
theorem dX0_goBack_12 : decode cX0_goBack 12 = .ok (.istore 5, 2) := by decide +kernel
theorem dX0_goBack_14 : decode cX0_goBack 14 = .ok (.iload 5, 2) := by decide +kernel
theorem dX0_goBack_16 : decode cX0_goBack 16 = .ok (.aload_n 1, 1) := by decide +kernel
theorem dX0_goBack_17 : decode cX0_goBack 17 = .ok (.getfield 85, 3) := by decide +kernel
theorem dX0_goBack_20 : decode cX0_goBack 20 = .ok (.if_icmp .ge 114, 3) := by decide +kernel
theorem dX0_goBack_23 : decode cX0_goBack 23 = .ok (.aload_n 0, 1) := by decide +kernel
theorem dX0_goBack_24 : decode cX0_goBack 24 = .ok (.getfield 11, 3) := by decide +kernel
theorem dX0_goBack_27 : decode cX0_goBack 27 = .ok (.iload_n 2, 1) := by decide +kernel
theorem dX0_goBack_28 : decode cX0_goBack 28 = .ok (.bipush 21, 2) := by decide +kernel
theorem dX0_goBack_30 : decode cX0_goBack 30 = .ok (.imul, 1) := by decide +kernel
theorem dX0_goBack_31 : decode cX0_goBack 31 = .ok (.iload_n 3, 1) := by decide +kernel
theorem dX0_goBack_32 : decode cX0_goBack 32 = .ok (.iadd, 1) := by decide +kernel
theorem dX0_goBack_33 : decode cX0_goBack 33 = .ok (.iaload, 1) := by decide +kernel
theorem dX0_goBack_34 : decode cX0_goBack 34 = .ok (.sipush 256, 3) := by decide +kernel
theorem dX0_goBack_37 : decode cX0_goBack 37 = .ok (.aload_n 1, 1) := by decide +kernel
theorem dX0_goBack_38 : decode cX0_goBack 38 = .ok (.getfield 88, 3) := by decide +kernel
theorem dX0_goBack_41 : decode cX0_goBack 41 = .ok (.iload 5, 2) := by decide +kernel
theorem dX0_goBack_43 : decode cX0_goBack 43 = .ok (.iaload, 1) := by decide +kernel
theorem dX0_goBack_44 : decode cX0_goBack 44 = .ok (.imul, 1) := by decide +kernel
theorem dX0_goBack_45 : decode cX0_goBack 45 = .ok (.iadd, 1) := by decide +kernel
theorem dX0_goBack_46 : decode cX0_goBack 46 = .ok (.iconst 1, 1) := by decide +kernel
theorem dX0_goBack_47 : decode cX0_goBack 47 = .ok (.iadd, 1) := by decide +kernel
theorem dX0_goBack_48 : decode cX0_goBack 48 = .ok (.istore 6, 2) := by decide +kernel
theorem dX0_goBack_50 : decode cX0_goBack 50 = .ok (.aload_n 1, 1) := by decide +kernel
theorem dX0_goBack_51 : decode cX0_goBack 51 = .ok (.getfield 91, 3) := by decide +kernel
theorem dX0_goBack_54 : decode cX0_goBack 54 = .ok (.iload 5, 2) := by decide +kernel
theorem dX0_goBack_56 : decode cX0_goBack 56 = .ok (.iaload, 1) := by decide +kernel
theorem dX0_goBack_57 : decode cX0_goBack 57 = .ok (.iload_n 2, 1) := by decide +kernel
theorem dX0_goBack_58 : decode cX0_goBack 58 = .ok (.if_icmp .ne 31, 3) := by decide +kernel
theorem dX0_goBack_61 : decode cX0_goBack 61 = .ok (.aload_n 1, 1) := by decide +kernel
theorem dX0_goBack_62 : decode cX0_goBack 62 = .ok (.iconst 1, 1) := by decide +kernel
theorem dX0_goBack_63 : decode cX0_goBack 63 = .ok (.iload_n 3, 1) := by decide +kernel
theorem dX0_goBack_64 : decode cX0_goBack 64 = .ok (.ishl, 1) := by decide +kernel
theorem dX0_goBack_65 : decode cX0_goBack 65 = .ok (.iload 5, 2) := by decide +kernel
theorem dX0_goBack_67 : decode cX0_goBack 67 = .ok (.iconst 0, 1) := by decide +kernel
theorem dX0_goBack_68 : decode cX0_goBack 68 = .ok (.invokevirtual 94, 3) := by decide +kernel
theorem dX0_goBack_71 : decode cX0_goBack 71 = .ok (.ifCond .eq 18, 3) := by decide +kernel
theorem dX0_goBack_74 : decode cX0_goBack 74 = .ok (.aload_n 0, 1) := by decide +kernel
theorem dX0_goBack_75 : decode cX0_goBack 75 = .ok (.aload_n 1, 1) := by decide +kernel
theorem dX0_goBack_76 : decode cX0_goBack 76 = .ok (.getfield 98, 3) := by decide +kernel
theorem dX0_goBack_79 : decode cX0_goBack 79 = .ok (.iload 5, 2) := by decide +kernel
theorem dX0_goBack_81 : decode cX0_goBack 81 = .ok (.iaload, 1) := by decide +kernel
theorem dX0_goBack_82 : decode cX0_goBack 82 = .ok (.iload 4, 2) := by decide +kernel
theorem dX0_goBack_84 : decode cX0_goBack 84 = .ok (.iload 6, 2) := by decide +kernel
theorem dX0_goBack_86 : decode cX0_goBack 86 = .ok (.invokevirtual 40, 3) := by decide +kernel
theorem dX0_goBack_89 : decode cX0_goBack 89 = .ok (.aload_n 1, 1) := by decide +kernel
theorem dX0_goBack_90 : decode cX0_goBack 90 = .ok (.getfield 98, 3) := by decide +kernel
theorem dX0_goBack_93 : decode cX0_goBack 93 = .ok (.iload 5, 2) := by decide +kernel
theorem dX0_goBack_95 : decode cX0_goBack 95 = .ok (.iaload, 1) := by decide +kernel
theorem dX0_goBack_96 : decode cX0_goBack 96 = .ok (.iload_n 2, 1) := by decide +kernel
theorem dX0_goBack_97 : decode cX0_goBack 97 = .ok (.if_icmp .ne 31, 3) := by decide +kernel
theorem dX0_goBack_100 : decode cX0_goBack 100 = .ok (.aload_n 1, 1) := by decide +kernel
theorem dX0_goBack_101 : decode cX0_goBack 101 = .ok (.iconst 1, 1) := by decide +kernel
theorem dX0_goBack_102 : decode cX0_goBack 102 = .ok (.iload_n 3, 1) := by decide +kernel
theorem dX0_goBack_103 : decode cX0_goBack 103 = .ok (.ishl, 1) := by decide +kernel
theorem dX0_goBack_104 : decode cX0_goBack 104 = .ok (.iload 5, 2) := by decide +kernel
theorem dX0_goBack_106 : decode cX0_goBack 106 = .ok (.iconst 1, 1) := by decide +kernel
theorem dX0_goBack_107 : decode cX0_goBack 107 = .ok (.invokevirtual 94, 3) := by decide +kernel
theorem dX0_goBack_110 : decode cX0_goBack 110 = .ok (.ifCond .eq 18, 3) := by decide +kernel
theorem dX0_goBack_113 : decode cX0_goBack 113 = .ok (.aload_n 0, 1) := by decide +kernel
theorem dX0_goBack_114 : decode cX0_goBack 114 = .ok (.aload_n 1, 1) := by decide +kernel
theorem dX0_goBack_115 : decode cX0_goBack 115 = .ok (.getfield 91, 3) := by decide +kernel
theorem dX0_goBack_118 : decode cX0_goBack 118 = .ok (.iload 5, 2) := by decide +kernel
theorem dX0_goBack_120 : decode cX0_goBack 120 = .ok (.iaload, 1) := by decide +kernel
theorem dX0_goBack_121 : decode cX0_goBack 121 = .ok (.iload 4, 2) := by decide +kernel
theorem dX0_goBack_123 : decode cX0_goBack 123 = .ok (.iload 6, 2) := by decide +kernel
theorem dX0_goBack_125 : decode cX0_goBack 125 = .ok (.invokevirtual 40, 3) := by decide +kernel
theorem dX0_goBack_128 : decode cX0_goBack 128 = .ok (.iinc 5 1, 3) := by decide +kernel
theorem dX0_goBack_131 : decode cX0_goBack 131 = .ok (.goto (-117), 3) := by decide +kernel
theorem dX0_goBack_134 : decode cX0_goBack 134 = .ok (.return_, 1) := by decide +kernel
theorem dX0_advance_0 : decode cX0_advance 0 = .ok (.iconst 0, 1) := by decide +kernel
theorem dX0_advance_1 : decode cX0_advance 1 = .ok (.istore_n 2, 1) := by decide +kernel
theorem dX0_advance_2 : decode cX0_advance 2 = .ok (.iload_n 2, 1) := by decide +kernel
theorem dX0_advance_3 : decode cX0_advance 3 = .ok (.aload_n 1, 1) := by decide +kernel
theorem dX0_advance_4 : decode cX0_advance 4 = .ok (.getfield 85, 3) := by decide +kernel
theorem dX0_advance_7 : decode cX0_advance 7 = .ok (.if_icmp .ge 39, 3) := by decide +kernel
theorem dX0_advance_10 : decode cX0_advance 10 = .ok (.iconst 0, 1) := by decide +kernel
theorem dX0_advance_11 : decode cX0_advance 11 = .ok (.istore_n 3, 1) := by decide +kernel
theorem dX0_advance_12 : decode cX0_advance 12 = .ok (.iload_n 3, 1) := by decide +kernel
theorem dX0_advance_13 : decode cX0_advance 13 = .ok (.iconst 2, 1) := by decide +kernel
theorem dX0_advance_14 : decode cX0_advance 14 = .ok (.if_icmp .ge 26, 3) := by decide +kernel
theorem dX0_advance_17 : decode cX0_advance 17 = .ok (.aload_n 0, 1) := by decide +kernel
theorem dX0_advance_18 : decode cX0_advance 18 = .ok (.aload_n 1, 1) := by decide +kernel
theorem dX0_advance_19 : decode cX0_advance 19 = .ok (.iload_n 2, 1) := by decide +kernel
theorem dX0_advance_20 : decode cX0_advance 20 = .ok (.iload_n 3, 1) := by decide +kernel
theorem dX0_advance_21 : decode cX0_advance 21 = .ok (.invokevirtual 101, 3) := by decide +kernel
theorem dX0_advance_24 : decode cX0_advance 24 = .ok (.ifCond .eq 10, 3) := by decide +kernel
theorem dX0_advance_27 : decode cX0_advance 27 = .ok (.bipush 10, 2) := by decide +kernel
theorem dX0_advance_29 : decode cX0_advance 29 = .ok (.iload_n 2, 1) := by decide +kernel
theorem dX0_advance_30 : decode cX0_advance 30 = .ok (.imul, 1) := by decide +kernel
theorem dX0_advance_31 : decode cX0_advance 31 = .ok (.iload_n 3, 1) := by decide +kernel
theorem dX0_advance_32 : decode cX0_advance 32 = .ok (.iadd, 1) := by decide +kernel
theorem dX0_advance_33 : decode cX0_advance 33 = .ok (.ireturn, 1) := by decide +kernel
theorem dX0_advance_34 : decode cX0_advance 34 = .ok (.iinc 3 1, 3) := by decide +kernel
theorem dX0_advance_37 : decode cX0_advance 37 = .ok (.goto (-25), 3) := by decide +kernel
theorem dX0_advance_40 : decode cX0_advance 40 = .ok (.iinc 2 1, 3) := by decide +kernel
theorem dX0_advance_43 : decode cX0_advance 43 = .ok (.goto (-41), 3) := by decide +kernel
theorem dX0_advance_46 : decode cX0_advance 46 = .ok (.bipush (-9), 2) := by decide +kernel
theorem dX0_advance_48 : decode cX0_advance 48 = .ok (.ireturn, 1) := by decide +kernel
theorem dX0_goes_0 : decode cX0_goes 0 = .ok (.aload_n 1, 1) := by decide +kernel
theorem dX0_goes_1 : decode cX0_goes 1 = .ok (.iload_n 2, 1) := by decide +kernel
theorem dX0_goes_2 : decode cX0_goes 2 = .ok (.iload_n 3, 1) := by decide +kernel
theorem dX0_goes_3 : decode cX0_goes 3 = .ok (.invokevirtual 105, 3) := by decide +kernel
theorem dX0_goes_6 : decode cX0_goes 6 = .ok (.aload_n 0, 1) := by decide +kernel
theorem dX0_goes_7 : decode cX0_goes 7 = .ok (.getfield 60, 3) := by decide +kernel
theorem dX0_goes_10 : decode cX0_goes 10 = .ok (.if_icmp .eq 5, 3) := by decide +kernel
theorem dX0_goes_13 : decode cX0_goes 13 = .ok (.iconst 0, 1) := by decide +kernel
theorem dX0_goes_14 : decode cX0_goes 14 = .ok (.ireturn, 1) := by decide +kernel
theorem dX0_goes_15 : decode cX0_goes 15 = .ok (.aload_n 1, 1) := by decide +kernel
theorem dX0_goes_16 : decode cX0_goes 16 = .ok (.iload_n 2, 1) := by decide +kernel
theorem dX0_goes_17 : decode cX0_goes 17 = .ok (.iload_n 3, 1) := by decide +kernel
theorem dX0_goes_18 : decode cX0_goes 18 = .ok (.invokevirtual 108, 3) := by decide +kernel
theorem dX0_goes_21 : decode cX0_goes 21 = .ok (.istore 4, 2) := by decide +kernel
theorem dX0_goes_23 : decode cX0_goes 23 = .ok (.aload_n 0, 1) := by decide +kernel
theorem dX0_goes_24 : decode cX0_goes 24 = .ok (.getfield 66, 3) := by decide +kernel
theorem dX0_goes_27 : decode cX0_goes 27 = .ok (.sipush 256, 3) := by decide +kernel
theorem dX0_goes_30 : decode cX0_goes 30 = .ok (.aload_n 1, 1) := by decide +kernel
theorem dX0_goes_31 : decode cX0_goes 31 = .ok (.getfield 88, 3) := by decide +kernel
theorem dX0_goes_34 : decode cX0_goes 34 = .ok (.iload_n 2, 1) := by decide +kernel
theorem dX0_goes_35 : decode cX0_goes 35 = .ok (.iaload, 1) := by decide +kernel
theorem dX0_goes_36 : decode cX0_goes 36 = .ok (.imul, 1) := by decide +kernel
theorem dX0_goes_37 : decode cX0_goes 37 = .ok (.isub, 1) := by decide +kernel
theorem dX0_goes_38 : decode cX0_goes 38 = .ok (.iconst 1, 1) := by decide +kernel
theorem dX0_goes_39 : decode cX0_goes 39 = .ok (.isub, 1) := by decide +kernel
theorem dX0_goes_40 : decode cX0_goes 40 = .ok (.istore 5, 2) := by decide +kernel
theorem dX0_goes_42 : decode cX0_goes 42 = .ok (.aload_n 1, 1) := by decide +kernel
theorem dX0_goes_43 : decode cX0_goes 43 = .ok (.aload_n 1, 1) := by decide +kernel
theorem dX0_goes_44 : decode cX0_goes 44 = .ok (.getfield 28, 3) := by decide +kernel
theorem dX0_goes_47 : decode cX0_goes 47 = .ok (.aload_n 0, 1) := by decide +kernel
theorem dX0_goes_48 : decode cX0_goes 48 = .ok (.getfield 63, 3) := by decide +kernel
theorem dX0_goes_51 : decode cX0_goes 51 = .ok (.invokevirtual 111, 3) := by decide +kernel
theorem dX0_goes_54 : decode cX0_goes 54 = .ok (.iload_n 2, 1) := by decide +kernel
theorem dX0_goes_55 : decode cX0_goes 55 = .ok (.iload_n 3, 1) := by decide +kernel
theorem dX0_goes_56 : decode cX0_goes 56 = .ok (.invokevirtual 94, 3) := by decide +kernel
theorem dX0_goes_59 : decode cX0_goes 59 = .ok (.istore 6, 2) := by decide +kernel
theorem dX0_goes_61 : decode cX0_goes 61 = .ok (.aload_n 0, 1) := by decide +kernel
theorem dX0_goes_62 : decode cX0_goes 62 = .ok (.iload 4, 2) := by decide +kernel
theorem dX0_goes_64 : decode cX0_goes 64 = .ok (.iload 6, 2) := by decide +kernel
theorem dX0_goes_66 : decode cX0_goes 66 = .ok (.iload 5, 2) := by decide +kernel
theorem dX0_goes_68 : decode cX0_goes 68 = .ok (.invokevirtual 114, 3) := by decide +kernel
theorem dX0_goes_71 : decode cX0_goes 71 = .ok (.istore 7, 2) := by decide +kernel
theorem dX0_goes_73 : decode cX0_goes 73 = .ok (.iload 7, 2) := by decide +kernel
theorem dX0_goes_75 : decode cX0_goes 75 = .ok (.ifCond .ne 5, 3) := by decide +kernel
theorem dX0_goes_78 : decode cX0_goes 78 = .ok (.iconst 0, 1) := by decide +kernel
theorem dX0_goes_79 : decode cX0_goes 79 = .ok (.ireturn, 1) := by decide +kernel
theorem dX0_goes_80 : decode cX0_goes 80 = .ok (.aload_n 0, 1) := by decide +kernel
theorem dX0_goes_81 : decode cX0_goes 81 = .ok (.iload 4, 2) := by decide +kernel
theorem dX0_goes_83 : decode cX0_goes 83 = .ok (.putfield 60, 3) := by decide +kernel
theorem dX0_goes_86 : decode cX0_goes 86 = .ok (.aload_n 0, 1) := by decide +kernel
theorem dX0_goes_87 : decode cX0_goes 87 = .ok (.iload 7, 2) := by decide +kernel
theorem dX0_goes_89 : decode cX0_goes 89 = .ok (.putfield 63, 3) := by decide +kernel
theorem dX0_goes_92 : decode cX0_goes 92 = .ok (.aload_n 0, 1) := by decide +kernel
theorem dX0_goes_93 : decode cX0_goes 93 = .ok (.iload 5, 2) := by decide +kernel
theorem dX0_goes_95 : decode cX0_goes 95 = .ok (.putfield 66, 3) := by decide +kernel
theorem dX0_goes_98 : decode cX0_goes 98 = .ok (.iconst 1, 1) := by decide +kernel
theorem dX0_goes_99 : decode cX0_goes 99 = .ok (.ireturn, 1) := by decide +kernel
theorem dX0_leaving_0 : decode cX0_leaving 0 = .ok (.iconst 0, 1) := by decide +kernel
theorem dX0_leaving_1 : decode cX0_leaving 1 = .ok (.istore 4, 2) := by decide +kernel
theorem dX0_leaving_3 : decode cX0_leaving 3 = .ok (.iconst 0, 1) := by decide +kernel
theorem dX0_leaving_4 : decode cX0_leaving 4 = .ok (.istore 5, 2) := by decide +kernel
theorem dX0_leaving_6 : decode cX0_leaving 6 = .ok (.iload 5, 2) := by decide +kernel
theorem dX0_leaving_8 : decode cX0_leaving 8 = .ok (.bipush 21, 2) := by decide +kernel
theorem dX0_leaving_10 : decode cX0_leaving 10 = .ok (.if_icmp .ge 50, 3) := by decide +kernel
theorem dX0_leaving_13 : decode cX0_leaving 13 = .ok (.iload_n 2, 1) := by decide +kernel
theorem dX0_leaving_14 : decode cX0_leaving 14 = .ok (.iload 5, 2) := by decide +kernel
theorem dX0_leaving_16 : decode cX0_leaving 16 = .ok (.ishr, 1) := by decide +kernel
theorem dX0_leaving_17 : decode cX0_leaving 17 = .ok (.ifCond .eq 43, 3) := by decide +kernel
theorem dX0_leaving_20 : decode cX0_leaving 20 = .ok (.iload_n 2, 1) := by decide +kernel
theorem dX0_leaving_21 : decode cX0_leaving 21 = .ok (.iload 5, 2) := by decide +kernel
theorem dX0_leaving_23 : decode cX0_leaving 23 = .ok (.ishr, 1) := by decide +kernel
theorem dX0_leaving_24 : decode cX0_leaving 24 = .ok (.iconst 1, 1) := by decide +kernel
theorem dX0_leaving_25 : decode cX0_leaving 25 = .ok (.iand, 1) := by decide +kernel
theorem dX0_leaving_26 : decode cX0_leaving 26 = .ok (.ifCond .eq 28, 3) := by decide +kernel
theorem dX0_leaving_29 : decode cX0_leaving 29 = .ok (.aload_n 0, 1) := by decide +kernel
theorem dX0_leaving_30 : decode cX0_leaving 30 = .ok (.getfield 11, 3) := by decide +kernel
theorem dX0_leaving_33 : decode cX0_leaving 33 = .ok (.iload_n 1, 1) := by decide +kernel
theorem dX0_leaving_34 : decode cX0_leaving 34 = .ok (.bipush 21, 2) := by decide +kernel
theorem dX0_leaving_36 : decode cX0_leaving 36 = .ok (.imul, 1) := by decide +kernel
theorem dX0_leaving_37 : decode cX0_leaving 37 = .ok (.iload 5, 2) := by decide +kernel
theorem dX0_leaving_39 : decode cX0_leaving 39 = .ok (.iadd, 1) := by decide +kernel
theorem dX0_leaving_40 : decode cX0_leaving 40 = .ok (.iaload, 1) := by decide +kernel
theorem dX0_leaving_41 : decode cX0_leaving 41 = .ok (.iload_n 3, 1) := by decide +kernel
theorem dX0_leaving_42 : decode cX0_leaving 42 = .ok (.if_icmp .ne 12, 3) := by decide +kernel
theorem dX0_leaving_45 : decode cX0_leaving 45 = .ok (.iload 4, 2) := by decide +kernel
theorem dX0_leaving_47 : decode cX0_leaving 47 = .ok (.iconst 1, 1) := by decide +kernel
theorem dX0_leaving_48 : decode cX0_leaving 48 = .ok (.iload 5, 2) := by decide +kernel
theorem dX0_leaving_50 : decode cX0_leaving 50 = .ok (.ishl, 1) := by decide +kernel
theorem dX0_leaving_51 : decode cX0_leaving 51 = .ok (.ior, 1) := by decide +kernel
theorem dX0_leaving_52 : decode cX0_leaving 52 = .ok (.istore 4, 2) := by decide +kernel
theorem dX0_leaving_54 : decode cX0_leaving 54 = .ok (.iinc 5 1, 3) := by decide +kernel
theorem dX0_leaving_57 : decode cX0_leaving 57 = .ok (.goto (-51), 3) := by decide +kernel
theorem dX0_leaving_60 : decode cX0_leaving 60 = .ok (.iload 4, 2) := by decide +kernel
theorem dX0_leaving_62 : decode cX0_leaving 62 = .ok (.ireturn, 1) := by decide +kernel
theorem dX1_init_0 : decode cX1_init 0 = .ok (.aload_n 0, 1) := by decide +kernel
theorem dX1_init_1 : decode cX1_init 1 = .ok (.invokespecial 3, 3) := by decide +kernel
theorem dX1_init_4 : decode cX1_init 4 = .ok (.aload_n 0, 1) := by decide +kernel
theorem dX1_init_5 : decode cX1_init 5 = .ok (.bipush 14, 2) := by decide +kernel
theorem dX1_init_7 : decode cX1_init 7 = .ok (.anewarray 9, 3) := by decide +kernel
theorem dX1_init_10 : decode cX1_init 10 = .ok (.putfield 11, 3) := by decide +kernel
theorem dX1_init_13 : decode cX1_init 13 = .ok (.iconst 0, 1) := by decide +kernel
theorem dX1_init_14 : decode cX1_init 14 = .ok (.istore_n 2, 1) := by decide +kernel
theorem dX1_init_15 : decode cX1_init 15 = .ok (.iload_n 2, 1) := by decide +kernel
theorem dX1_init_16 : decode cX1_init 16 = .ok (.bipush 14, 2) := by decide +kernel
theorem dX1_init_18 : decode cX1_init 18 = .ok (.if_icmp .ge 23, 3) := by decide +kernel
theorem dX1_init_21 : decode cX1_init 21 = .ok (.aload_n 0, 1) := by decide +kernel
theorem dX1_init_22 : decode cX1_init 22 = .ok (.getfield 11, 3) := by decide +kernel
theorem dX1_init_25 : decode cX1_init 25 = .ok (.iload_n 2, 1) := by decide +kernel
theorem dX1_init_26 : decode cX1_init 26 = .ok (.new 9, 3) := by decide +kernel
theorem dX1_init_29 : decode cX1_init 29 = .ok (.dup, 1) := by decide +kernel
theorem dX1_init_30 : decode cX1_init 30 = .ok (.aload_n 1, 1) := by decide +kernel
theorem dX1_init_31 : decode cX1_init 31 = .ok (.invokespecial 17, 3) := by decide +kernel
theorem dX1_init_34 : decode cX1_init 34 = .ok (.aastore, 1) := by decide +kernel
theorem dX1_init_35 : decode cX1_init 35 = .ok (.iinc 2 1, 3) := by decide +kernel
theorem dX1_init_38 : decode cX1_init 38 = .ok (.goto (-23), 3) := by decide +kernel
theorem dX1_init_41 : decode cX1_init 41 = .ok (.return_, 1) := by decide +kernel
theorem dX1_remember_0 : decode cX1_remember 0 = .ok (.aload_n 0, 1) := by decide +kernel
theorem dX1_remember_1 : decode cX1_remember 1 = .ok (.getfield 11, 3) := by decide +kernel
theorem dX1_remember_4 : decode cX1_remember 4 = .ok (.aload_n 0, 1) := by decide +kernel
theorem dX1_remember_5 : decode cX1_remember 5 = .ok (.getfield 20, 3) := by decide +kernel
theorem dX1_remember_8 : decode cX1_remember 8 = .ok (.aaload, 1) := by decide +kernel
theorem dX1_remember_9 : decode cX1_remember 9 = .ok (.aload_n 1, 1) := by decide +kernel
theorem dX1_remember_10 : decode cX1_remember 10 = .ok (.invokevirtual 24, 3) := by decide +kernel
theorem dX1_remember_13 : decode cX1_remember 13 = .ok (.aload_n 0, 1) := by decide +kernel
theorem dX1_remember_14 : decode cX1_remember 14 = .ok (.aload_n 0, 1) := by decide +kernel
theorem dX1_remember_15 : decode cX1_remember 15 = .ok (.getfield 20, 3) := by decide +kernel
theorem dX1_remember_18 : decode cX1_remember 18 = .ok (.iconst 1, 1) := by decide +kernel
theorem dX1_remember_19 : decode cX1_remember 19 = .ok (.iadd, 1) := by decide +kernel
theorem dX1_remember_20 : decode cX1_remember 20 = .ok (.bipush 14, 2) := by decide +kernel
theorem dX1_remember_22 : decode cX1_remember 22 = .ok (.irem, 1) := by decide +kernel
theorem dX1_remember_23 : decode cX1_remember 23 = .ok (.putfield 20, 3) := by decide +kernel
theorem dX1_remember_26 : decode cX1_remember 26 = .ok (.aload_n 0, 1) := by decide +kernel
theorem dX1_remember_27 : decode cX1_remember 27 = .ok (.aload_n 0, 1) := by decide +kernel
theorem dX1_remember_28 : decode cX1_remember 28 = .ok (.getfield 28, 3) := by decide +kernel
theorem dX1_remember_31 : decode cX1_remember 31 = .ok (.iconst 1, 1) := by decide +kernel
theorem dX1_remember_32 : decode cX1_remember 32 = .ok (.iadd, 1) := by decide +kernel
theorem dX1_remember_33 : decode cX1_remember 33 = .ok (.bipush 14, 2) := by decide +kernel
theorem dX1_remember_35 : decode cX1_remember 35 = .ok (.invokestatic 31, 3) := by decide +kernel
theorem dX1_remember_38 : decode cX1_remember 38 = .ok (.putfield 28, 3) := by decide +kernel
theorem dX1_remember_41 : decode cX1_remember 41 = .ok (.return_, 1) := by decide +kernel
theorem dX1_bringBack_0 : decode cX1_bringBack 0 = .ok (.aload_n 0, 1) := by decide +kernel
theorem dX1_bringBack_1 : decode cX1_bringBack 1 = .ok (.aload_n 0, 1) := by decide +kernel
theorem dX1_bringBack_2 : decode cX1_bringBack 2 = .ok (.getfield 20, 3) := by decide +kernel
theorem dX1_bringBack_5 : decode cX1_bringBack 5 = .ok (.bipush 14, 2) := by decide +kernel
theorem dX1_bringBack_7 : decode cX1_bringBack 7 = .ok (.iadd, 1) := by decide +kernel
theorem dX1_bringBack_8 : decode cX1_bringBack 8 = .ok (.iconst 1, 1) := by decide +kernel
theorem dX1_bringBack_9 : decode cX1_bringBack 9 = .ok (.isub, 1) := by decide +kernel
theorem dX1_bringBack_10 : decode cX1_bringBack 10 = .ok (.bipush 14, 2) := by decide +kernel
theorem dX1_bringBack_12 : decode cX1_bringBack 12 = .ok (.irem, 1) := by decide +kernel
theorem dX1_bringBack_13 : decode cX1_bringBack 13 = .ok (.putfield 20, 3) := by decide +kernel
theorem dX1_bringBack_16 : decode cX1_bringBack 16 = .ok (.aload_n 0, 1) := by decide +kernel
theorem dX1_bringBack_17 : decode cX1_bringBack 17 = .ok (.dup, 1) := by decide +kernel
theorem dX1_bringBack_18 : decode cX1_bringBack 18 = .ok (.getfield 28, 3) := by decide +kernel
theorem dX1_bringBack_21 : decode cX1_bringBack 21 = .ok (.iconst 1, 1) := by decide +kernel
theorem dX1_bringBack_22 : decode cX1_bringBack 22 = .ok (.isub, 1) := by decide +kernel
theorem dX1_bringBack_23 : decode cX1_bringBack 23 = .ok (.putfield 28, 3) := by decide +kernel
theorem dX1_bringBack_26 : decode cX1_bringBack 26 = .ok (.aload_n 1, 1) := by decide +kernel
theorem dX1_bringBack_27 : decode cX1_bringBack 27 = .ok (.aload_n 0, 1) := by decide +kernel
theorem dX1_bringBack_28 : decode cX1_bringBack 28 = .ok (.getfield 11, 3) := by decide +kernel
theorem dX1_bringBack_31 : decode cX1_bringBack 31 = .ok (.aload_n 0, 1) := by decide +kernel
theorem dX1_bringBack_32 : decode cX1_bringBack 32 = .ok (.getfield 20, 3) := by decide +kernel
theorem dX1_bringBack_35 : decode cX1_bringBack 35 = .ok (.aaload, 1) := by decide +kernel
theorem dX1_bringBack_36 : decode cX1_bringBack 36 = .ok (.invokevirtual 24, 3) := by decide +kernel
theorem dX1_bringBack_39 : decode cX1_bringBack 39 = .ok (.return_, 1) := by decide +kernel
theorem dX1_forgetAll_0 : decode cX1_forgetAll 0 = .ok (.aload_n 0, 1) := by decide +kernel
theorem dX1_forgetAll_1 : decode cX1_forgetAll 1 = .ok (.iconst 0, 1) := by decide +kernel
theorem dX1_forgetAll_2 : decode cX1_forgetAll 2 = .ok (.putfield 28, 3) := by decide +kernel
theorem dX1_forgetAll_5 : decode cX1_forgetAll 5 = .ok (.return_, 1) := by decide +kernel
theorem dX2_init_0 : decode cX2_init 0 = .ok (.aload_n 0, 1) := by decide +kernel
theorem dX2_init_1 : decode cX2_init 1 = .ok (.invokespecial 3, 3) := by decide +kernel
theorem dX2_init_4 : decode cX2_init 4 = .ok (.aload_n 0, 1) := by decide +kernel
theorem dX2_init_5 : decode cX2_init 5 = .ok (.bipush 40, 2) := by decide +kernel
theorem dX2_init_7 : decode cX2_init 7 = .ok (.newarray .char, 2) := by decide +kernel
theorem dX2_init_9 : decode cX2_init 9 = .ok (.putfield 9, 3) := by decide +kernel
theorem dX2_init_12 : decode cX2_init 12 = .ok (.aload_n 0, 1) := by decide +kernel
theorem dX2_init_13 : decode cX2_init 13 = .ok (.bipush 21, 2) := by decide +kernel
theorem dX2_init_15 : decode cX2_init 15 = .ok (.newarray .int, 2) := by decide +kernel
theorem dX2_init_17 : decode cX2_init 17 = .ok (.putfield 15, 3) := by decide +kernel
theorem dX2_init_20 : decode cX2_init 20 = .ok (.aload_n 0, 1) := by decide +kernel
theorem dX2_init_21 : decode cX2_init 21 = .ok (.bipush 21, 2) := by decide +kernel
theorem dX2_init_23 : decode cX2_init 23 = .ok (.newarray .int, 2) := by decide +kernel
theorem dX2_init_25 : decode cX2_init 25 = .ok (.putfield 19, 3) := by decide +kernel
theorem dX2_init_28 : decode cX2_init 28 = .ok (.aload_n 0, 1) := by decide +kernel
theorem dX2_init_29 : decode cX2_init 29 = .ok (.bipush 8, 2) := by decide +kernel
theorem dX2_init_31 : decode cX2_init 31 = .ok (.newarray .int, 2) := by decide +kernel
theorem dX2_init_33 : decode cX2_init 33 = .ok (.putfield 22, 3) := by decide +kernel
theorem dX2_init_36 : decode cX2_init 36 = .ok (.aload_n 0, 1) := by decide +kernel
theorem dX2_init_37 : decode cX2_init 37 = .ok (.iconst 1, 1) := by decide +kernel
theorem dX2_init_38 : decode cX2_init 38 = .ok (.putfield 25, 3) := by decide +kernel
theorem dX2_init_41 : decode cX2_init 41 = .ok (.return_, 1) := by decide +kernel
theorem dX2_isLetter_0 : decode cX2_isLetter 0 = .ok (.iload_n 0, 1) := by decide +kernel
theorem dX2_isLetter_1 : decode cX2_isLetter 1 = .ok (.bipush 97, 2) := by decide +kernel
theorem dX2_isLetter_3 : decode cX2_isLetter 3 = .ok (.if_icmp .lt 9, 3) := by decide +kernel
theorem dX2_isLetter_6 : decode cX2_isLetter 6 = .ok (.iload_n 0, 1) := by decide +kernel
theorem dX2_isLetter_7 : decode cX2_isLetter 7 = .ok (.bipush 100, 2) := by decide +kernel
theorem dX2_isLetter_9 : decode cX2_isLetter 9 = .ok (.if_icmp .le 21, 3) := by decide +kernel
theorem dX2_isLetter_12 : decode cX2_isLetter 12 = .ok (.iload_n 0, 1) := by decide +kernel
theorem dX2_isLetter_13 : decode cX2_isLetter 13 = .ok (.bipush 65, 2) := by decide +kernel
theorem dX2_isLetter_15 : decode cX2_isLetter 15 = .ok (.if_icmp .lt 9, 3) := by decide +kernel
theorem dX2_isLetter_18 : decode cX2_isLetter 18 = .ok (.iload_n 0, 1) := by decide +kernel
theorem dX2_isLetter_19 : decode cX2_isLetter 19 = .ok (.bipush 68, 2) := by decide +kernel
theorem dX2_isLetter_21 : decode cX2_isLetter 21 = .ok (.if_icmp .le 9, 3) := by decide +kernel
theorem dX2_isLetter_24 : decode cX2_isLetter 24 = .ok (.iload_n 0, 1) := by decide +kernel
theorem dX2_isLetter_25 : decode cX2_isLetter 25 = .ok (.bipush 46, 2) := by decide +kernel
theorem dX2_isLetter_27 : decode cX2_isLetter 27 = .ok (.if_icmp .ne 7, 3) := by decide +kernel
theorem dX2_isLetter_30 : decode cX2_isLetter 30 = .ok (.iconst 1, 1) := by decide +kernel
theorem dX2_isLetter_31 : decode cX2_isLetter 31 = .ok (.goto 4, 3) := by decide +kernel
theorem dX2_isLetter_34 : decode cX2_isLetter 34 = .ok (.iconst 0, 1) := by decide +kernel
theorem dX2_isLetter_35 : decode cX2_isLetter 35 = .ok (.ireturn, 1) := by decide +kernel
theorem dX2_isEnding_0 : decode cX2_isEnding 0 = .ok (.iload_n 0, 1) := by decide +kernel
theorem dX2_isEnding_1 : decode cX2_isEnding 1 = .ok (.bipush 42, 2) := by decide +kernel
theorem dX2_isEnding_3 : decode cX2_isEnding 3 = .ok (.if_icmp .eq 15, 3) := by decide +kernel
theorem dX2_isEnding_6 : decode cX2_isEnding 6 = .ok (.iload_n 0, 1) := by decide +kernel
theorem dX2_isEnding_7 : decode cX2_isEnding 7 = .ok (.bipush 43, 2) := by decide +kernel
theorem dX2_isEnding_9 : decode cX2_isEnding 9 = .ok (.if_icmp .eq 9, 3) := by decide +kernel
theorem dX2_isEnding_12 : decode cX2_isEnding 12 = .ok (.iload_n 0, 1) := by decide +kernel
theorem dX2_isEnding_13 : decode cX2_isEnding 13 = .ok (.bipush 63, 2) := by decide +kernel
theorem dX2_isEnding_15 : decode cX2_isEnding 15 = .ok (.if_icmp .ne 7, 3) := by decide +kernel
theorem dX2_isEnding_18 : decode cX2_isEnding 18 = .ok (.iconst 1, 1) := by decide +kernel
theorem dX2_isEnding_19 : decode cX2_isEnding 19 = .ok (.goto 4, 3) := by decide +kernel
theorem dX2_isEnding_22 : decode cX2_isEnding 22 = .ok (.iconst 0, 1) := by decide +kernel
theorem dX2_isEnding_23 : decode cX2_isEnding 23 = .ok (.ireturn, 1) := by decide +kernel
theorem dX2_accepts_0 : decode cX2_accepts 0 = .ok (.iload_n 1, 1) := by decide +kernel
theorem dX2_accepts_1 : decode cX2_accepts 1 = .ok (.aload_n 0, 1) := by decide +kernel
theorem dX2_accepts_2 : decode cX2_accepts 2 = .ok (.getfield 25, 3) := by decide +kernel
theorem dX2_accepts_5 : decode cX2_accepts 5 = .ok (.iand, 1) := by decide +kernel
theorem dX2_accepts_6 : decode cX2_accepts 6 = .ok (.ifCond .eq 7, 3) := by decide +kernel
theorem dX2_accepts_9 : decode cX2_accepts 9 = .ok (.iconst 1, 1) := by decide +kernel
theorem dX2_accepts_10 : decode cX2_accepts 10 = .ok (.goto 4, 3) := by decide +kernel
theorem dX2_accepts_13 : decode cX2_accepts 13 = .ok (.iconst 0, 1) := by decide +kernel
theorem dX2_accepts_14 : decode cX2_accepts 14 = .ok (.ireturn, 1) := by decide +kernel
theorem dX2_following_0 : decode cX2_following 0 = .ok (.iconst 0, 1) := by decide +kernel
theorem dX2_following_1 : decode cX2_following 1 = .ok (.istore_n 2, 1) := by decide +kernel
theorem dX2_following_2 : decode cX2_following 2 = .ok (.iconst 0, 1) := by decide +kernel
theorem dX2_following_3 : decode cX2_following 3 = .ok (.istore_n 3, 1) := by decide +kernel
theorem dX2_following_4 : decode cX2_following 4 = .ok (.iload_n 3, 1) := by decide +kernel
theorem dX2_following_5 : decode cX2_following 5 = .ok (.bipush 21, 2) := by decide +kernel
theorem dX2_following_7 : decode cX2_following 7 = .ok (.if_icmp .ge 32, 3) := by decide +kernel
theorem dX2_following_10 : decode cX2_following 10 = .ok (.iload_n 1, 1) := by decide +kernel
theorem dX2_following_11 : decode cX2_following 11 = .ok (.iload_n 3, 1) := by decide +kernel
theorem dX2_following_12 : decode cX2_following 12 = .ok (.ishr, 1) := by decide +kernel
theorem dX2_following_13 : decode cX2_following 13 = .ok (.ifCond .eq 26, 3) := by decide +kernel
theorem dX2_following_16 : decode cX2_following 16 = .ok (.iload_n 1, 1) := by decide +kernel
theorem dX2_following_17 : decode cX2_following 17 = .ok (.iload_n 3, 1) := by decide +kernel
theorem dX2_following_18 : decode cX2_following 18 = .ok (.ishr, 1) := by decide +kernel
theorem dX2_following_19 : decode cX2_following 19 = .ok (.iconst 1, 1) := by decide +kernel
theorem dX2_following_20 : decode cX2_following 20 = .ok (.iand, 1) := by decide +kernel
theorem dX2_following_21 : decode cX2_following 21 = .ok (.ifCond .eq 12, 3) := by decide +kernel
theorem dX2_following_24 : decode cX2_following 24 = .ok (.iload_n 2, 1) := by decide +kernel
theorem dX2_following_25 : decode cX2_following 25 = .ok (.aload_n 0, 1) := by decide +kernel
theorem dX2_following_26 : decode cX2_following 26 = .ok (.getfield 15, 3) := by decide +kernel
theorem dX2_following_29 : decode cX2_following 29 = .ok (.iload_n 3, 1) := by decide +kernel
theorem dX2_following_30 : decode cX2_following 30 = .ok (.iaload, 1) := by decide +kernel
theorem dX2_following_31 : decode cX2_following 31 = .ok (.ior, 1) := by decide +kernel
theorem dX2_following_32 : decode cX2_following 32 = .ok (.istore_n 2, 1) := by decide +kernel
theorem dX2_following_33 : decode cX2_following 33 = .ok (.iinc 3 1, 3) := by decide +kernel
theorem dX2_following_36 : decode cX2_following 36 = .ok (.goto (-32), 3) := by decide +kernel
theorem dX2_following_39 : decode cX2_following 39 = .ok (.iload_n 2, 1) := by decide +kernel
theorem dX2_following_40 : decode cX2_following 40 = .ok (.ireturn, 1) := by decide +kernel
theorem dX2_allow_0 : decode cX2_allow 0 = .ok (.iconst 0, 1) := by decide +kernel
theorem dX2_allow_1 : decode cX2_allow 1 = .ok (.istore_n 3, 1) := by decide +kernel
theorem dX2_allow_2 : decode cX2_allow 2 = .ok (.iload_n 3, 1) := by decide +kernel
theorem dX2_allow_3 : decode cX2_allow 3 = .ok (.bipush 21, 2) := by decide +kernel
theorem dX2_allow_5 : decode cX2_allow 5 = .ok (.if_icmp .ge 45, 3) := by decide +kernel
theorem dX2_allow_8 : decode cX2_allow 8 = .ok (.iload_n 1, 1) := by decide +kernel
theorem dX2_allow_9 : decode cX2_allow 9 = .ok (.iload_n 3, 1) := by decide +kernel
theorem dX2_allow_10 : decode cX2_allow 10 = .ok (.ishr, 1) := by decide +kernel
theorem dX2_allow_11 : decode cX2_allow 11 = .ok (.iconst 1, 1) := by decide +kernel
theorem dX2_allow_12 : decode cX2_allow 12 = .ok (.iand, 1) := by decide +kernel
theorem dX2_allow_13 : decode cX2_allow 13 = .ok (.ifCond .eq 13, 3) := by decide +kernel
theorem dX2_allow_16 : decode cX2_allow 16 = .ok (.aload_n 0, 1) := by decide +kernel
theorem dX2_allow_17 : decode cX2_allow 17 = .ok (.getfield 15, 3) := by decide +kernel
theorem dX2_allow_20 : decode cX2_allow 20 = .ok (.iload_n 3, 1) := by decide +kernel
theorem dX2_allow_21 : decode cX2_allow 21 = .ok (.dup2, 1) := by decide +kernel
theorem dX2_allow_22 : decode cX2_allow 22 = .ok (.iaload, 1) := by decide +kernel
theorem dX2_allow_23 : decode cX2_allow 23 = .ok (.iload_n 2, 1) := by decide +kernel
theorem dX2_allow_24 : decode cX2_allow 24 = .ok (.ior, 1) := by decide +kernel
theorem dX2_allow_25 : decode cX2_allow 25 = .ok (.iastore, 1) := by decide +kernel
theorem dX2_allow_26 : decode cX2_allow 26 = .ok (.iload_n 2, 1) := by decide +kernel
theorem dX2_allow_27 : decode cX2_allow 27 = .ok (.iload_n 3, 1) := by decide +kernel
theorem dX2_allow_28 : decode cX2_allow 28 = .ok (.ishr, 1) := by decide +kernel
theorem dX2_allow_29 : decode cX2_allow 29 = .ok (.iconst 1, 1) := by decide +kernel
theorem dX2_allow_30 : decode cX2_allow 30 = .ok (.iand, 1) := by decide +kernel
theorem dX2_allow_31 : decode cX2_allow 31 = .ok (.ifCond .eq 13, 3) := by decide +kernel
theorem dX2_allow_34 : decode cX2_allow 34 = .ok (.aload_n 0, 1) := by decide +kernel
theorem dX2_allow_35 : decode cX2_allow 35 = .ok (.getfield 19, 3) := by decide +kernel
theorem dX2_allow_38 : decode cX2_allow 38 = .ok (.iload_n 3, 1) := by decide +kernel
theorem dX2_allow_39 : decode cX2_allow 39 = .ok (.dup2, 1) := by decide +kernel
theorem dX2_allow_40 : decode cX2_allow 40 = .ok (.iaload, 1) := by decide +kernel
theorem dX2_allow_41 : decode cX2_allow 41 = .ok (.iload_n 1, 1) := by decide +kernel
theorem dX2_allow_42 : decode cX2_allow 42 = .ok (.ior, 1) := by decide +kernel
theorem dX2_allow_43 : decode cX2_allow 43 = .ok (.iastore, 1) := by decide +kernel
theorem dX2_allow_44 : decode cX2_allow 44 = .ok (.iinc 3 1, 3) := by decide +kernel
theorem dX2_allow_47 : decode cX2_allow 47 = .ok (.goto (-45), 3) := by decide +kernel
theorem dX2_allow_50 : decode cX2_allow 50 = .ok (.return_, 1) := by decide +kernel
theorem dX2_place_0 : decode cX2_place 0 = .ok (.aload_n 0, 1) := by decide +kernel
theorem dX2_place_1 : decode cX2_place 1 = .ok (.dup, 1) := by decide +kernel
theorem dX2_place_2 : decode cX2_place 2 = .ok (.getfield 29, 3) := by decide +kernel
theorem dX2_place_5 : decode cX2_place 5 = .ok (.iconst 1, 1) := by decide +kernel
theorem dX2_place_6 : decode cX2_place 6 = .ok (.iadd, 1) := by decide +kernel
theorem dX2_place_7 : decode cX2_place 7 = .ok (.putfield 29, 3) := by decide +kernel
theorem dX2_place_10 : decode cX2_place 10 = .ok (.iconst 1, 1) := by decide +kernel
theorem dX2_place_11 : decode cX2_place 11 = .ok (.aload_n 0, 1) := by decide +kernel
theorem dX2_place_12 : decode cX2_place 12 = .ok (.getfield 29, 3) := by decide +kernel
theorem dX2_place_15 : decode cX2_place 15 = .ok (.ishl, 1) := by decide +kernel
theorem dX2_place_16 : decode cX2_place 16 = .ok (.istore_n 2, 1) := by decide +kernel
theorem dX2_place_17 : decode cX2_place 17 = .ok (.iconst 0, 1) := by decide +kernel
theorem dX2_place_18 : decode cX2_place 18 = .ok (.istore_n 3, 1) := by decide +kernel
theorem dX2_place_19 : decode cX2_place 19 = .ok (.iload_n 3, 1) := by decide +kernel
theorem dX2_place_20 : decode cX2_place 20 = .ok (.iconst 4, 1) := by decide +kernel
theorem dX2_place_21 : decode cX2_place 21 = .ok (.if_icmp .ge 53, 3) := by decide +kernel
theorem dX2_place_24 : decode cX2_place 24 = .ok (.iload_n 1, 1) := by decide +kernel
theorem dX2_place_25 : decode cX2_place 25 = .ok (.bipush 46, 2) := by decide +kernel
theorem dX2_place_27 : decode cX2_place 27 = .ok (.if_icmp .eq 11, 3) := by decide +kernel
theorem dX2_place_30 : decode cX2_place 30 = .ok (.iload_n 1, 1) := by decide +kernel
theorem dX2_place_31 : decode cX2_place 31 = .ok (.bipush 97, 2) := by decide +kernel
theorem dX2_place_33 : decode cX2_place 33 = .ok (.iload_n 3, 1) := by decide +kernel
theorem dX2_place_34 : decode cX2_place 34 = .ok (.iadd, 1) := by decide +kernel
theorem dX2_place_35 : decode cX2_place 35 = .ok (.if_icmp .ne 13, 3) := by decide +kernel
theorem dX2_place_38 : decode cX2_place 38 = .ok (.aload_n 0, 1) := by decide +kernel
theorem dX2_place_39 : decode cX2_place 39 = .ok (.getfield 22, 3) := by decide +kernel
theorem dX2_place_42 : decode cX2_place 42 = .ok (.iload_n 3, 1) := by decide +kernel
theorem dX2_place_43 : decode cX2_place 43 = .ok (.dup2, 1) := by decide +kernel
theorem dX2_place_44 : decode cX2_place 44 = .ok (.iaload, 1) := by decide +kernel
theorem dX2_place_45 : decode cX2_place 45 = .ok (.iload_n 2, 1) := by decide +kernel
theorem dX2_place_46 : decode cX2_place 46 = .ok (.ior, 1) := by decide +kernel
theorem dX2_place_47 : decode cX2_place 47 = .ok (.iastore, 1) := by decide +kernel
theorem dX2_place_48 : decode cX2_place 48 = .ok (.iload_n 1, 1) := by decide +kernel
theorem dX2_place_49 : decode cX2_place 49 = .ok (.bipush 65, 2) := by decide +kernel
theorem dX2_place_51 : decode cX2_place 51 = .ok (.iload_n 3, 1) := by decide +kernel
theorem dX2_place_52 : decode cX2_place 52 = .ok (.iadd, 1) := by decide +kernel
theorem dX2_place_53 : decode cX2_place 53 = .ok (.if_icmp .ne 15, 3) := by decide +kernel
theorem dX2_place_56 : decode cX2_place 56 = .ok (.aload_n 0, 1) := by decide +kernel
theorem dX2_place_57 : decode cX2_place 57 = .ok (.getfield 22, 3) := by decide +kernel
theorem dX2_place_60 : decode cX2_place 60 = .ok (.iconst 4, 1) := by decide +kernel
theorem dX2_place_61 : decode cX2_place 61 = .ok (.iload_n 3, 1) := by decide +kernel
theorem dX2_place_62 : decode cX2_place 62 = .ok (.iadd, 1) := by decide +kernel
theorem dX2_place_63 : decode cX2_place 63 = .ok (.dup2, 1) := by decide +kernel
theorem dX2_place_64 : decode cX2_place 64 = .ok (.iaload, 1) := by decide +kernel
theorem dX2_place_65 : decode cX2_place 65 = .ok (.iload_n 2, 1) := by decide +kernel
theorem dX2_place_66 : decode cX2_place 66 = .ok (.ior, 1) := by decide +kernel
theorem dX2_place_67 : decode cX2_place 67 = .ok (.iastore, 1) := by decide +kernel
theorem dX2_place_68 : decode cX2_place 68 = .ok (.iinc 3 1, 3) := by decide +kernel
theorem dX2_place_71 : decode cX2_place 71 = .ok (.goto (-52), 3) := by decide +kernel
theorem dX2_place_74 : decode cX2_place 74 = .ok (.iload_n 2, 1) := by decide +kernel
theorem dX2_place_75 : decode cX2_place 75 = .ok (.ireturn, 1) := by decide +kernel
theorem dX3_init_0 : decode cX3_init 0 = .ok (.aload_n 0, 1) := by decide +kernel
theorem dX3_init_1 : decode cX3_init 1 = .ok (.invokespecial 3, 3) := by decide +kernel
theorem dX3_init_4 : decode cX3_init 4 = .ok (.aload_n 0, 1) := by decide +kernel
theorem dX3_init_5 : decode cX3_init 5 = .ok (.bipush 10, 2) := by decide +kernel
theorem dX3_init_7 : decode cX3_init 7 = .ok (.anewarray 9, 3) := by decide +kernel
theorem dX3_init_10 : decode cX3_init 10 = .ok (.putfield 11, 3) := by decide +kernel
theorem dX3_init_13 : decode cX3_init 13 = .ok (.aload_n 0, 1) := by decide +kernel
theorem dX3_init_14 : decode cX3_init 14 = .ok (.bipush 10, 2) := by decide +kernel
theorem dX3_init_16 : decode cX3_init 16 = .ok (.anewarray 9, 3) := by decide +kernel
theorem dX3_init_19 : decode cX3_init 19 = .ok (.putfield 17, 3) := by decide +kernel
theorem dX3_init_22 : decode cX3_init 22 = .ok (.aload_n 0, 1) := by decide +kernel
theorem dX3_init_23 : decode cX3_init 23 = .ok (.new 9, 3) := by decide +kernel
theorem dX3_init_26 : decode cX3_init 26 = .ok (.dup, 1) := by decide +kernel
theorem dX3_init_27 : decode cX3_init 27 = .ok (.invokespecial 20, 3) := by decide +kernel
theorem dX3_init_30 : decode cX3_init 30 = .ok (.putfield 21, 3) := by decide +kernel
theorem dX3_init_33 : decode cX3_init 33 = .ok (.aload_n 0, 1) := by decide +kernel
theorem dX3_init_34 : decode cX3_init 34 = .ok (.new 25, 3) := by decide +kernel
theorem dX3_init_37 : decode cX3_init 37 = .ok (.dup, 1) := by decide +kernel
theorem dX3_init_38 : decode cX3_init 38 = .ok (.invokespecial 27, 3) := by decide +kernel
theorem dX3_init_41 : decode cX3_init 41 = .ok (.putfield 28, 3) := by decide +kernel
theorem dX3_init_44 : decode cX3_init 44 = .ok (.iconst 0, 1) := by decide +kernel
theorem dX3_init_45 : decode cX3_init 45 = .ok (.istore_n 1, 1) := by decide +kernel
theorem dX3_init_46 : decode cX3_init 46 = .ok (.iload_n 1, 1) := by decide +kernel
theorem dX3_init_47 : decode cX3_init 47 = .ok (.bipush 9, 2) := by decide +kernel
theorem dX3_init_49 : decode cX3_init 49 = .ok (.if_icmp .gt 35, 3) := by decide +kernel
theorem dX3_init_52 : decode cX3_init 52 = .ok (.aload_n 0, 1) := by decide +kernel
theorem dX3_init_53 : decode cX3_init 53 = .ok (.getfield 11, 3) := by decide +kernel
theorem dX3_init_56 : decode cX3_init 56 = .ok (.iload_n 1, 1) := by decide +kernel
theorem dX3_init_57 : decode cX3_init 57 = .ok (.new 9, 3) := by decide +kernel
theorem dX3_init_60 : decode cX3_init 60 = .ok (.dup, 1) := by decide +kernel
theorem dX3_init_61 : decode cX3_init 61 = .ok (.invokespecial 20, 3) := by decide +kernel
theorem dX3_init_64 : decode cX3_init 64 = .ok (.aastore, 1) := by decide +kernel
theorem dX3_init_65 : decode cX3_init 65 = .ok (.aload_n 0, 1) := by decide +kernel
theorem dX3_init_66 : decode cX3_init 66 = .ok (.getfield 17, 3) := by decide +kernel
theorem dX3_init_69 : decode cX3_init 69 = .ok (.iload_n 1, 1) := by decide +kernel
theorem dX3_init_70 : decode cX3_init 70 = .ok (.new 9, 3) := by decide +kernel
theorem dX3_init_73 : decode cX3_init 73 = .ok (.dup, 1) := by decide +kernel
theorem dX3_init_74 : decode cX3_init 74 = .ok (.invokespecial 20, 3) := by decide +kernel
theorem dX3_init_77 : decode cX3_init 77 = .ok (.aastore, 1) := by decide +kernel
theorem dX3_init_78 : decode cX3_init 78 = .ok (.iinc 1 1, 3) := by decide +kernel
theorem dX3_init_81 : decode cX3_init 81 = .ok (.goto (-35), 3) := by decide +kernel
theorem dX3_init_84 : decode cX3_init 84 = .ok (.return_, 1) := by decide +kernel
theorem dX3_read_0 : decode cX3_read 0 = .ok (.aload_n 0, 1) := by decide +kernel
theorem dX3_read_1 : decode cX3_read 1 = .ok (.new 25, 3) := by decide +kernel
theorem dX3_read_4 : decode cX3_read 4 = .ok (.dup, 1) := by decide +kernel
theorem dX3_read_5 : decode cX3_read 5 = .ok (.invokespecial 27, 3) := by decide +kernel
theorem dX3_read_8 : decode cX3_read 8 = .ok (.putfield 28, 3) := by decide +kernel
theorem dX3_read_11 : decode cX3_read 11 = .ok (.aload_n 0, 1) := by decide +kernel
theorem dX3_read_12 : decode cX3_read 12 = .ok (.iconst 0, 1) := by decide +kernel
theorem dX3_read_13 : decode cX3_read 13 = .ok (.putfield 32, 3) := by decide +kernel
theorem dX3_read_16 : decode cX3_read 16 = .ok (.aload_n 0, 1) := by decide +kernel
theorem dX3_read_17 : decode cX3_read 17 = .ok (.invokevirtual 36, 3) := by decide +kernel
theorem dX3_read_20 : decode cX3_read 20 = .ok (.iconst 0, 1) := by decide +kernel
theorem dX3_read_21 : decode cX3_read 21 = .ok (.istore_n 2, 1) := by decide +kernel
theorem dX3_read_22 : decode cX3_read 22 = .ok (.iload_n 2, 1) := by decide +kernel
theorem dX3_read_23 : decode cX3_read 23 = .ok (.aload_n 1, 1) := by decide +kernel
theorem dX3_read_24 : decode cX3_read 24 = .ok (.getfield 39, 3) := by decide +kernel
theorem dX3_read_27 : decode cX3_read 27 = .ok (.if_icmp .ge 76, 3) := by decide +kernel
theorem dX3_read_30 : decode cX3_read 30 = .ok (.iload_n 2, 1) := by decide +kernel
theorem dX3_read_31 : decode cX3_read 31 = .ok (.bipush 40, 2) := by decide +kernel
theorem dX3_read_33 : decode cX3_read 33 = .ok (.if_icmp .ge 70, 3) := by decide +kernel
theorem dX3_read_36 : decode cX3_read 36 = .ok (.aload_n 0, 1) := by decide +kernel
theorem dX3_read_37 : decode cX3_read 37 = .ok (.getfield 28, 3) := by decide +kernel
theorem dX3_read_40 : decode cX3_read 40 = .ok (.getfield 44, 3) := by decide +kernel
theorem dX3_read_43 : decode cX3_read 43 = .ok (.iload_n 2, 1) := by decide +kernel
theorem dX3_read_44 : decode cX3_read 44 = .ok (.aload_n 1, 1) := by decide +kernel
theorem dX3_read_45 : decode cX3_read 45 = .ok (.getfield 48, 3) := by decide +kernel
theorem dX3_read_48 : decode cX3_read 48 = .ok (.iload_n 2, 1) := by decide +kernel
theorem dX3_read_49 : decode cX3_read 49 = .ok (.caload, 1) := by decide +kernel
theorem dX3_read_50 : decode cX3_read 50 = .ok (.castore, 1) := by decide +kernel
theorem dX3_read_51 : decode cX3_read 51 = .ok (.aload_n 0, 1) := by decide +kernel
theorem dX3_read_52 : decode cX3_read 52 = .ok (.getfield 28, 3) := by decide +kernel
theorem dX3_read_55 : decode cX3_read 55 = .ok (.dup, 1) := by decide +kernel
theorem dX3_read_56 : decode cX3_read 56 = .ok (.getfield 49, 3) := by decide +kernel
theorem dX3_read_59 : decode cX3_read 59 = .ok (.iconst 1, 1) := by decide +kernel
theorem dX3_read_60 : decode cX3_read 60 = .ok (.iadd, 1) := by decide +kernel
theorem dX3_read_61 : decode cX3_read 61 = .ok (.putfield 49, 3) := by decide +kernel
theorem dX3_read_64 : decode cX3_read 64 = .ok (.aload_n 0, 1) := by decide +kernel
theorem dX3_read_65 : decode cX3_read 65 = .ok (.aload_n 1, 1) := by decide +kernel
theorem dX3_read_66 : decode cX3_read 66 = .ok (.getfield 48, 3) := by decide +kernel
theorem dX3_read_69 : decode cX3_read 69 = .ok (.iload_n 2, 1) := by decide +kernel
theorem dX3_read_70 : decode cX3_read 70 = .ok (.caload, 1) := by decide +kernel
theorem dX3_read_71 : decode cX3_read 71 = .ok (.iload_n 2, 1) := by decide +kernel
theorem dX3_read_72 : decode cX3_read 72 = .ok (.iconst 1, 1) := by decide +kernel
theorem dX3_read_73 : decode cX3_read 73 = .ok (.iadd, 1) := by decide +kernel
theorem dX3_read_74 : decode cX3_read 74 = .ok (.aload_n 1, 1) := by decide +kernel
theorem dX3_read_75 : decode cX3_read 75 = .ok (.getfield 39, 3) := by decide +kernel
theorem dX3_read_78 : decode cX3_read 78 = .ok (.if_icmp .ge 14, 3) := by decide +kernel
theorem dX3_read_81 : decode cX3_read 81 = .ok (.aload_n 1, 1) := by decide +kernel
theorem dX3_read_82 : decode cX3_read 82 = .ok (.getfield 48, 3) := by decide +kernel
theorem dX3_read_85 : decode cX3_read 85 = .ok (.iload_n 2, 1) := by decide +kernel
theorem dX3_read_86 : decode cX3_read 86 = .ok (.iconst 1, 1) := by decide +kernel
theorem dX3_read_87 : decode cX3_read 87 = .ok (.iadd, 1) := by decide +kernel
theorem dX3_read_88 : decode cX3_read 88 = .ok (.caload, 1) := by decide +kernel
theorem dX3_read_89 : decode cX3_read 89 = .ok (.goto 5, 3) := by decide +kernel
theorem dX3_read_92 : decode cX3_read 92 = .ok (.bipush 124, 2) := by decide +kernel
theorem dX3_read_94 : decode cX3_read 94 = .ok (.invokevirtual 50, 3) := by decide +kernel
theorem dX3_read_97 : decode cX3_read 97 = .ok (.iinc 2 1, 3) := by decide +kernel
theorem dX3_read_100 : decode cX3_read 100 = .ok (.goto (-78), 3) := by decide +kernel
theorem dX3_read_103 : decode cX3_read 103 = .ok (.aload_n 0, 1) := by decide +kernel
theorem dX3_read_104 : decode cX3_read 104 = .ok (.invokevirtual 54, 3) := by decide +kernel
theorem dX3_read_107 : decode cX3_read 107 = .ok (.astore_n 2, 1) := by decide +kernel
theorem dX3_read_108 : decode cX3_read 108 = .ok (.aload_n 0, 1) := by decide +kernel
theorem dX3_read_109 : decode cX3_read 109 = .ok (.getfield 28, 3) := by decide +kernel
theorem dX3_read_112 : decode cX3_read 112 = .ok (.iconst 1, 1) := by decide +kernel
theorem dX3_read_113 : decode cX3_read 113 = .ok (.aload_n 2, 1) := by decide +kernel
theorem dX3_read_114 : decode cX3_read 114 = .ok (.getfield 58, 3) := by decide +kernel
theorem dX3_read_117 : decode cX3_read 117 = .ok (.invokevirtual 61, 3) := by decide +kernel
theorem dX3_read_120 : decode cX3_read 120 = .ok (.aload_n 0, 1) := by decide +kernel
theorem dX3_read_121 : decode cX3_read 121 = .ok (.getfield 28, 3) := by decide +kernel
theorem dX3_read_124 : decode cX3_read 124 = .ok (.aload_n 2, 1) := by decide +kernel
theorem dX3_read_125 : decode cX3_read 125 = .ok (.getfield 65, 3) := by decide +kernel
theorem dX3_read_128 : decode cX3_read 128 = .ok (.aload_n 2, 1) := by decide +kernel
theorem dX3_read_129 : decode cX3_read 129 = .ok (.getfield 68, 3) := by decide +kernel
theorem dX3_read_132 : decode cX3_read 132 = .ok (.ifCond .eq 7, 3) := by decide +kernel
theorem dX3_read_135 : decode cX3_read 135 = .ok (.iconst 1, 1) := by decide +kernel
theorem dX3_read_136 : decode cX3_read 136 = .ok (.goto 4, 3) := by decide +kernel
theorem dX3_read_139 : decode cX3_read 139 = .ok (.iconst 0, 1) := by decide +kernel
theorem dX3_read_140 : decode cX3_read 140 = .ok (.ior, 1) := by decide +kernel
theorem dX3_read_141 : decode cX3_read 141 = .ok (.putfield 72, 3) := by decide +kernel
theorem dX3_read_144 : decode cX3_read 144 = .ok (.aload_n 0, 1) := by decide +kernel
theorem dX3_read_145 : decode cX3_read 145 = .ok (.getfield 28, 3) := by decide +kernel
theorem dX3_read_148 : decode cX3_read 148 = .ok (.areturn, 1) := by decide +kernel
theorem dX3_readSign_0 : decode cX3_readSign 0 = .ok (.iload_n 1, 1) := by decide +kernel
theorem dX3_readSign_1 : decode cX3_readSign 1 = .ok (.invokestatic 75, 3) := by decide +kernel
theorem dX3_readSign_4 : decode cX3_readSign 4 = .ok (.ifCond .eq 42, 3) := by decide +kernel
theorem dX3_readSign_7 : decode cX3_readSign 7 = .ok (.aload_n 0, 1) := by decide +kernel
theorem dX3_readSign_8 : decode cX3_readSign 8 = .ok (.getfield 28, 3) := by decide +kernel
theorem dX3_readSign_11 : decode cX3_readSign 11 = .ok (.getfield 79, 3) := by decide +kernel
theorem dX3_readSign_14 : decode cX3_readSign 14 = .ok (.bipush 20, 2) := by decide +kernel
theorem dX3_readSign_16 : decode cX3_readSign 16 = .ok (.if_icmp .ge 30, 3) := by decide +kernel
theorem dX3_readSign_19 : decode cX3_readSign 19 = .ok (.aload_n 0, 1) := by decide +kernel
theorem dX3_readSign_20 : decode cX3_readSign 20 = .ok (.getfield 28, 3) := by decide +kernel
theorem dX3_readSign_23 : decode cX3_readSign 23 = .ok (.iload_n 1, 1) := by decide +kernel
theorem dX3_readSign_24 : decode cX3_readSign 24 = .ok (.invokevirtual 82, 3) := by decide +kernel
theorem dX3_readSign_27 : decode cX3_readSign 27 = .ok (.istore_n 3, 1) := by decide +kernel
theorem dX3_readSign_28 : decode cX3_readSign 28 = .ok (.aload_n 0, 1) := by decide +kernel
theorem dX3_readSign_29 : decode cX3_readSign 29 = .ok (.getfield 21, 3) := by decide +kernel
theorem dX3_readSign_32 : decode cX3_readSign 32 = .ok (.iload_n 3, 1) := by decide +kernel
theorem dX3_readSign_33 : decode cX3_readSign 33 = .ok (.iload_n 3, 1) := by decide +kernel
theorem dX3_readSign_34 : decode cX3_readSign 34 = .ok (.iconst 0, 1) := by decide +kernel
theorem dX3_readSign_35 : decode cX3_readSign 35 = .ok (.invokevirtual 86, 3) := by decide +kernel
theorem dX3_readSign_38 : decode cX3_readSign 38 = .ok (.aload_n 0, 1) := by decide +kernel
theorem dX3_readSign_39 : decode cX3_readSign 39 = .ok (.iload_n 2, 1) := by decide +kernel
theorem dX3_readSign_40 : decode cX3_readSign 40 = .ok (.invokevirtual 90, 3) := by decide +kernel
theorem dX3_readSign_43 : decode cX3_readSign 43 = .ok (.goto 132, 3) := by decide +kernel
theorem dX3_readSign_46 : decode cX3_readSign 46 = .ok (.iload_n 1, 1) := by decide +kernel
theorem dX3_readSign_47 : decode cX3_readSign 47 = .ok (.bipush 40, 2) := by decide +kernel
theorem dX3_readSign_49 : decode cX3_readSign 49 = .ok (.if_icmp .ne 29, 3) := by decide +kernel
theorem dX3_readSign_52 : decode cX3_readSign 52 = .ok (.aload_n 0, 1) := by decide +kernel
theorem dX3_readSign_53 : decode cX3_readSign 53 = .ok (.getfield 32, 3) := by decide +kernel
theorem dX3_readSign_56 : decode cX3_readSign 56 = .ok (.bipush 9, 2) := by decide +kernel
theorem dX3_readSign_58 : decode cX3_readSign 58 = .ok (.if_icmp .ge 20, 3) := by decide +kernel
theorem dX3_readSign_61 : decode cX3_readSign 61 = .ok (.aload_n 0, 1) := by decide +kernel
theorem dX3_readSign_62 : decode cX3_readSign 62 = .ok (.dup, 1) := by decide +kernel
theorem dX3_readSign_63 : decode cX3_readSign 63 = .ok (.getfield 32, 3) := by decide +kernel
theorem dX3_readSign_66 : decode cX3_readSign 66 = .ok (.iconst 1, 1) := by decide +kernel
theorem dX3_readSign_67 : decode cX3_readSign 67 = .ok (.iadd, 1) := by decide +kernel
theorem dX3_readSign_68 : decode cX3_readSign 68 = .ok (.putfield 32, 3) := by decide +kernel
theorem dX3_readSign_71 : decode cX3_readSign 71 = .ok (.aload_n 0, 1) := by decide +kernel
theorem dX3_readSign_72 : decode cX3_readSign 72 = .ok (.invokevirtual 36, 3) := by decide +kernel
theorem dX3_readSign_75 : decode cX3_readSign 75 = .ok (.goto 100, 3) := by decide +kernel
theorem dX3_readSign_78 : decode cX3_readSign 78 = .ok (.iload_n 1, 1) := by decide +kernel
theorem dX3_readSign_79 : decode cX3_readSign 79 = .ok (.bipush 41, 2) := by decide +kernel
theorem dX3_readSign_81 : decode cX3_readSign 81 = .ok (.if_icmp .ne 52, 3) := by decide +kernel
theorem dX3_readSign_84 : decode cX3_readSign 84 = .ok (.aload_n 0, 1) := by decide +kernel
theorem dX3_readSign_85 : decode cX3_readSign 85 = .ok (.getfield 32, 3) := by decide +kernel
theorem dX3_readSign_88 : decode cX3_readSign 88 = .ok (.ifCond .le 45, 3) := by decide +kernel
theorem dX3_readSign_91 : decode cX3_readSign 91 = .ok (.aload_n 0, 1) := by decide +kernel
theorem dX3_readSign_92 : decode cX3_readSign 92 = .ok (.invokevirtual 54, 3) := by decide +kernel
theorem dX3_readSign_95 : decode cX3_readSign 95 = .ok (.astore_n 3, 1) := by decide +kernel
theorem dX3_readSign_96 : decode cX3_readSign 96 = .ok (.aload_n 0, 1) := by decide +kernel
theorem dX3_readSign_97 : decode cX3_readSign 97 = .ok (.getfield 21, 3) := by decide +kernel
theorem dX3_readSign_100 : decode cX3_readSign 100 = .ok (.aload_n 3, 1) := by decide +kernel
theorem dX3_readSign_101 : decode cX3_readSign 101 = .ok (.getfield 58, 3) := by decide +kernel
theorem dX3_readSign_104 : decode cX3_readSign 104 = .ok (.aload_n 3, 1) := by decide +kernel
theorem dX3_readSign_105 : decode cX3_readSign 105 = .ok (.getfield 65, 3) := by decide +kernel
theorem dX3_readSign_108 : decode cX3_readSign 108 = .ok (.aload_n 3, 1) := by decide +kernel
theorem dX3_readSign_109 : decode cX3_readSign 109 = .ok (.getfield 68, 3) := by decide +kernel
theorem dX3_readSign_112 : decode cX3_readSign 112 = .ok (.invokevirtual 86, 3) := by decide +kernel
theorem dX3_readSign_115 : decode cX3_readSign 115 = .ok (.aload_n 0, 1) := by decide +kernel
theorem dX3_readSign_116 : decode cX3_readSign 116 = .ok (.dup, 1) := by decide +kernel
theorem dX3_readSign_117 : decode cX3_readSign 117 = .ok (.getfield 32, 3) := by decide +kernel
theorem dX3_readSign_120 : decode cX3_readSign 120 = .ok (.iconst 1, 1) := by decide +kernel
theorem dX3_readSign_121 : decode cX3_readSign 121 = .ok (.isub, 1) := by decide +kernel
theorem dX3_readSign_122 : decode cX3_readSign 122 = .ok (.putfield 32, 3) := by decide +kernel
theorem dX3_readSign_125 : decode cX3_readSign 125 = .ok (.aload_n 0, 1) := by decide +kernel
theorem dX3_readSign_126 : decode cX3_readSign 126 = .ok (.iload_n 2, 1) := by decide +kernel
theorem dX3_readSign_127 : decode cX3_readSign 127 = .ok (.invokevirtual 90, 3) := by decide +kernel
theorem dX3_readSign_130 : decode cX3_readSign 130 = .ok (.goto 45, 3) := by decide +kernel
theorem dX3_readSign_133 : decode cX3_readSign 133 = .ok (.iload_n 1, 1) := by decide +kernel
theorem dX3_readSign_134 : decode cX3_readSign 134 = .ok (.bipush 124, 2) := by decide +kernel
theorem dX3_readSign_136 : decode cX3_readSign 136 = .ok (.if_icmp .ne 39, 3) := by decide +kernel
theorem dX3_readSign_139 : decode cX3_readSign 139 = .ok (.aload_n 0, 1) := by decide +kernel
theorem dX3_readSign_140 : decode cX3_readSign 140 = .ok (.getfield 11, 3) := by decide +kernel
theorem dX3_readSign_143 : decode cX3_readSign 143 = .ok (.aload_n 0, 1) := by decide +kernel
theorem dX3_readSign_144 : decode cX3_readSign 144 = .ok (.getfield 32, 3) := by decide +kernel
theorem dX3_readSign_147 : decode cX3_readSign 147 = .ok (.aaload, 1) := by decide +kernel
theorem dX3_readSign_148 : decode cX3_readSign 148 = .ok (.aload_n 0, 1) := by decide +kernel
theorem dX3_readSign_149 : decode cX3_readSign 149 = .ok (.getfield 17, 3) := by decide +kernel
theorem dX3_readSign_152 : decode cX3_readSign 152 = .ok (.aload_n 0, 1) := by decide +kernel
theorem dX3_readSign_153 : decode cX3_readSign 153 = .ok (.getfield 32, 3) := by decide +kernel
theorem dX3_readSign_156 : decode cX3_readSign 156 = .ok (.aaload, 1) := by decide +kernel
theorem dX3_readSign_157 : decode cX3_readSign 157 = .ok (.invokevirtual 94, 3) := by decide +kernel
theorem dX3_readSign_160 : decode cX3_readSign 160 = .ok (.aload_n 0, 1) := by decide +kernel
theorem dX3_readSign_161 : decode cX3_readSign 161 = .ok (.getfield 17, 3) := by decide +kernel
theorem dX3_readSign_164 : decode cX3_readSign 164 = .ok (.aload_n 0, 1) := by decide +kernel
theorem dX3_readSign_165 : decode cX3_readSign 165 = .ok (.getfield 32, 3) := by decide +kernel
theorem dX3_readSign_168 : decode cX3_readSign 168 = .ok (.aaload, 1) := by decide +kernel
theorem dX3_readSign_169 : decode cX3_readSign 169 = .ok (.iconst 0, 1) := by decide +kernel
theorem dX3_readSign_170 : decode cX3_readSign 170 = .ok (.iconst 0, 1) := by decide +kernel
theorem dX3_readSign_171 : decode cX3_readSign 171 = .ok (.iconst 1, 1) := by decide +kernel
theorem dX3_readSign_172 : decode cX3_readSign 172 = .ok (.invokevirtual 86, 3) := by decide +kernel
theorem dX3_readSign_175 : decode cX3_readSign 175 = .ok (.return_, 1) := by decide +kernel
theorem dX3_begin_0 : decode cX3_begin 0 = .ok (.aload_n 0, 1) := by decide +kernel
theorem dX3_begin_1 : decode cX3_begin 1 = .ok (.getfield 11, 3) := by decide +kernel
theorem dX3_begin_4 : decode cX3_begin 4 = .ok (.aload_n 0, 1) := by decide +kernel
theorem dX3_begin_5 : decode cX3_begin 5 = .ok (.getfield 32, 3) := by decide +kernel
theorem dX3_begin_8 : decode cX3_begin 8 = .ok (.aaload, 1) := by decide +kernel
theorem dX3_begin_9 : decode cX3_begin 9 = .ok (.iconst 0, 1) := by decide +kernel
theorem dX3_begin_10 : decode cX3_begin 10 = .ok (.iconst 0, 1) := by decide +kernel
theorem dX3_begin_11 : decode cX3_begin 11 = .ok (.iconst 0, 1) := by decide +kernel
theorem dX3_begin_12 : decode cX3_begin 12 = .ok (.invokevirtual 86, 3) := by decide +kernel
theorem dX3_begin_15 : decode cX3_begin 15 = .ok (.aload_n 0, 1) := by decide +kernel
theorem dX3_begin_16 : decode cX3_begin 16 = .ok (.getfield 17, 3) := by decide +kernel
theorem dX3_begin_19 : decode cX3_begin 19 = .ok (.aload_n 0, 1) := by decide +kernel
theorem dX3_begin_20 : decode cX3_begin 20 = .ok (.getfield 32, 3) := by decide +kernel
theorem dX3_begin_23 : decode cX3_begin 23 = .ok (.aaload, 1) := by decide +kernel
theorem dX3_begin_24 : decode cX3_begin 24 = .ok (.iconst 0, 1) := by decide +kernel
theorem dX3_begin_25 : decode cX3_begin 25 = .ok (.iconst 0, 1) := by decide +kernel
theorem dX3_begin_26 : decode cX3_begin 26 = .ok (.iconst 1, 1) := by decide +kernel
theorem dX3_begin_27 : decode cX3_begin 27 = .ok (.invokevirtual 86, 3) := by decide +kernel
theorem dX3_begin_30 : decode cX3_begin 30 = .ok (.return_, 1) := by decide +kernel
theorem dX3_closed_0 : decode cX3_closed 0 = .ok (.aload_n 0, 1) := by decide +kernel
theorem dX3_closed_1 : decode cX3_closed 1 = .ok (.getfield 11, 3) := by decide +kernel
theorem dX3_closed_4 : decode cX3_closed 4 = .ok (.aload_n 0, 1) := by decide +kernel
theorem dX3_closed_5 : decode cX3_closed 5 = .ok (.getfield 32, 3) := by decide +kernel
theorem dX3_closed_8 : decode cX3_closed 8 = .ok (.aaload, 1) := by decide +kernel
theorem dX3_closed_9 : decode cX3_closed 9 = .ok (.aload_n 0, 1) := by decide +kernel
theorem dX3_closed_10 : decode cX3_closed 10 = .ok (.getfield 17, 3) := by decide +kernel
theorem dX3_closed_13 : decode cX3_closed 13 = .ok (.aload_n 0, 1) := by decide +kernel
theorem dX3_closed_14 : decode cX3_closed 14 = .ok (.getfield 32, 3) := by decide +kernel
theorem dX3_closed_17 : decode cX3_closed 17 = .ok (.aaload, 1) := by decide +kernel
theorem dX3_closed_18 : decode cX3_closed 18 = .ok (.invokevirtual 94, 3) := by decide +kernel
theorem dX3_closed_21 : decode cX3_closed 21 = .ok (.aload_n 0, 1) := by decide +kernel
theorem dX3_closed_22 : decode cX3_closed 22 = .ok (.getfield 11, 3) := by decide +kernel
theorem dX3_closed_25 : decode cX3_closed 25 = .ok (.aload_n 0, 1) := by decide +kernel
theorem dX3_closed_26 : decode cX3_closed 26 = .ok (.getfield 32, 3) := by decide +kernel
theorem dX3_closed_29 : decode cX3_closed 29 = .ok (.aaload, 1) := by decide +kernel
theorem dX3_closed_30 : decode cX3_closed 30 = .ok (.areturn, 1) := by decide +kernel
theorem dX3_addPart_0 : decode cX3_addPart 0 = .ok (.iload_n 1, 1) := by decide +kernel
theorem dX3_addPart_1 : decode cX3_addPart 1 = .ok (.bipush 42, 2) := by decide +kernel
theorem dX3_addPart_3 : decode cX3_addPart 3 = .ok (.if_icmp .eq 9, 3) := by decide +kernel
theorem dX3_addPart_6 : decode cX3_addPart 6 = .ok (.iload_n 1, 1) := by decide +kernel
theorem dX3_addPart_7 : decode cX3_addPart 7 = .ok (.bipush 43, 2) := by decide +kernel
theorem dX3_addPart_9 : decode cX3_addPart 9 = .ok (.if_icmp .ne 24, 3) := by decide +kernel
theorem dX3_addPart_12 : decode cX3_addPart 12 = .ok (.aload_n 0, 1) := by decide +kernel
theorem dX3_addPart_13 : decode cX3_addPart 13 = .ok (.getfield 28, 3) := by decide +kernel
theorem dX3_addPart_16 : decode cX3_addPart 16 = .ok (.aload_n 0, 1) := by decide +kernel
theorem dX3_addPart_17 : decode cX3_addPart 17 = .ok (.getfield 21, 3) := by decide +kernel
theorem dX3_addPart_20 : decode cX3_addPart 20 = .ok (.getfield 65, 3) := by decide +kernel
theorem dX3_addPart_23 : decode cX3_addPart 23 = .ok (.aload_n 0, 1) := by decide +kernel
theorem dX3_addPart_24 : decode cX3_addPart 24 = .ok (.getfield 21, 3) := by decide +kernel
theorem dX3_addPart_27 : decode cX3_addPart 27 = .ok (.getfield 58, 3) := by decide +kernel
theorem dX3_addPart_30 : decode cX3_addPart 30 = .ok (.invokevirtual 61, 3) := by decide +kernel
theorem dX3_addPart_33 : decode cX3_addPart 33 = .ok (.aload_n 0, 1) := by decide +kernel
theorem dX3_addPart_34 : decode cX3_addPart 34 = .ok (.getfield 21, 3) := by decide +kernel
theorem dX3_addPart_37 : decode cX3_addPart 37 = .ok (.getfield 68, 3) := by decide +kernel
theorem dX3_addPart_40 : decode cX3_addPart 40 = .ok (.ifCond .ne 15, 3) := by decide +kernel
theorem dX3_addPart_43 : decode cX3_addPart 43 = .ok (.iload_n 1, 1) := by decide +kernel
theorem dX3_addPart_44 : decode cX3_addPart 44 = .ok (.bipush 42, 2) := by decide +kernel
theorem dX3_addPart_46 : decode cX3_addPart 46 = .ok (.if_icmp .eq 9, 3) := by decide +kernel
theorem dX3_addPart_49 : decode cX3_addPart 49 = .ok (.iload_n 1, 1) := by decide +kernel
theorem dX3_addPart_50 : decode cX3_addPart 50 = .ok (.bipush 63, 2) := by decide +kernel
theorem dX3_addPart_52 : decode cX3_addPart 52 = .ok (.if_icmp .ne 7, 3) := by decide +kernel
theorem dX3_addPart_55 : decode cX3_addPart 55 = .ok (.iconst 1, 1) := by decide +kernel
theorem dX3_addPart_56 : decode cX3_addPart 56 = .ok (.goto 4, 3) := by decide +kernel
theorem dX3_addPart_59 : decode cX3_addPart 59 = .ok (.iconst 0, 1) := by decide +kernel
theorem dX3_addPart_60 : decode cX3_addPart 60 = .ok (.istore_n 2, 1) := by decide +kernel
theorem dX3_addPart_61 : decode cX3_addPart 61 = .ok (.aload_n 0, 1) := by decide +kernel
theorem dX3_addPart_62 : decode cX3_addPart 62 = .ok (.getfield 17, 3) := by decide +kernel
theorem dX3_addPart_65 : decode cX3_addPart 65 = .ok (.aload_n 0, 1) := by decide +kernel
theorem dX3_addPart_66 : decode cX3_addPart 66 = .ok (.getfield 32, 3) := by decide +kernel
theorem dX3_addPart_69 : decode cX3_addPart 69 = .ok (.aaload, 1) := by decide +kernel
theorem dX3_addPart_70 : decode cX3_addPart 70 = .ok (.astore_n 3, 1) := by decide +kernel
theorem dX3_addPart_71 : decode cX3_addPart 71 = .ok (.aload_n 0, 1) := by decide +kernel
theorem dX3_addPart_72 : decode cX3_addPart 72 = .ok (.getfield 28, 3) := by decide +kernel
theorem dX3_addPart_75 : decode cX3_addPart 75 = .ok (.aload_n 3, 1) := by decide +kernel
theorem dX3_addPart_76 : decode cX3_addPart 76 = .ok (.getfield 65, 3) := by decide +kernel
theorem dX3_addPart_79 : decode cX3_addPart 79 = .ok (.aload_n 0, 1) := by decide +kernel
theorem dX3_addPart_80 : decode cX3_addPart 80 = .ok (.getfield 21, 3) := by decide +kernel
theorem dX3_addPart_83 : decode cX3_addPart 83 = .ok (.getfield 58, 3) := by decide +kernel
theorem dX3_addPart_86 : decode cX3_addPart 86 = .ok (.invokevirtual 61, 3) := by decide +kernel
theorem dX3_addPart_89 : decode cX3_addPart 89 = .ok (.aload_n 3, 1) := by decide +kernel
theorem dX3_addPart_90 : decode cX3_addPart 90 = .ok (.aload_n 3, 1) := by decide +kernel
theorem dX3_addPart_91 : decode cX3_addPart 91 = .ok (.getfield 58, 3) := by decide +kernel
theorem dX3_addPart_94 : decode cX3_addPart 94 = .ok (.aload_n 3, 1) := by decide +kernel
theorem dX3_addPart_95 : decode cX3_addPart 95 = .ok (.getfield 68, 3) := by decide +kernel
theorem dX3_addPart_98 : decode cX3_addPart 98 = .ok (.ifCond .eq 13, 3) := by decide +kernel
theorem dX3_addPart_101 : decode cX3_addPart 101 = .ok (.aload_n 0, 1) := by decide +kernel
theorem dX3_addPart_102 : decode cX3_addPart 102 = .ok (.getfield 21, 3) := by decide +kernel
theorem dX3_addPart_105 : decode cX3_addPart 105 = .ok (.getfield 58, 3) := by decide +kernel
theorem dX3_addPart_108 : decode cX3_addPart 108 = .ok (.goto 4, 3) := by decide +kernel
theorem dX3_addPart_111 : decode cX3_addPart 111 = .ok (.iconst 0, 1) := by decide +kernel
theorem dX3_addPart_112 : decode cX3_addPart 112 = .ok (.ior, 1) := by decide +kernel
theorem dX3_addPart_113 : decode cX3_addPart 113 = .ok (.aload_n 0, 1) := by decide +kernel
theorem dX3_addPart_114 : decode cX3_addPart 114 = .ok (.getfield 21, 3) := by decide +kernel
theorem dX3_addPart_117 : decode cX3_addPart 117 = .ok (.getfield 65, 3) := by decide +kernel
theorem dX3_addPart_120 : decode cX3_addPart 120 = .ok (.iload_n 2, 1) := by decide +kernel
theorem dX3_addPart_121 : decode cX3_addPart 121 = .ok (.ifCond .eq 10, 3) := by decide +kernel
theorem dX3_addPart_124 : decode cX3_addPart 124 = .ok (.aload_n 3, 1) := by decide +kernel
theorem dX3_addPart_125 : decode cX3_addPart 125 = .ok (.getfield 65, 3) := by decide +kernel
theorem dX3_addPart_128 : decode cX3_addPart 128 = .ok (.goto 4, 3) := by decide +kernel
theorem dX3_addPart_131 : decode cX3_addPart 131 = .ok (.iconst 0, 1) := by decide +kernel
theorem dX3_addPart_132 : decode cX3_addPart 132 = .ok (.ior, 1) := by decide +kernel
theorem dX3_addPart_133 : decode cX3_addPart 133 = .ok (.aload_n 3, 1) := by decide +kernel
theorem dX3_addPart_134 : decode cX3_addPart 134 = .ok (.getfield 68, 3) := by decide +kernel
theorem dX3_addPart_137 : decode cX3_addPart 137 = .ok (.ifCond .eq 11, 3) := by decide +kernel
theorem dX3_addPart_140 : decode cX3_addPart 140 = .ok (.iload_n 2, 1) := by decide +kernel
theorem dX3_addPart_141 : decode cX3_addPart 141 = .ok (.ifCond .eq 7, 3) := by decide +kernel
theorem dX3_addPart_144 : decode cX3_addPart 144 = .ok (.iconst 1, 1) := by decide +kernel
theorem dX3_addPart_145 : decode cX3_addPart 145 = .ok (.goto 4, 3) := by decide +kernel
theorem dX3_addPart_148 : decode cX3_addPart 148 = .ok (.iconst 0, 1) := by decide +kernel
theorem dX3_addPart_149 : decode cX3_addPart 149 = .ok (.invokevirtual 86, 3) := by decide +kernel
theorem dX3_addPart_152 : decode cX3_addPart 152 = .ok (.return_, 1) := by decide +kernel
theorem dX4_init_0 : decode cX4_init 0 = .ok (.aload_n 0, 1) := by decide +kernel
theorem dX4_init_1 : decode cX4_init 1 = .ok (.invokespecial 1, 3) := by decide +kernel
theorem dX4_init_4 : decode cX4_init 4 = .ok (.return_, 1) := by decide +kernel
theorem dX4_become_0 : decode cX4_become 0 = .ok (.aload_n 0, 1) := by decide +kernel
theorem dX4_become_1 : decode cX4_become 1 = .ok (.iload_n 1, 1) := by decide +kernel
theorem dX4_become_2 : decode cX4_become 2 = .ok (.putfield 7, 3) := by decide +kernel
theorem dX4_become_5 : decode cX4_become 5 = .ok (.aload_n 0, 1) := by decide +kernel
theorem dX4_become_6 : decode cX4_become 6 = .ok (.iload_n 2, 1) := by decide +kernel
theorem dX4_become_7 : decode cX4_become 7 = .ok (.putfield 13, 3) := by decide +kernel
theorem dX4_become_10 : decode cX4_become 10 = .ok (.aload_n 0, 1) := by decide +kernel
theorem dX4_become_11 : decode cX4_become 11 = .ok (.iload_n 3, 1) := by decide +kernel
theorem dX4_become_12 : decode cX4_become 12 = .ok (.putfield 16, 3) := by decide +kernel
theorem dX4_become_15 : decode cX4_become 15 = .ok (.return_, 1) := by decide +kernel
theorem dX4_orElse_0 : decode cX4_orElse 0 = .ok (.aload_n 0, 1) := by decide +kernel
theorem dX4_orElse_1 : decode cX4_orElse 1 = .ok (.aload_n 0, 1) := by decide +kernel
theorem dX4_orElse_2 : decode cX4_orElse 2 = .ok (.getfield 7, 3) := by decide +kernel
theorem dX4_orElse_5 : decode cX4_orElse 5 = .ok (.aload_n 1, 1) := by decide +kernel
theorem dX4_orElse_6 : decode cX4_orElse 6 = .ok (.getfield 7, 3) := by decide +kernel
theorem dX4_orElse_9 : decode cX4_orElse 9 = .ok (.ior, 1) := by decide +kernel
theorem dX4_orElse_10 : decode cX4_orElse 10 = .ok (.aload_n 0, 1) := by decide +kernel
theorem dX4_orElse_11 : decode cX4_orElse 11 = .ok (.getfield 13, 3) := by decide +kernel
theorem dX4_orElse_14 : decode cX4_orElse 14 = .ok (.aload_n 1, 1) := by decide +kernel
theorem dX4_orElse_15 : decode cX4_orElse 15 = .ok (.getfield 13, 3) := by decide +kernel
theorem dX4_orElse_18 : decode cX4_orElse 18 = .ok (.ior, 1) := by decide +kernel
theorem dX4_orElse_19 : decode cX4_orElse 19 = .ok (.aload_n 0, 1) := by decide +kernel
theorem dX4_orElse_20 : decode cX4_orElse 20 = .ok (.getfield 16, 3) := by decide +kernel
theorem dX4_orElse_23 : decode cX4_orElse 23 = .ok (.ifCond .ne 10, 3) := by decide +kernel
theorem dX4_orElse_26 : decode cX4_orElse 26 = .ok (.aload_n 1, 1) := by decide +kernel
theorem dX4_orElse_27 : decode cX4_orElse 27 = .ok (.getfield 16, 3) := by decide +kernel
theorem dX4_orElse_30 : decode cX4_orElse 30 = .ok (.ifCond .eq 7, 3) := by decide +kernel
theorem dX4_orElse_33 : decode cX4_orElse 33 = .ok (.iconst 1, 1) := by decide +kernel
theorem dX4_orElse_34 : decode cX4_orElse 34 = .ok (.goto 4, 3) := by decide +kernel
theorem dX4_orElse_37 : decode cX4_orElse 37 = .ok (.iconst 0, 1) := by decide +kernel
theorem dX4_orElse_38 : decode cX4_orElse 38 = .ok (.invokevirtual 20, 3) := by decide +kernel
theorem dX4_orElse_41 : decode cX4_orElse 41 = .ok (.return_, 1) := by decide +kernel
theorem dX5_init_0 : decode cX5_init 0 = .ok (.aload_n 0, 1) := by decide +kernel
theorem dX5_init_1 : decode cX5_init 1 = .ok (.invokespecial 3, 3) := by decide +kernel
theorem dX5_init_4 : decode cX5_init 4 = .ok (.aload_n 0, 1) := by decide +kernel
theorem dX5_init_5 : decode cX5_init 5 = .ok (.bipush 8, 2) := by decide +kernel
theorem dX5_init_7 : decode cX5_init 7 = .ok (.newarray .int, 2) := by decide +kernel
theorem dX5_init_9 : decode cX5_init 9 = .ok (.putfield 9, 3) := by decide +kernel
theorem dX5_init_12 : decode cX5_init 12 = .ok (.aload_n 0, 1) := by decide +kernel
theorem dX5_init_13 : decode cX5_init 13 = .ok (.bipush 8, 2) := by decide +kernel
theorem dX5_init_15 : decode cX5_init 15 = .ok (.newarray .int, 2) := by decide +kernel
theorem dX5_init_17 : decode cX5_init 17 = .ok (.putfield 15, 3) := by decide +kernel
theorem dX5_init_20 : decode cX5_init 20 = .ok (.aload_n 0, 1) := by decide +kernel
theorem dX5_init_21 : decode cX5_init 21 = .ok (.new 18, 3) := by decide +kernel
theorem dX5_init_24 : decode cX5_init 24 = .ok (.dup, 1) := by decide +kernel
theorem dX5_init_25 : decode cX5_init 25 = .ok (.invokespecial 20, 3) := by decide +kernel
theorem dX5_init_28 : decode cX5_init 28 = .ok (.putfield 21, 3) := by decide +kernel
theorem dX5_init_31 : decode cX5_init 31 = .ok (.return_, 1) := by decide +kernel
theorem dX5_fromPerson_0 : decode cX5_fromPerson 0 = .ok (.aload_n 0, 1) := by decide +kernel
theorem dX5_fromPerson_1 : decode cX5_fromPerson 1 = .ok (.aload_n 1, 1) := by decide +kernel
theorem dX5_fromPerson_2 : decode cX5_fromPerson 2 = .ok (.iload_n 2, 1) := by decide +kernel
theorem dX5_fromPerson_3 : decode cX5_fromPerson 3 = .ok (.bipush (-9), 2) := by decide +kernel
theorem dX5_fromPerson_5 : decode cX5_fromPerson 5 = .ok (.iload_n 3, 1) := by decide +kernel
theorem dX5_fromPerson_6 : decode cX5_fromPerson 6 = .ok (.sipush 1512, 3) := by decide +kernel
theorem dX5_fromPerson_9 : decode cX5_fromPerson 9 = .ok (.invokevirtual 25, 3) := by decide +kernel
theorem dX5_fromPerson_12 : decode cX5_fromPerson 12 = .ok (.return_, 1) := by decide +kernel
theorem dX5_between_0 : decode cX5_between 0 = .ok (.aload_n 0, 1) := by decide +kernel
theorem dX5_between_1 : decode cX5_between 1 = .ok (.aload_n 1, 1) := by decide +kernel
theorem dX5_between_2 : decode cX5_between 2 = .ok (.iload_n 2, 1) := by decide +kernel
theorem dX5_between_3 : decode cX5_between 3 = .ok (.iload_n 3, 1) := by decide +kernel
theorem dX5_between_4 : decode cX5_between 4 = .ok (.iload 4, 2) := by decide +kernel
theorem dX5_between_6 : decode cX5_between 6 = .ok (.iload 5, 2) := by decide +kernel
theorem dX5_between_8 : decode cX5_between 8 = .ok (.invokevirtual 25, 3) := by decide +kernel
theorem dX5_between_11 : decode cX5_between 11 = .ok (.aload_n 0, 1) := by decide +kernel
theorem dX5_between_12 : decode cX5_between 12 = .ok (.getfield 9, 3) := by decide +kernel
theorem dX5_between_15 : decode cX5_between 15 = .ok (.iload_n 3, 1) := by decide +kernel
theorem dX5_between_16 : decode cX5_between 16 = .ok (.iaload, 1) := by decide +kernel
theorem dX5_between_17 : decode cX5_between 17 = .ok (.ireturn, 1) := by decide +kernel
theorem dX5_finds_0 : decode cX5_finds 0 = .ok (.aload_n 0, 1) := by decide +kernel
theorem dX5_finds_1 : decode cX5_finds 1 = .ok (.aload_n 1, 1) := by decide +kernel
theorem dX5_finds_2 : decode cX5_finds 2 = .ok (.iload_n 2, 1) := by decide +kernel
theorem dX5_finds_3 : decode cX5_finds 3 = .ok (.iload_n 3, 1) := by decide +kernel
theorem dX5_finds_4 : decode cX5_finds 4 = .ok (.iload 4, 2) := by decide +kernel
theorem dX5_finds_6 : decode cX5_finds 6 = .ok (.sipush 1512, 3) := by decide +kernel
theorem dX5_finds_9 : decode cX5_finds 9 = .ok (.invokevirtual 25, 3) := by decide +kernel
theorem dX5_finds_12 : decode cX5_finds 12 = .ok (.aload_n 0, 1) := by decide +kernel
theorem dX5_finds_13 : decode cX5_finds 13 = .ok (.getfield 9, 3) := by decide +kernel
theorem dX5_finds_16 : decode cX5_finds 16 = .ok (.iload_n 3, 1) := by decide +kernel
theorem dX5_finds_17 : decode cX5_finds 17 = .ok (.iaload, 1) := by decide +kernel
theorem dX5_finds_18 : decode cX5_finds 18 = .ok (.bipush (-9), 2) := by decide +kernel
theorem dX5_finds_20 : decode cX5_finds 20 = .ok (.if_icmp .eq 7, 3) := by decide +kernel
theorem dX5_finds_23 : decode cX5_finds 23 = .ok (.iconst 1, 1) := by decide +kernel
theorem dX5_finds_24 : decode cX5_finds 24 = .ok (.goto 4, 3) := by decide +kernel
theorem dX5_finds_27 : decode cX5_finds 27 = .ok (.iconst 0, 1) := by decide +kernel
theorem dX5_finds_28 : decode cX5_finds 28 = .ok (.ireturn, 1) := by decide +kernel
theorem dX5_peopleFrom_0 : decode cX5_peopleFrom 0 = .ok (.aload_n 0, 1) := by decide +kernel
theorem dX5_peopleFrom_1 : decode cX5_peopleFrom 1 = .ok (.aload_n 1, 1) := by decide +kernel
theorem dX5_peopleFrom_2 : decode cX5_peopleFrom 2 = .ok (.iload_n 2, 1) := by decide +kernel
theorem dX5_peopleFrom_3 : decode cX5_peopleFrom 3 = .ok (.iconst 0, 1) := by decide +kernel
theorem dX5_peopleFrom_4 : decode cX5_peopleFrom 4 = .ok (.invokevirtual 29, 3) := by decide +kernel
theorem dX5_peopleFrom_7 : decode cX5_peopleFrom 7 = .ok (.iconst 0, 1) := by decide +kernel
theorem dX5_peopleFrom_8 : decode cX5_peopleFrom 8 = .ok (.istore_n 3, 1) := by decide +kernel
theorem dX5_peopleFrom_9 : decode cX5_peopleFrom 9 = .ok (.iconst 0, 1) := by decide +kernel
theorem dX5_peopleFrom_10 : decode cX5_peopleFrom 10 = .ok (.istore 4, 2) := by decide +kernel
theorem dX5_peopleFrom_12 : decode cX5_peopleFrom 12 = .ok (.iload 4, 2) := by decide +kernel
theorem dX5_peopleFrom_14 : decode cX5_peopleFrom 14 = .ok (.aload_n 1, 1) := by decide +kernel
theorem dX5_peopleFrom_15 : decode cX5_peopleFrom 15 = .ok (.getfield 33, 3) := by decide +kernel
theorem dX5_peopleFrom_18 : decode cX5_peopleFrom 18 = .ok (.if_icmp .ge 32, 3) := by decide +kernel
theorem dX5_peopleFrom_21 : decode cX5_peopleFrom 21 = .ok (.iload_n 3, 1) := by decide +kernel
theorem dX5_peopleFrom_22 : decode cX5_peopleFrom 22 = .ok (.aload_n 0, 1) := by decide +kernel
theorem dX5_peopleFrom_23 : decode cX5_peopleFrom 23 = .ok (.getfield 9, 3) := by decide +kernel
theorem dX5_peopleFrom_26 : decode cX5_peopleFrom 26 = .ok (.iload 4, 2) := by decide +kernel
theorem dX5_peopleFrom_28 : decode cX5_peopleFrom 28 = .ok (.iaload, 1) := by decide +kernel
theorem dX5_peopleFrom_29 : decode cX5_peopleFrom 29 = .ok (.bipush (-9), 2) := by decide +kernel
theorem dX5_peopleFrom_31 : decode cX5_peopleFrom 31 = .ok (.if_icmp .ne 7, 3) := by decide +kernel
theorem dX5_peopleFrom_34 : decode cX5_peopleFrom 34 = .ok (.iconst 0, 1) := by decide +kernel
theorem dX5_peopleFrom_35 : decode cX5_peopleFrom 35 = .ok (.goto 7, 3) := by decide +kernel
theorem dX5_peopleFrom_38 : decode cX5_peopleFrom 38 = .ok (.iconst 1, 1) := by decide +kernel
theorem dX5_peopleFrom_39 : decode cX5_peopleFrom 39 = .ok (.iload 4, 2) := by decide +kernel
theorem dX5_peopleFrom_41 : decode cX5_peopleFrom 41 = .ok (.ishl, 1) := by decide +kernel
theorem dX5_peopleFrom_42 : decode cX5_peopleFrom 42 = .ok (.ior, 1) := by decide +kernel
theorem dX5_peopleFrom_43 : decode cX5_peopleFrom 43 = .ok (.istore_n 3, 1) := by decide +kernel
theorem dX5_peopleFrom_44 : decode cX5_peopleFrom 44 = .ok (.iinc 4 1, 3) := by decide +kernel
theorem dX5_peopleFrom_47 : decode cX5_peopleFrom 47 = .ok (.goto (-35), 3) := by decide +kernel
theorem dX5_peopleFrom_50 : decode cX5_peopleFrom 50 = .ok (.iload_n 3, 1) := by decide +kernel
theorem dX5_peopleFrom_51 : decode cX5_peopleFrom 51 = .ok (.ireturn, 1) := by decide +kernel
theorem dX5_peopleTo_0 : decode cX5_peopleTo 0 = .ok (.iconst 0, 1) := by decide +kernel
theorem dX5_peopleTo_1 : decode cX5_peopleTo 1 = .ok (.istore_n 3, 1) := by decide +kernel
theorem dX5_peopleTo_2 : decode cX5_peopleTo 2 = .ok (.iconst 0, 1) := by decide +kernel
theorem dX5_peopleTo_3 : decode cX5_peopleTo 3 = .ok (.istore 4, 2) := by decide +kernel
theorem dX5_peopleTo_5 : decode cX5_peopleTo 5 = .ok (.iload 4, 2) := by decide +kernel
theorem dX5_peopleTo_7 : decode cX5_peopleTo 7 = .ok (.aload_n 1, 1) := by decide +kernel
theorem dX5_peopleTo_8 : decode cX5_peopleTo 8 = .ok (.getfield 33, 3) := by decide +kernel
theorem dX5_peopleTo_11 : decode cX5_peopleTo 11 = .ok (.if_icmp .ge 32, 3) := by decide +kernel
theorem dX5_peopleTo_14 : decode cX5_peopleTo 14 = .ok (.iload_n 3, 1) := by decide +kernel
theorem dX5_peopleTo_15 : decode cX5_peopleTo 15 = .ok (.aload_n 0, 1) := by decide +kernel
theorem dX5_peopleTo_16 : decode cX5_peopleTo 16 = .ok (.aload_n 1, 1) := by decide +kernel
theorem dX5_peopleTo_17 : decode cX5_peopleTo 17 = .ok (.iload 4, 2) := by decide +kernel
theorem dX5_peopleTo_19 : decode cX5_peopleTo 19 = .ok (.iload_n 2, 1) := by decide +kernel
theorem dX5_peopleTo_20 : decode cX5_peopleTo 20 = .ok (.iconst 0, 1) := by decide +kernel
theorem dX5_peopleTo_21 : decode cX5_peopleTo 21 = .ok (.invokevirtual 39, 3) := by decide +kernel
theorem dX5_peopleTo_24 : decode cX5_peopleTo 24 = .ok (.ifCond .eq 10, 3) := by decide +kernel
theorem dX5_peopleTo_27 : decode cX5_peopleTo 27 = .ok (.iconst 1, 1) := by decide +kernel
theorem dX5_peopleTo_28 : decode cX5_peopleTo 28 = .ok (.iload 4, 2) := by decide +kernel
theorem dX5_peopleTo_30 : decode cX5_peopleTo 30 = .ok (.ishl, 1) := by decide +kernel
theorem dX5_peopleTo_31 : decode cX5_peopleTo 31 = .ok (.goto 4, 3) := by decide +kernel
theorem dX5_peopleTo_34 : decode cX5_peopleTo 34 = .ok (.iconst 0, 1) := by decide +kernel
theorem dX5_peopleTo_35 : decode cX5_peopleTo 35 = .ok (.ior, 1) := by decide +kernel
theorem dX5_peopleTo_36 : decode cX5_peopleTo 36 = .ok (.istore_n 3, 1) := by decide +kernel
theorem dX5_peopleTo_37 : decode cX5_peopleTo 37 = .ok (.iinc 4 1, 3) := by decide +kernel
theorem dX5_peopleTo_40 : decode cX5_peopleTo 40 = .ok (.goto (-35), 3) := by decide +kernel
theorem dX5_peopleTo_43 : decode cX5_peopleTo 43 = .ok (.iload_n 3, 1) := by decide +kernel
theorem dX5_peopleTo_44 : decode cX5_peopleTo 44 = .ok (.ireturn, 1) := by decide +kernel
theorem dX5_survey_0 : decode cX5_survey 0 = .ok (.aload_n 0, 1) := by decide +kernel
theorem dX5_survey_1 : decode cX5_survey 1 = .ok (.iconst 0, 1) := by decide +kernel
theorem dX5_survey_2 : decode cX5_survey 2 = .ok (.putfield 43, 3) := by decide +kernel
theorem dX5_survey_5 : decode cX5_survey 5 = .ok (.aload_n 0, 1) := by decide +kernel
theorem dX5_survey_6 : decode cX5_survey 6 = .ok (.bipush (-9), 2) := by decide +kernel
theorem dX5_survey_8 : decode cX5_survey 8 = .ok (.putfield 46, 3) := by decide +kernel
theorem dX5_survey_11 : decode cX5_survey 11 = .ok (.iconst 0, 1) := by decide +kernel
theorem dX5_survey_12 : decode cX5_survey 12 = .ok (.istore_n 3, 1) := by decide +kernel
theorem dX5_survey_13 : decode cX5_survey 13 = .ok (.iload_n 3, 1) := by decide +kernel
theorem dX5_survey_14 : decode cX5_survey 14 = .ok (.aload_n 1, 1) := by decide +kernel
theorem dX5_survey_15 : decode cX5_survey 15 = .ok (.getfield 33, 3) := by decide +kernel
theorem dX5_survey_18 : decode cX5_survey 18 = .ok (.if_icmp .ge 78, 3) := by decide +kernel
theorem dX5_survey_21 : decode cX5_survey 21 = .ok (.aload_n 0, 1) := by decide +kernel
theorem dX5_survey_22 : decode cX5_survey 22 = .ok (.aload_n 1, 1) := by decide +kernel
theorem dX5_survey_23 : decode cX5_survey 23 = .ok (.iload_n 3, 1) := by decide +kernel
theorem dX5_survey_24 : decode cX5_survey 24 = .ok (.iload_n 2, 1) := by decide +kernel
theorem dX5_survey_25 : decode cX5_survey 25 = .ok (.invokevirtual 29, 3) := by decide +kernel
theorem dX5_survey_28 : decode cX5_survey 28 = .ok (.iconst 0, 1) := by decide +kernel
theorem dX5_survey_29 : decode cX5_survey 29 = .ok (.istore 4, 2) := by decide +kernel
theorem dX5_survey_31 : decode cX5_survey 31 = .ok (.iload 4, 2) := by decide +kernel
theorem dX5_survey_33 : decode cX5_survey 33 = .ok (.aload_n 1, 1) := by decide +kernel
theorem dX5_survey_34 : decode cX5_survey 34 = .ok (.getfield 33, 3) := by decide +kernel
theorem dX5_survey_37 : decode cX5_survey 37 = .ok (.if_icmp .ge 53, 3) := by decide +kernel
theorem dX5_survey_40 : decode cX5_survey 40 = .ok (.aload_n 0, 1) := by decide +kernel
theorem dX5_survey_41 : decode cX5_survey 41 = .ok (.dup, 1) := by decide +kernel
theorem dX5_survey_42 : decode cX5_survey 42 = .ok (.getfield 43, 3) := by decide +kernel
theorem dX5_survey_45 : decode cX5_survey 45 = .ok (.aload_n 0, 1) := by decide +kernel
theorem dX5_survey_46 : decode cX5_survey 46 = .ok (.getfield 9, 3) := by decide +kernel
theorem dX5_survey_49 : decode cX5_survey 49 = .ok (.iload 4, 2) := by decide +kernel
theorem dX5_survey_51 : decode cX5_survey 51 = .ok (.iaload, 1) := by decide +kernel
theorem dX5_survey_52 : decode cX5_survey 52 = .ok (.bipush (-9), 2) := by decide +kernel
theorem dX5_survey_54 : decode cX5_survey 54 = .ok (.if_icmp .ne 7, 3) := by decide +kernel
theorem dX5_survey_57 : decode cX5_survey 57 = .ok (.iconst 0, 1) := by decide +kernel
theorem dX5_survey_58 : decode cX5_survey 58 = .ok (.goto 4, 3) := by decide +kernel
theorem dX5_survey_61 : decode cX5_survey 61 = .ok (.iconst 1, 1) := by decide +kernel
theorem dX5_survey_62 : decode cX5_survey 62 = .ok (.iadd, 1) := by decide +kernel
theorem dX5_survey_63 : decode cX5_survey 63 = .ok (.putfield 43, 3) := by decide +kernel
theorem dX5_survey_66 : decode cX5_survey 66 = .ok (.aload_n 0, 1) := by decide +kernel
theorem dX5_survey_67 : decode cX5_survey 67 = .ok (.aload_n 0, 1) := by decide +kernel
theorem dX5_survey_68 : decode cX5_survey 68 = .ok (.getfield 46, 3) := by decide +kernel
theorem dX5_survey_71 : decode cX5_survey 71 = .ok (.aload_n 0, 1) := by decide +kernel
theorem dX5_survey_72 : decode cX5_survey 72 = .ok (.getfield 9, 3) := by decide +kernel
theorem dX5_survey_75 : decode cX5_survey 75 = .ok (.iload 4, 2) := by decide +kernel
theorem dX5_survey_77 : decode cX5_survey 77 = .ok (.iaload, 1) := by decide +kernel
theorem dX5_survey_78 : decode cX5_survey 78 = .ok (.invokestatic 49, 3) := by decide +kernel
theorem dX5_survey_81 : decode cX5_survey 81 = .ok (.putfield 46, 3) := by decide +kernel
theorem dX5_survey_84 : decode cX5_survey 84 = .ok (.iinc 4 1, 3) := by decide +kernel
theorem dX5_survey_87 : decode cX5_survey 87 = .ok (.goto (-56), 3) := by decide +kernel
theorem dX5_survey_90 : decode cX5_survey 90 = .ok (.iinc 3 1, 3) := by decide +kernel
theorem dX5_survey_93 : decode cX5_survey 93 = .ok (.goto (-80), 3) := by decide +kernel
theorem dX5_survey_96 : decode cX5_survey 96 = .ok (.return_, 1) := by decide +kernel
theorem dX5_couldGo_0 : decode cX5_couldGo 0 = .ok (.aload_n 1, 1) := by decide +kernel
theorem dX5_couldGo_1 : decode cX5_couldGo 1 = .ok (.getfield 55, 3) := by decide +kernel
theorem dX5_couldGo_4 : decode cX5_couldGo 4 = .ok (.aload_n 0, 1) := by decide +kernel
theorem dX5_couldGo_5 : decode cX5_couldGo 5 = .ok (.getfield 15, 3) := by decide +kernel
theorem dX5_couldGo_8 : decode cX5_couldGo 8 = .ok (.iload_n 2, 1) := by decide +kernel
theorem dX5_couldGo_9 : decode cX5_couldGo 9 = .ok (.iaload, 1) := by decide +kernel
theorem dX5_couldGo_10 : decode cX5_couldGo 10 = .ok (.invokevirtual 59, 3) := by decide +kernel
theorem dX5_couldGo_13 : decode cX5_couldGo 13 = .ok (.aload_n 1, 1) := by decide +kernel
theorem dX5_couldGo_14 : decode cX5_couldGo 14 = .ok (.getfield 55, 3) := by decide +kernel
theorem dX5_couldGo_17 : decode cX5_couldGo 17 = .ok (.getfield 65, 3) := by decide +kernel
theorem dX5_couldGo_20 : decode cX5_couldGo 20 = .ok (.iload_n 3, 1) := by decide +kernel
theorem dX5_couldGo_21 : decode cX5_couldGo 21 = .ok (.iaload, 1) := by decide +kernel
theorem dX5_couldGo_22 : decode cX5_couldGo 22 = .ok (.iand, 1) := by decide +kernel
theorem dX5_couldGo_23 : decode cX5_couldGo 23 = .ok (.ifCond .eq 7, 3) := by decide +kernel
theorem dX5_couldGo_26 : decode cX5_couldGo 26 = .ok (.iconst 1, 1) := by decide +kernel
theorem dX5_couldGo_27 : decode cX5_couldGo 27 = .ok (.goto 4, 3) := by decide +kernel
theorem dX5_couldGo_30 : decode cX5_couldGo 30 = .ok (.iconst 0, 1) := by decide +kernel
theorem dX5_couldGo_31 : decode cX5_couldGo 31 = .ok (.ireturn, 1) := by decide +kernel
theorem dX5_run_0 : decode cX5_run 0 = .ok (.aload_n 0, 1) := by decide +kernel
theorem dX5_run_1 : decode cX5_run 1 = .ok (.iload 4, 2) := by decide +kernel
theorem dX5_run_3 : decode cX5_run 3 = .ok (.invokevirtual 68, 3) := by decide +kernel
theorem dX5_run_6 : decode cX5_run 6 = .ok (.aload_n 0, 1) := by decide +kernel
theorem dX5_run_7 : decode cX5_run 7 = .ok (.getfield 21, 3) := by decide +kernel
theorem dX5_run_10 : decode cX5_run 10 = .ok (.iconst 0, 1) := by decide +kernel
theorem dX5_run_11 : decode cX5_run 11 = .ok (.iload_n 2, 1) := by decide +kernel
theorem dX5_run_12 : decode cX5_run 12 = .ok (.iconst 1, 1) := by decide +kernel
theorem dX5_run_13 : decode cX5_run 13 = .ok (.invokevirtual 72, 3) := by decide +kernel
theorem dX5_run_16 : decode cX5_run 16 = .ok (.iconst 0, 1) := by decide +kernel
theorem dX5_run_17 : decode cX5_run 17 = .ok (.istore 6, 2) := by decide +kernel
theorem dX5_run_19 : decode cX5_run 19 = .ok (.iconst 0, 1) := by decide +kernel
theorem dX5_run_20 : decode cX5_run 20 = .ok (.istore 7, 2) := by decide +kernel
theorem dX5_run_22 : decode cX5_run 22 = .ok (.iload 7, 2) := by decide +kernel
theorem dX5_run_24 : decode cX5_run 24 = .ok (.iload 5, 2) := by decide +kernel
theorem dX5_run_26 : decode cX5_run 26 = .ok (.if_icmp .ge 97, 3) := by decide +kernel
theorem dX5_run_29 : decode cX5_run 29 = .ok (.iload 6, 2) := by decide +kernel
theorem dX5_run_31 : decode cX5_run 31 = .ok (.bipush 10, 2) := by decide +kernel
theorem dX5_run_33 : decode cX5_run 33 = .ok (.if_icmp .ge 90, 3) := by decide +kernel
theorem dX5_run_36 : decode cX5_run 36 = .ok (.iinc 6 1, 3) := by decide +kernel
theorem dX5_run_39 : decode cX5_run 39 = .ok (.iconst 0, 1) := by decide +kernel
theorem dX5_run_40 : decode cX5_run 40 = .ok (.istore 8, 2) := by decide +kernel
theorem dX5_run_42 : decode cX5_run 42 = .ok (.iload 8, 2) := by decide +kernel
theorem dX5_run_44 : decode cX5_run 44 = .ok (.aload_n 1, 1) := by decide +kernel
theorem dX5_run_45 : decode cX5_run 45 = .ok (.getfield 33, 3) := by decide +kernel
theorem dX5_run_48 : decode cX5_run 48 = .ok (.if_icmp .ge 51, 3) := by decide +kernel
theorem dX5_run_51 : decode cX5_run 51 = .ok (.aload_n 0, 1) := by decide +kernel
theorem dX5_run_52 : decode cX5_run 52 = .ok (.getfield 21, 3) := by decide +kernel
theorem dX5_run_55 : decode cX5_run 55 = .ok (.iload 7, 2) := by decide +kernel
theorem dX5_run_57 : decode cX5_run 57 = .ok (.iload 8, 2) := by decide +kernel
theorem dX5_run_59 : decode cX5_run 59 = .ok (.invokevirtual 76, 3) := by decide +kernel
theorem dX5_run_62 : decode cX5_run 62 = .ok (.aload_n 0, 1) := by decide +kernel
theorem dX5_run_63 : decode cX5_run 63 = .ok (.getfield 15, 3) := by decide +kernel
theorem dX5_run_66 : decode cX5_run 66 = .ok (.iload 8, 2) := by decide +kernel
theorem dX5_run_68 : decode cX5_run 68 = .ok (.iaload, 1) := by decide +kernel
theorem dX5_run_69 : decode cX5_run 69 = .ok (.iconst (-1), 1) := by decide +kernel
theorem dX5_run_70 : decode cX5_run 70 = .ok (.ixor, 1) := by decide +kernel
theorem dX5_run_71 : decode cX5_run 71 = .ok (.iand, 1) := by decide +kernel
theorem dX5_run_72 : decode cX5_run 72 = .ok (.istore 9, 2) := by decide +kernel
theorem dX5_run_74 : decode cX5_run 74 = .ok (.iload 9, 2) := by decide +kernel
theorem dX5_run_76 : decode cX5_run 76 = .ok (.ifCond .eq 17, 3) := by decide +kernel
theorem dX5_run_79 : decode cX5_run 79 = .ok (.iconst 0, 1) := by decide +kernel
theorem dX5_run_80 : decode cX5_run 80 = .ok (.istore 6, 2) := by decide +kernel
theorem dX5_run_82 : decode cX5_run 82 = .ok (.aload_n 0, 1) := by decide +kernel
theorem dX5_run_83 : decode cX5_run 83 = .ok (.aload_n 1, 1) := by decide +kernel
theorem dX5_run_84 : decode cX5_run 84 = .ok (.iload 8, 2) := by decide +kernel
theorem dX5_run_86 : decode cX5_run 86 = .ok (.iload 9, 2) := by decide +kernel
theorem dX5_run_88 : decode cX5_run 88 = .ok (.iload 7, 2) := by decide +kernel
theorem dX5_run_90 : decode cX5_run 90 = .ok (.invokevirtual 79, 3) := by decide +kernel
theorem dX5_run_93 : decode cX5_run 93 = .ok (.iinc 8 1, 3) := by decide +kernel
theorem dX5_run_96 : decode cX5_run 96 = .ok (.goto (-54), 3) := by decide +kernel
theorem dX5_run_99 : decode cX5_run 99 = .ok (.iload_n 3, 1) := by decide +kernel
theorem dX5_run_100 : decode cX5_run 100 = .ok (.bipush (-9), 2) := by decide +kernel
theorem dX5_run_102 : decode cX5_run 102 = .ok (.if_icmp .eq 15, 3) := by decide +kernel
theorem dX5_run_105 : decode cX5_run 105 = .ok (.aload_n 0, 1) := by decide +kernel
theorem dX5_run_106 : decode cX5_run 106 = .ok (.getfield 9, 3) := by decide +kernel
theorem dX5_run_109 : decode cX5_run 109 = .ok (.iload_n 3, 1) := by decide +kernel
theorem dX5_run_110 : decode cX5_run 110 = .ok (.iaload, 1) := by decide +kernel
theorem dX5_run_111 : decode cX5_run 111 = .ok (.bipush (-9), 2) := by decide +kernel
theorem dX5_run_113 : decode cX5_run 113 = .ok (.if_icmp .eq 4, 3) := by decide +kernel
theorem dX5_run_116 : decode cX5_run 116 = .ok (.return_, 1) := by decide +kernel
theorem dX5_run_117 : decode cX5_run 117 = .ok (.iinc 7 1, 3) := by decide +kernel
theorem dX5_run_120 : decode cX5_run 120 = .ok (.goto (-98), 3) := by decide +kernel
theorem dX5_run_123 : decode cX5_run 123 = .ok (.return_, 1) := by decide +kernel
theorem dX5_reset_0 : decode cX5_reset 0 = .ok (.aload_n 0, 1) := by decide +kernel
theorem dX5_reset_1 : decode cX5_reset 1 = .ok (.iload_n 1, 1) := by decide +kernel
theorem dX5_reset_2 : decode cX5_reset 2 = .ok (.putfield 83, 3) := by decide +kernel
theorem dX5_reset_5 : decode cX5_reset 5 = .ok (.aload_n 0, 1) := by decide +kernel
theorem dX5_reset_6 : decode cX5_reset 6 = .ok (.getfield 21, 3) := by decide +kernel
theorem dX5_reset_9 : decode cX5_reset 9 = .ok (.invokevirtual 86, 3) := by decide +kernel
theorem dX5_reset_12 : decode cX5_reset 12 = .ok (.iconst 0, 1) := by decide +kernel
theorem dX5_reset_13 : decode cX5_reset 13 = .ok (.istore_n 2, 1) := by decide +kernel
theorem dX5_reset_14 : decode cX5_reset 14 = .ok (.iload_n 2, 1) := by decide +kernel
theorem dX5_reset_15 : decode cX5_reset 15 = .ok (.bipush 8, 2) := by decide +kernel
theorem dX5_reset_17 : decode cX5_reset 17 = .ok (.if_icmp .ge 24, 3) := by decide +kernel
theorem dX5_reset_20 : decode cX5_reset 20 = .ok (.aload_n 0, 1) := by decide +kernel
theorem dX5_reset_21 : decode cX5_reset 21 = .ok (.getfield 9, 3) := by decide +kernel
theorem dX5_reset_24 : decode cX5_reset 24 = .ok (.iload_n 2, 1) := by decide +kernel
theorem dX5_reset_25 : decode cX5_reset 25 = .ok (.bipush (-9), 2) := by decide +kernel
theorem dX5_reset_27 : decode cX5_reset 27 = .ok (.iastore, 1) := by decide +kernel
theorem dX5_reset_28 : decode cX5_reset 28 = .ok (.aload_n 0, 1) := by decide +kernel
theorem dX5_reset_29 : decode cX5_reset 29 = .ok (.getfield 15, 3) := by decide +kernel
theorem dX5_reset_32 : decode cX5_reset 32 = .ok (.iload_n 2, 1) := by decide +kernel
theorem dX5_reset_33 : decode cX5_reset 33 = .ok (.iconst 0, 1) := by decide +kernel
theorem dX5_reset_34 : decode cX5_reset 34 = .ok (.iastore, 1) := by decide +kernel
theorem dX5_reset_35 : decode cX5_reset 35 = .ok (.iinc 2 1, 3) := by decide +kernel
theorem dX5_reset_38 : decode cX5_reset 38 = .ok (.goto (-24), 3) := by decide +kernel
theorem dX5_reset_41 : decode cX5_reset 41 = .ok (.return_, 1) := by decide +kernel
theorem dX5_settle_0 : decode cX5_settle 0 = .ok (.aload_n 0, 1) := by decide +kernel
theorem dX5_settle_1 : decode cX5_settle 1 = .ok (.getfield 15, 3) := by decide +kernel
theorem dX5_settle_4 : decode cX5_settle 4 = .ok (.iload_n 2, 1) := by decide +kernel
theorem dX5_settle_5 : decode cX5_settle 5 = .ok (.dup2, 1) := by decide +kernel
theorem dX5_settle_6 : decode cX5_settle 6 = .ok (.iaload, 1) := by decide +kernel
theorem dX5_settle_7 : decode cX5_settle 7 = .ok (.iload_n 3, 1) := by decide +kernel
theorem dX5_settle_8 : decode cX5_settle 8 = .ok (.ior, 1) := by decide +kernel
theorem dX5_settle_9 : decode cX5_settle 9 = .ok (.iastore, 1) := by decide +kernel
theorem dX5_settle_10 : decode cX5_settle 10 = .ok (.aload_n 0, 1) := by decide +kernel
theorem dX5_settle_11 : decode cX5_settle 11 = .ok (.getfield 9, 3) := by decide +kernel
theorem dX5_settle_14 : decode cX5_settle 14 = .ok (.iload_n 2, 1) := by decide +kernel
theorem dX5_settle_15 : decode cX5_settle 15 = .ok (.iaload, 1) := by decide +kernel
theorem dX5_settle_16 : decode cX5_settle 16 = .ok (.bipush (-9), 2) := by decide +kernel
theorem dX5_settle_18 : decode cX5_settle 18 = .ok (.if_icmp .ne 22, 3) := by decide +kernel
theorem dX5_settle_21 : decode cX5_settle 21 = .ok (.aload_n 1, 1) := by decide +kernel
theorem dX5_settle_22 : decode cX5_settle 22 = .ok (.getfield 55, 3) := by decide +kernel
theorem dX5_settle_25 : decode cX5_settle 25 = .ok (.iload_n 3, 1) := by decide +kernel
theorem dX5_settle_26 : decode cX5_settle 26 = .ok (.invokevirtual 89, 3) := by decide +kernel
theorem dX5_settle_29 : decode cX5_settle 29 = .ok (.ifCond .eq 11, 3) := by decide +kernel
theorem dX5_settle_32 : decode cX5_settle 32 = .ok (.aload_n 0, 1) := by decide +kernel
theorem dX5_settle_33 : decode cX5_settle 33 = .ok (.getfield 9, 3) := by decide +kernel
theorem dX5_settle_36 : decode cX5_settle 36 = .ok (.iload_n 2, 1) := by decide +kernel
theorem dX5_settle_37 : decode cX5_settle 37 = .ok (.iload 4, 2) := by decide +kernel
theorem dX5_settle_39 : decode cX5_settle 39 = .ok (.iastore, 1) := by decide +kernel
theorem dX5_settle_40 : decode cX5_settle 40 = .ok (.aload_n 1, 1) := by decide +kernel
theorem dX5_settle_41 : decode cX5_settle 41 = .ok (.getfield 55, 3) := by decide +kernel
theorem dX5_settle_44 : decode cX5_settle 44 = .ok (.iload_n 3, 1) := by decide +kernel
theorem dX5_settle_45 : decode cX5_settle 45 = .ok (.invokevirtual 59, 3) := by decide +kernel
theorem dX5_settle_48 : decode cX5_settle 48 = .ok (.istore 5, 2) := by decide +kernel
theorem dX5_settle_50 : decode cX5_settle 50 = .ok (.iconst 0, 1) := by decide +kernel
theorem dX5_settle_51 : decode cX5_settle 51 = .ok (.istore 6, 2) := by decide +kernel
theorem dX5_settle_53 : decode cX5_settle 53 = .ok (.iload 6, 2) := by decide +kernel
theorem dX5_settle_55 : decode cX5_settle 55 = .ok (.aload_n 1, 1) := by decide +kernel
theorem dX5_settle_56 : decode cX5_settle 56 = .ok (.getfield 93, 3) := by decide +kernel
theorem dX5_settle_59 : decode cX5_settle 59 = .ok (.if_icmp .ge 115, 3) := by decide +kernel
theorem dX5_settle_62 : decode cX5_settle 62 = .ok (.aload_n 1, 1) := by decide +kernel
theorem dX5_settle_63 : decode cX5_settle 63 = .ok (.getfield 96, 3) := by decide +kernel
theorem dX5_settle_66 : decode cX5_settle 66 = .ok (.iload 6, 2) := by decide +kernel
theorem dX5_settle_68 : decode cX5_settle 68 = .ok (.iaload, 1) := by decide +kernel
theorem dX5_settle_69 : decode cX5_settle 69 = .ok (.iload_n 2, 1) := by decide +kernel
theorem dX5_settle_70 : decode cX5_settle 70 = .ok (.if_icmp .ne 45, 3) := by decide +kernel
theorem dX5_settle_73 : decode cX5_settle 73 = .ok (.aload_n 0, 1) := by decide +kernel
theorem dX5_settle_74 : decode cX5_settle 74 = .ok (.iload 6, 2) := by decide +kernel
theorem dX5_settle_76 : decode cX5_settle 76 = .ok (.invokevirtual 99, 3) := by decide +kernel
theorem dX5_settle_79 : decode cX5_settle 79 = .ok (.ifCond .ne 36, 3) := by decide +kernel
theorem dX5_settle_82 : decode cX5_settle 82 = .ok (.aload_n 0, 1) := by decide +kernel
theorem dX5_settle_83 : decode cX5_settle 83 = .ok (.getfield 21, 3) := by decide +kernel
theorem dX5_settle_86 : decode cX5_settle 86 = .ok (.iload 4, 2) := by decide +kernel
theorem dX5_settle_88 : decode cX5_settle 88 = .ok (.aload_n 1, 1) := by decide +kernel
theorem dX5_settle_89 : decode cX5_settle 89 = .ok (.getfield 102, 3) := by decide +kernel
theorem dX5_settle_92 : decode cX5_settle 92 = .ok (.iload 6, 2) := by decide +kernel
theorem dX5_settle_94 : decode cX5_settle 94 = .ok (.iaload, 1) := by decide +kernel
theorem dX5_settle_95 : decode cX5_settle 95 = .ok (.iadd, 1) := by decide +kernel
theorem dX5_settle_96 : decode cX5_settle 96 = .ok (.aload_n 1, 1) := by decide +kernel
theorem dX5_settle_97 : decode cX5_settle 97 = .ok (.getfield 105, 3) := by decide +kernel
theorem dX5_settle_100 : decode cX5_settle 100 = .ok (.iload 6, 2) := by decide +kernel
theorem dX5_settle_102 : decode cX5_settle 102 = .ok (.iaload, 1) := by decide +kernel
theorem dX5_settle_103 : decode cX5_settle 103 = .ok (.aload_n 1, 1) := by decide +kernel
theorem dX5_settle_104 : decode cX5_settle 104 = .ok (.iload 5, 2) := by decide +kernel
theorem dX5_settle_106 : decode cX5_settle 106 = .ok (.iload 6, 2) := by decide +kernel
theorem dX5_settle_108 : decode cX5_settle 108 = .ok (.iconst 0, 1) := by decide +kernel
theorem dX5_settle_109 : decode cX5_settle 109 = .ok (.invokevirtual 108, 3) := by decide +kernel
theorem dX5_settle_112 : decode cX5_settle 112 = .ok (.invokevirtual 72, 3) := by decide +kernel
theorem dX5_settle_115 : decode cX5_settle 115 = .ok (.aload_n 1, 1) := by decide +kernel
theorem dX5_settle_116 : decode cX5_settle 116 = .ok (.getfield 105, 3) := by decide +kernel
theorem dX5_settle_119 : decode cX5_settle 119 = .ok (.iload 6, 2) := by decide +kernel
theorem dX5_settle_121 : decode cX5_settle 121 = .ok (.iaload, 1) := by decide +kernel
theorem dX5_settle_122 : decode cX5_settle 122 = .ok (.iload_n 2, 1) := by decide +kernel
theorem dX5_settle_123 : decode cX5_settle 123 = .ok (.if_icmp .ne 45, 3) := by decide +kernel
theorem dX5_settle_126 : decode cX5_settle 126 = .ok (.aload_n 0, 1) := by decide +kernel
theorem dX5_settle_127 : decode cX5_settle 127 = .ok (.iload 6, 2) := by decide +kernel
theorem dX5_settle_129 : decode cX5_settle 129 = .ok (.invokevirtual 99, 3) := by decide +kernel
theorem dX5_settle_132 : decode cX5_settle 132 = .ok (.ifCond .ne 36, 3) := by decide +kernel
theorem dX5_settle_135 : decode cX5_settle 135 = .ok (.aload_n 0, 1) := by decide +kernel
theorem dX5_settle_136 : decode cX5_settle 136 = .ok (.getfield 21, 3) := by decide +kernel
theorem dX5_settle_139 : decode cX5_settle 139 = .ok (.iload 4, 2) := by decide +kernel
theorem dX5_settle_141 : decode cX5_settle 141 = .ok (.aload_n 1, 1) := by decide +kernel
theorem dX5_settle_142 : decode cX5_settle 142 = .ok (.getfield 102, 3) := by decide +kernel
theorem dX5_settle_145 : decode cX5_settle 145 = .ok (.iload 6, 2) := by decide +kernel
theorem dX5_settle_147 : decode cX5_settle 147 = .ok (.iaload, 1) := by decide +kernel
theorem dX5_settle_148 : decode cX5_settle 148 = .ok (.iadd, 1) := by decide +kernel
theorem dX5_settle_149 : decode cX5_settle 149 = .ok (.aload_n 1, 1) := by decide +kernel
theorem dX5_settle_150 : decode cX5_settle 150 = .ok (.getfield 96, 3) := by decide +kernel
theorem dX5_settle_153 : decode cX5_settle 153 = .ok (.iload 6, 2) := by decide +kernel
theorem dX5_settle_155 : decode cX5_settle 155 = .ok (.iaload, 1) := by decide +kernel
theorem dX5_settle_156 : decode cX5_settle 156 = .ok (.aload_n 1, 1) := by decide +kernel
theorem dX5_settle_157 : decode cX5_settle 157 = .ok (.iload 5, 2) := by decide +kernel
theorem dX5_settle_159 : decode cX5_settle 159 = .ok (.iload 6, 2) := by decide +kernel
theorem dX5_settle_161 : decode cX5_settle 161 = .ok (.iconst 1, 1) := by decide +kernel
theorem dX5_settle_162 : decode cX5_settle 162 = .ok (.invokevirtual 108, 3) := by decide +kernel
theorem dX5_settle_165 : decode cX5_settle 165 = .ok (.invokevirtual 72, 3) := by decide +kernel
theorem dX5_settle_168 : decode cX5_settle 168 = .ok (.iinc 6 1, 3) := by decide +kernel
theorem dX5_settle_171 : decode cX5_settle 171 = .ok (.goto (-118), 3) := by decide +kernel
theorem dX5_settle_174 : decode cX5_settle 174 = .ok (.return_, 1) := by decide +kernel
theorem dX5_isBlocked_0 : decode cX5_isBlocked 0 = .ok (.aload_n 0, 1) := by decide +kernel
theorem dX5_isBlocked_1 : decode cX5_isBlocked 1 = .ok (.getfield 83, 3) := by decide +kernel
theorem dX5_isBlocked_4 : decode cX5_isBlocked 4 = .ok (.iload_n 1, 1) := by decide +kernel
theorem dX5_isBlocked_5 : decode cX5_isBlocked 5 = .ok (.ishr, 1) := by decide +kernel
theorem dX5_isBlocked_6 : decode cX5_isBlocked 6 = .ok (.iconst 1, 1) := by decide +kernel
theorem dX5_isBlocked_7 : decode cX5_isBlocked 7 = .ok (.iand, 1) := by decide +kernel
theorem dX5_isBlocked_8 : decode cX5_isBlocked 8 = .ok (.ifCond .eq 7, 3) := by decide +kernel
theorem dX5_isBlocked_11 : decode cX5_isBlocked 11 = .ok (.iconst 1, 1) := by decide +kernel
theorem dX5_isBlocked_12 : decode cX5_isBlocked 12 = .ok (.goto 4, 3) := by decide +kernel
theorem dX5_isBlocked_15 : decode cX5_isBlocked 15 = .ok (.iconst 0, 1) := by decide +kernel
theorem dX5_isBlocked_16 : decode cX5_isBlocked 16 = .ok (.ireturn, 1) := by decide +kernel
theorem dX6_init_0 : decode cX6_init 0 = .ok (.aload_n 0, 1) := by decide +kernel
theorem dX6_init_1 : decode cX6_init 1 = .ok (.invokespecial 3, 3) := by decide +kernel
theorem dX6_init_4 : decode cX6_init 4 = .ok (.aload_n 0, 1) := by decide +kernel
theorem dX6_init_5 : decode cX6_init 5 = .ok (.bipush 25, 2) := by decide +kernel
theorem dX6_init_7 : decode cX6_init 7 = .ok (.newarray .int, 2) := by decide +kernel
theorem dX6_init_9 : decode cX6_init 9 = .ok (.putfield 9, 3) := by decide +kernel
theorem dX6_init_12 : decode cX6_init 12 = .ok (.aload_n 0, 1) := by decide +kernel
theorem dX6_init_13 : decode cX6_init 13 = .ok (.bipush 25, 2) := by decide +kernel
theorem dX6_init_15 : decode cX6_init 15 = .ok (.newarray .int, 2) := by decide +kernel
theorem dX6_init_17 : decode cX6_init 17 = .ok (.putfield 15, 3) := by decide +kernel
theorem dX6_init_20 : decode cX6_init 20 = .ok (.aload_n 0, 1) := by decide +kernel
theorem dX6_init_21 : decode cX6_init 21 = .ok (.bipush 25, 2) := by decide +kernel
theorem dX6_init_23 : decode cX6_init 23 = .ok (.newarray .int, 2) := by decide +kernel
theorem dX6_init_25 : decode cX6_init 25 = .ok (.putfield 18, 3) := by decide +kernel
theorem dX6_init_28 : decode cX6_init 28 = .ok (.aload_n 0, 1) := by decide +kernel
theorem dX6_init_29 : decode cX6_init 29 = .ok (.bipush 25, 2) := by decide +kernel
theorem dX6_init_31 : decode cX6_init 31 = .ok (.newarray .int, 2) := by decide +kernel
theorem dX6_init_33 : decode cX6_init 33 = .ok (.putfield 21, 3) := by decide +kernel
theorem dX6_init_36 : decode cX6_init 36 = .ok (.aload_n 0, 1) := by decide +kernel
theorem dX6_init_37 : decode cX6_init 37 = .ok (.aload_n 1, 1) := by decide +kernel
theorem dX6_init_38 : decode cX6_init 38 = .ok (.putfield 24, 3) := by decide +kernel
theorem dX6_init_41 : decode cX6_init 41 = .ok (.return_, 1) := by decide +kernel
theorem dX6_clear_0 : decode cX6_clear 0 = .ok (.aload_n 0, 1) := by decide +kernel
theorem dX6_clear_1 : decode cX6_clear 1 = .ok (.iconst 0, 1) := by decide +kernel
theorem dX6_clear_2 : decode cX6_clear 2 = .ok (.putfield 28, 3) := by decide +kernel
theorem dX6_clear_5 : decode cX6_clear 5 = .ok (.aload_n 0, 1) := by decide +kernel
theorem dX6_clear_6 : decode cX6_clear 6 = .ok (.iconst 0, 1) := by decide +kernel
theorem dX6_clear_7 : decode cX6_clear 7 = .ok (.putfield 32, 3) := by decide +kernel
theorem dX6_clear_10 : decode cX6_clear 10 = .ok (.aload_n 0, 1) := by decide +kernel
theorem dX6_clear_11 : decode cX6_clear 11 = .ok (.aload_n 1, 1) := by decide +kernel
theorem dX6_clear_12 : decode cX6_clear 12 = .ok (.putfield 24, 3) := by decide +kernel
theorem dX6_clear_15 : decode cX6_clear 15 = .ok (.return_, 1) := by decide +kernel
theorem dX6_copyFrom_0 : decode cX6_copyFrom 0 = .ok (.aload_n 0, 1) := by decide +kernel
theorem dX6_copyFrom_1 : decode cX6_copyFrom 1 = .ok (.aload_n 1, 1) := by decide +kernel
theorem dX6_copyFrom_2 : decode cX6_copyFrom 2 = .ok (.getfield 28, 3) := by decide +kernel
theorem dX6_copyFrom_5 : decode cX6_copyFrom 5 = .ok (.putfield 28, 3) := by decide +kernel
theorem dX6_copyFrom_8 : decode cX6_copyFrom 8 = .ok (.aload_n 0, 1) := by decide +kernel
theorem dX6_copyFrom_9 : decode cX6_copyFrom 9 = .ok (.aload_n 1, 1) := by decide +kernel
theorem dX6_copyFrom_10 : decode cX6_copyFrom 10 = .ok (.getfield 32, 3) := by decide +kernel
theorem dX6_copyFrom_13 : decode cX6_copyFrom 13 = .ok (.putfield 32, 3) := by decide +kernel
theorem dX6_copyFrom_16 : decode cX6_copyFrom 16 = .ok (.iconst 0, 1) := by decide +kernel
theorem dX6_copyFrom_17 : decode cX6_copyFrom 17 = .ok (.istore_n 2, 1) := by decide +kernel
theorem dX6_copyFrom_18 : decode cX6_copyFrom 18 = .ok (.iload_n 2, 1) := by decide +kernel
theorem dX6_copyFrom_19 : decode cX6_copyFrom 19 = .ok (.aload_n 0, 1) := by decide +kernel
theorem dX6_copyFrom_20 : decode cX6_copyFrom 20 = .ok (.getfield 32, 3) := by decide +kernel
theorem dX6_copyFrom_23 : decode cX6_copyFrom 23 = .ok (.if_icmp .ge 57, 3) := by decide +kernel
theorem dX6_copyFrom_26 : decode cX6_copyFrom 26 = .ok (.aload_n 0, 1) := by decide +kernel
theorem dX6_copyFrom_27 : decode cX6_copyFrom 27 = .ok (.getfield 9, 3) := by decide +kernel
theorem dX6_copyFrom_30 : decode cX6_copyFrom 30 = .ok (.iload_n 2, 1) := by decide +kernel
theorem dX6_copyFrom_31 : decode cX6_copyFrom 31 = .ok (.aload_n 1, 1) := by decide +kernel
theorem dX6_copyFrom_32 : decode cX6_copyFrom 32 = .ok (.getfield 9, 3) := by decide +kernel
theorem dX6_copyFrom_35 : decode cX6_copyFrom 35 = .ok (.iload_n 2, 1) := by decide +kernel
theorem dX6_copyFrom_36 : decode cX6_copyFrom 36 = .ok (.iaload, 1) := by decide +kernel
theorem dX6_copyFrom_37 : decode cX6_copyFrom 37 = .ok (.iastore, 1) := by decide +kernel
theorem dX6_copyFrom_38 : decode cX6_copyFrom 38 = .ok (.aload_n 0, 1) := by decide +kernel
theorem dX6_copyFrom_39 : decode cX6_copyFrom 39 = .ok (.getfield 15, 3) := by decide +kernel
theorem dX6_copyFrom_42 : decode cX6_copyFrom 42 = .ok (.iload_n 2, 1) := by decide +kernel
theorem dX6_copyFrom_43 : decode cX6_copyFrom 43 = .ok (.aload_n 1, 1) := by decide +kernel
theorem dX6_copyFrom_44 : decode cX6_copyFrom 44 = .ok (.getfield 15, 3) := by decide +kernel
theorem dX6_copyFrom_47 : decode cX6_copyFrom 47 = .ok (.iload_n 2, 1) := by decide +kernel
theorem dX6_copyFrom_48 : decode cX6_copyFrom 48 = .ok (.iaload, 1) := by decide +kernel
theorem dX6_copyFrom_49 : decode cX6_copyFrom 49 = .ok (.iastore, 1) := by decide +kernel
theorem dX6_copyFrom_50 : decode cX6_copyFrom 50 = .ok (.aload_n 0, 1) := by decide +kernel
theorem dX6_copyFrom_51 : decode cX6_copyFrom 51 = .ok (.getfield 18, 3) := by decide +kernel
theorem dX6_copyFrom_54 : decode cX6_copyFrom 54 = .ok (.iload_n 2, 1) := by decide +kernel
theorem dX6_copyFrom_55 : decode cX6_copyFrom 55 = .ok (.aload_n 1, 1) := by decide +kernel
theorem dX6_copyFrom_56 : decode cX6_copyFrom 56 = .ok (.getfield 18, 3) := by decide +kernel
theorem dX6_copyFrom_59 : decode cX6_copyFrom 59 = .ok (.iload_n 2, 1) := by decide +kernel
theorem dX6_copyFrom_60 : decode cX6_copyFrom 60 = .ok (.iaload, 1) := by decide +kernel
theorem dX6_copyFrom_61 : decode cX6_copyFrom 61 = .ok (.iastore, 1) := by decide +kernel
theorem dX6_copyFrom_62 : decode cX6_copyFrom 62 = .ok (.aload_n 0, 1) := by decide +kernel
theorem dX6_copyFrom_63 : decode cX6_copyFrom 63 = .ok (.getfield 21, 3) := by decide +kernel
theorem dX6_copyFrom_66 : decode cX6_copyFrom 66 = .ok (.iload_n 2, 1) := by decide +kernel
theorem dX6_copyFrom_67 : decode cX6_copyFrom 67 = .ok (.aload_n 1, 1) := by decide +kernel
theorem dX6_copyFrom_68 : decode cX6_copyFrom 68 = .ok (.getfield 21, 3) := by decide +kernel
theorem dX6_copyFrom_71 : decode cX6_copyFrom 71 = .ok (.iload_n 2, 1) := by decide +kernel
theorem dX6_copyFrom_72 : decode cX6_copyFrom 72 = .ok (.iaload, 1) := by decide +kernel
theorem dX6_copyFrom_73 : decode cX6_copyFrom 73 = .ok (.iastore, 1) := by decide +kernel
theorem dX6_copyFrom_74 : decode cX6_copyFrom 74 = .ok (.iinc 2 1, 3) := by decide +kernel
theorem dX6_copyFrom_77 : decode cX6_copyFrom 77 = .ok (.goto (-59), 3) := by decide +kernel
theorem dX6_copyFrom_80 : decode cX6_copyFrom 80 = .ok (.aload_n 0, 1) := by decide +kernel
theorem dX6_copyFrom_81 : decode cX6_copyFrom 81 = .ok (.aload_n 1, 1) := by decide +kernel
theorem dX6_copyFrom_82 : decode cX6_copyFrom 82 = .ok (.getfield 24, 3) := by decide +kernel
theorem dX6_copyFrom_85 : decode cX6_copyFrom 85 = .ok (.putfield 24, 3) := by decide +kernel
theorem dX6_copyFrom_88 : decode cX6_copyFrom 88 = .ok (.return_, 1) := by decide +kernel
theorem dX6_hasPerson_0 : decode cX6_hasPerson 0 = .ok (.iload_n 1, 1) := by decide +kernel
theorem dX6_hasPerson_1 : decode cX6_hasPerson 1 = .ok (.ifCond .lt 15, 3) := by decide +kernel
theorem dX6_hasPerson_4 : decode cX6_hasPerson 4 = .ok (.iload_n 1, 1) := by decide +kernel
theorem dX6_hasPerson_5 : decode cX6_hasPerson 5 = .ok (.aload_n 0, 1) := by decide +kernel
theorem dX6_hasPerson_6 : decode cX6_hasPerson 6 = .ok (.getfield 28, 3) := by decide +kernel
theorem dX6_hasPerson_9 : decode cX6_hasPerson 9 = .ok (.if_icmp .ge 7, 3) := by decide +kernel
theorem dX6_hasPerson_12 : decode cX6_hasPerson 12 = .ok (.iconst 1, 1) := by decide +kernel
theorem dX6_hasPerson_13 : decode cX6_hasPerson 13 = .ok (.goto 4, 3) := by decide +kernel
theorem dX6_hasPerson_16 : decode cX6_hasPerson 16 = .ok (.iconst 0, 1) := by decide +kernel
theorem dX6_hasPerson_17 : decode cX6_hasPerson 17 = .ok (.ireturn, 1) := by decide +kernel
theorem dX6_hasPeople_0 : decode cX6_hasPeople 0 = .ok (.aload_n 0, 1) := by decide +kernel
theorem dX6_hasPeople_1 : decode cX6_hasPeople 1 = .ok (.iload_n 1, 1) := by decide +kernel
theorem dX6_hasPeople_2 : decode cX6_hasPeople 2 = .ok (.invokevirtual 35, 3) := by decide +kernel
theorem dX6_hasPeople_5 : decode cX6_hasPeople 5 = .ok (.ifCond .eq 15, 3) := by decide +kernel
theorem dX6_hasPeople_8 : decode cX6_hasPeople 8 = .ok (.aload_n 0, 1) := by decide +kernel
theorem dX6_hasPeople_9 : decode cX6_hasPeople 9 = .ok (.iload_n 2, 1) := by decide +kernel
theorem dX6_hasPeople_10 : decode cX6_hasPeople 10 = .ok (.invokevirtual 35, 3) := by decide +kernel
theorem dX6_hasPeople_13 : decode cX6_hasPeople 13 = .ok (.ifCond .eq 7, 3) := by decide +kernel
theorem dX6_hasPeople_16 : decode cX6_hasPeople 16 = .ok (.iconst 1, 1) := by decide +kernel
theorem dX6_hasPeople_17 : decode cX6_hasPeople 17 = .ok (.goto 4, 3) := by decide +kernel
theorem dX6_hasPeople_20 : decode cX6_hasPeople 20 = .ok (.iconst 0, 1) := by decide +kernel
theorem dX6_hasPeople_21 : decode cX6_hasPeople 21 = .ok (.ireturn, 1) := by decide +kernel
theorem dX6_hasStep_0 : decode cX6_hasStep 0 = .ok (.iload_n 1, 1) := by decide +kernel
theorem dX6_hasStep_1 : decode cX6_hasStep 1 = .ok (.ifCond .lt 15, 3) := by decide +kernel
theorem dX6_hasStep_4 : decode cX6_hasStep 4 = .ok (.iload_n 1, 1) := by decide +kernel
theorem dX6_hasStep_5 : decode cX6_hasStep 5 = .ok (.aload_n 0, 1) := by decide +kernel
theorem dX6_hasStep_6 : decode cX6_hasStep 6 = .ok (.getfield 32, 3) := by decide +kernel
theorem dX6_hasStep_9 : decode cX6_hasStep 9 = .ok (.if_icmp .ge 7, 3) := by decide +kernel
theorem dX6_hasStep_12 : decode cX6_hasStep 12 = .ok (.iconst 1, 1) := by decide +kernel
theorem dX6_hasStep_13 : decode cX6_hasStep 13 = .ok (.goto 4, 3) := by decide +kernel
theorem dX6_hasStep_16 : decode cX6_hasStep 16 = .ok (.iconst 0, 1) := by decide +kernel
theorem dX6_hasStep_17 : decode cX6_hasStep 17 = .ok (.ireturn, 1) := by decide +kernel
theorem dX6_faultOfAdding_0 : decode cX6_faultOfAdding 0 = .ok (.aload_n 0, 1) := by decide +kernel
theorem dX6_faultOfAdding_1 : decode cX6_faultOfAdding 1 = .ok (.iload_n 1, 1) := by decide +kernel
theorem dX6_faultOfAdding_2 : decode cX6_faultOfAdding 2 = .ok (.iload_n 3, 1) := by decide +kernel
theorem dX6_faultOfAdding_3 : decode cX6_faultOfAdding 3 = .ok (.invokevirtual 39, 3) := by decide +kernel
theorem dX6_faultOfAdding_6 : decode cX6_faultOfAdding 6 = .ok (.ifCond .ne 5, 3) := by decide +kernel
theorem dX6_faultOfAdding_9 : decode cX6_faultOfAdding 9 = .ok (.iconst 1, 1) := by decide +kernel
theorem dX6_faultOfAdding_10 : decode cX6_faultOfAdding 10 = .ok (.ireturn, 1) := by decide +kernel
theorem dX6_faultOfAdding_11 : decode cX6_faultOfAdding 11 = .ok (.iload_n 1, 1) := by decide +kernel
theorem dX6_faultOfAdding_12 : decode cX6_faultOfAdding 12 = .ok (.iload_n 3, 1) := by decide +kernel
theorem dX6_faultOfAdding_13 : decode cX6_faultOfAdding 13 = .ok (.if_icmp .eq 18, 3) := by decide +kernel
theorem dX6_faultOfAdding_16 : decode cX6_faultOfAdding 16 = .ok (.iload_n 2, 1) := by decide +kernel
theorem dX6_faultOfAdding_17 : decode cX6_faultOfAdding 17 = .ok (.invokestatic 43, 3) := by decide +kernel
theorem dX6_faultOfAdding_20 : decode cX6_faultOfAdding 20 = .ok (.ifCond .eq 11, 3) := by decide +kernel
theorem dX6_faultOfAdding_23 : decode cX6_faultOfAdding 23 = .ok (.iload 4, 2) := by decide +kernel
theorem dX6_faultOfAdding_25 : decode cX6_faultOfAdding 25 = .ok (.invokestatic 46, 3) := by decide +kernel
theorem dX6_faultOfAdding_28 : decode cX6_faultOfAdding 28 = .ok (.ifCond .ne 5, 3) := by decide +kernel
theorem dX6_faultOfAdding_31 : decode cX6_faultOfAdding 31 = .ok (.iconst 2, 1) := by decide +kernel
theorem dX6_faultOfAdding_32 : decode cX6_faultOfAdding 32 = .ok (.ireturn, 1) := by decide +kernel
theorem dX6_faultOfAdding_33 : decode cX6_faultOfAdding 33 = .ok (.aload_n 0, 1) := by decide +kernel
theorem dX6_faultOfAdding_34 : decode cX6_faultOfAdding 34 = .ok (.iload_n 1, 1) := by decide +kernel
theorem dX6_faultOfAdding_35 : decode cX6_faultOfAdding 35 = .ok (.iload_n 2, 1) := by decide +kernel
theorem dX6_faultOfAdding_36 : decode cX6_faultOfAdding 36 = .ok (.iload_n 3, 1) := by decide +kernel
theorem dX6_faultOfAdding_37 : decode cX6_faultOfAdding 37 = .ok (.invokevirtual 49, 3) := by decide +kernel
theorem dX6_faultOfAdding_40 : decode cX6_faultOfAdding 40 = .ok (.bipush (-9), 2) := by decide +kernel
theorem dX6_faultOfAdding_42 : decode cX6_faultOfAdding 42 = .ok (.if_icmp .ne 12, 3) := by decide +kernel
theorem dX6_faultOfAdding_45 : decode cX6_faultOfAdding 45 = .ok (.aload_n 0, 1) := by decide +kernel
theorem dX6_faultOfAdding_46 : decode cX6_faultOfAdding 46 = .ok (.getfield 32, 3) := by decide +kernel
theorem dX6_faultOfAdding_49 : decode cX6_faultOfAdding 49 = .ok (.bipush 24, 2) := by decide +kernel
theorem dX6_faultOfAdding_51 : decode cX6_faultOfAdding 51 = .ok (.if_icmp .lt 7, 3) := by decide +kernel
theorem dX6_faultOfAdding_54 : decode cX6_faultOfAdding 54 = .ok (.iconst 3, 1) := by decide +kernel
theorem dX6_faultOfAdding_55 : decode cX6_faultOfAdding 55 = .ok (.goto 4, 3) := by decide +kernel
theorem dX6_faultOfAdding_58 : decode cX6_faultOfAdding 58 = .ok (.iconst 0, 1) := by decide +kernel
theorem dX6_faultOfAdding_59 : decode cX6_faultOfAdding 59 = .ok (.ireturn, 1) := by decide +kernel
theorem dX6_faultOfCosting_0 : decode cX6_faultOfCosting 0 = .ok (.aload_n 0, 1) := by decide +kernel
theorem dX6_faultOfCosting_1 : decode cX6_faultOfCosting 1 = .ok (.iload_n 1, 1) := by decide +kernel
theorem dX6_faultOfCosting_2 : decode cX6_faultOfCosting 2 = .ok (.invokevirtual 53, 3) := by decide +kernel
theorem dX6_faultOfCosting_5 : decode cX6_faultOfCosting 5 = .ok (.ifCond .ne 5, 3) := by decide +kernel
theorem dX6_faultOfCosting_8 : decode cX6_faultOfCosting 8 = .ok (.iconst 1, 1) := by decide +kernel
theorem dX6_faultOfCosting_9 : decode cX6_faultOfCosting 9 = .ok (.ireturn, 1) := by decide +kernel
theorem dX6_faultOfCosting_10 : decode cX6_faultOfCosting 10 = .ok (.iload_n 2, 1) := by decide +kernel
theorem dX6_faultOfCosting_11 : decode cX6_faultOfCosting 11 = .ok (.invokestatic 46, 3) := by decide +kernel
theorem dX6_faultOfCosting_14 : decode cX6_faultOfCosting 14 = .ok (.ifCond .eq 7, 3) := by decide +kernel
theorem dX6_faultOfCosting_17 : decode cX6_faultOfCosting 17 = .ok (.iconst 0, 1) := by decide +kernel
theorem dX6_faultOfCosting_18 : decode cX6_faultOfCosting 18 = .ok (.goto 4, 3) := by decide +kernel
theorem dX6_faultOfCosting_21 : decode cX6_faultOfCosting 21 = .ok (.iconst 2, 1) := by decide +kernel
theorem dX6_faultOfCosting_22 : decode cX6_faultOfCosting 22 = .ok (.ireturn, 1) := by decide +kernel
theorem dX6_faultOfReversing_0 : decode cX6_faultOfReversing 0 = .ok (.aload_n 0, 1) := by decide +kernel
theorem dX6_faultOfReversing_1 : decode cX6_faultOfReversing 1 = .ok (.iload_n 1, 1) := by decide +kernel
theorem dX6_faultOfReversing_2 : decode cX6_faultOfReversing 2 = .ok (.invokevirtual 53, 3) := by decide +kernel
theorem dX6_faultOfReversing_5 : decode cX6_faultOfReversing 5 = .ok (.ifCond .ne 5, 3) := by decide +kernel
theorem dX6_faultOfReversing_8 : decode cX6_faultOfReversing 8 = .ok (.iconst 1, 1) := by decide +kernel
theorem dX6_faultOfReversing_9 : decode cX6_faultOfReversing 9 = .ok (.ireturn, 1) := by decide +kernel
theorem dX6_faultOfReversing_10 : decode cX6_faultOfReversing 10 = .ok (.aload_n 0, 1) := by decide +kernel
theorem dX6_faultOfReversing_11 : decode cX6_faultOfReversing 11 = .ok (.aload_n 0, 1) := by decide +kernel
theorem dX6_faultOfReversing_12 : decode cX6_faultOfReversing 12 = .ok (.getfield 18, 3) := by decide +kernel
theorem dX6_faultOfReversing_15 : decode cX6_faultOfReversing 15 = .ok (.iload_n 1, 1) := by decide +kernel
theorem dX6_faultOfReversing_16 : decode cX6_faultOfReversing 16 = .ok (.iaload, 1) := by decide +kernel
theorem dX6_faultOfReversing_17 : decode cX6_faultOfReversing 17 = .ok (.aload_n 0, 1) := by decide +kernel
theorem dX6_faultOfReversing_18 : decode cX6_faultOfReversing 18 = .ok (.getfield 15, 3) := by decide +kernel
theorem dX6_faultOfReversing_21 : decode cX6_faultOfReversing 21 = .ok (.iload_n 1, 1) := by decide +kernel
theorem dX6_faultOfReversing_22 : decode cX6_faultOfReversing 22 = .ok (.iaload, 1) := by decide +kernel
theorem dX6_faultOfReversing_23 : decode cX6_faultOfReversing 23 = .ok (.aload_n 0, 1) := by decide +kernel
theorem dX6_faultOfReversing_24 : decode cX6_faultOfReversing 24 = .ok (.getfield 9, 3) := by decide +kernel
theorem dX6_faultOfReversing_27 : decode cX6_faultOfReversing 27 = .ok (.iload_n 1, 1) := by decide +kernel
theorem dX6_faultOfReversing_28 : decode cX6_faultOfReversing 28 = .ok (.iaload, 1) := by decide +kernel
theorem dX6_faultOfReversing_29 : decode cX6_faultOfReversing 29 = .ok (.invokevirtual 49, 3) := by decide +kernel
theorem dX6_faultOfReversing_32 : decode cX6_faultOfReversing 32 = .ok (.bipush (-9), 2) := by decide +kernel
theorem dX6_faultOfReversing_34 : decode cX6_faultOfReversing 34 = .ok (.if_icmp .ne 7, 3) := by decide +kernel
theorem dX6_faultOfReversing_37 : decode cX6_faultOfReversing 37 = .ok (.iconst 0, 1) := by decide +kernel
theorem dX6_faultOfReversing_38 : decode cX6_faultOfReversing 38 = .ok (.goto 4, 3) := by decide +kernel
theorem dX6_faultOfReversing_41 : decode cX6_faultOfReversing 41 = .ok (.iconst 3, 1) := by decide +kernel
theorem dX6_faultOfReversing_42 : decode cX6_faultOfReversing 42 = .ok (.ireturn, 1) := by decide +kernel
theorem dX6_indexOf_0 : decode cX6_indexOf 0 = .ok (.iconst 0, 1) := by decide +kernel
theorem dX6_indexOf_1 : decode cX6_indexOf 1 = .ok (.istore 4, 2) := by decide +kernel
theorem dX6_indexOf_3 : decode cX6_indexOf 3 = .ok (.iload 4, 2) := by decide +kernel
theorem dX6_indexOf_5 : decode cX6_indexOf 5 = .ok (.aload_n 0, 1) := by decide +kernel
theorem dX6_indexOf_6 : decode cX6_indexOf 6 = .ok (.getfield 32, 3) := by decide +kernel
theorem dX6_indexOf_9 : decode cX6_indexOf 9 = .ok (.if_icmp .ge 45, 3) := by decide +kernel
theorem dX6_indexOf_12 : decode cX6_indexOf 12 = .ok (.aload_n 0, 1) := by decide +kernel
theorem dX6_indexOf_13 : decode cX6_indexOf 13 = .ok (.getfield 9, 3) := by decide +kernel
theorem dX6_indexOf_16 : decode cX6_indexOf 16 = .ok (.iload 4, 2) := by decide +kernel
theorem dX6_indexOf_18 : decode cX6_indexOf 18 = .ok (.iaload, 1) := by decide +kernel
theorem dX6_indexOf_19 : decode cX6_indexOf 19 = .ok (.iload_n 1, 1) := by decide +kernel
theorem dX6_indexOf_20 : decode cX6_indexOf 20 = .ok (.if_icmp .ne 28, 3) := by decide +kernel
theorem dX6_indexOf_23 : decode cX6_indexOf 23 = .ok (.aload_n 0, 1) := by decide +kernel
theorem dX6_indexOf_24 : decode cX6_indexOf 24 = .ok (.getfield 15, 3) := by decide +kernel
theorem dX6_indexOf_27 : decode cX6_indexOf 27 = .ok (.iload 4, 2) := by decide +kernel
theorem dX6_indexOf_29 : decode cX6_indexOf 29 = .ok (.iaload, 1) := by decide +kernel
theorem dX6_indexOf_30 : decode cX6_indexOf 30 = .ok (.iload_n 2, 1) := by decide +kernel
theorem dX6_indexOf_31 : decode cX6_indexOf 31 = .ok (.if_icmp .ne 17, 3) := by decide +kernel
theorem dX6_indexOf_34 : decode cX6_indexOf 34 = .ok (.aload_n 0, 1) := by decide +kernel
theorem dX6_indexOf_35 : decode cX6_indexOf 35 = .ok (.getfield 18, 3) := by decide +kernel
theorem dX6_indexOf_38 : decode cX6_indexOf 38 = .ok (.iload 4, 2) := by decide +kernel
theorem dX6_indexOf_40 : decode cX6_indexOf 40 = .ok (.iaload, 1) := by decide +kernel
theorem dX6_indexOf_41 : decode cX6_indexOf 41 = .ok (.iload_n 3, 1) := by decide +kernel
theorem dX6_indexOf_42 : decode cX6_indexOf 42 = .ok (.if_icmp .ne 6, 3) := by decide +kernel
theorem dX6_indexOf_45 : decode cX6_indexOf 45 = .ok (.iload 4, 2) := by decide +kernel
theorem dX6_indexOf_47 : decode cX6_indexOf 47 = .ok (.ireturn, 1) := by decide +kernel
theorem dX6_indexOf_48 : decode cX6_indexOf 48 = .ok (.iinc 4 1, 3) := by decide +kernel
theorem dX6_indexOf_51 : decode cX6_indexOf 51 = .ok (.goto (-48), 3) := by decide +kernel
theorem dX6_indexOf_54 : decode cX6_indexOf 54 = .ok (.bipush (-9), 2) := by decide +kernel
theorem dX6_indexOf_56 : decode cX6_indexOf 56 = .ok (.ireturn, 1) := by decide +kernel
theorem dX6_countOf_0 : decode cX6_countOf 0 = .ok (.iconst 0, 1) := by decide +kernel
theorem dX6_countOf_1 : decode cX6_countOf 1 = .ok (.istore_n 3, 1) := by decide +kernel
theorem dX6_countOf_2 : decode cX6_countOf 2 = .ok (.iconst 0, 1) := by decide +kernel
theorem dX6_countOf_3 : decode cX6_countOf 3 = .ok (.istore 4, 2) := by decide +kernel
theorem dX6_countOf_5 : decode cX6_countOf 5 = .ok (.iload 4, 2) := by decide +kernel
theorem dX6_countOf_7 : decode cX6_countOf 7 = .ok (.aload_n 0, 1) := by decide +kernel
theorem dX6_countOf_8 : decode cX6_countOf 8 = .ok (.getfield 32, 3) := by decide +kernel
theorem dX6_countOf_11 : decode cX6_countOf 11 = .ok (.if_icmp .ge 20, 3) := by decide +kernel
theorem dX6_countOf_14 : decode cX6_countOf 14 = .ok (.aload_n 1, 1) := by decide +kernel
theorem dX6_countOf_15 : decode cX6_countOf 15 = .ok (.iload 4, 2) := by decide +kernel
theorem dX6_countOf_17 : decode cX6_countOf 17 = .ok (.iaload, 1) := by decide +kernel
theorem dX6_countOf_18 : decode cX6_countOf 18 = .ok (.iload_n 2, 1) := by decide +kernel
theorem dX6_countOf_19 : decode cX6_countOf 19 = .ok (.if_icmp .ne 6, 3) := by decide +kernel
theorem dX6_countOf_22 : decode cX6_countOf 22 = .ok (.iinc 3 1, 3) := by decide +kernel
theorem dX6_countOf_25 : decode cX6_countOf 25 = .ok (.iinc 4 1, 3) := by decide +kernel
theorem dX6_countOf_28 : decode cX6_countOf 28 = .ok (.goto (-23), 3) := by decide +kernel
theorem dX6_countOf_31 : decode cX6_countOf 31 = .ok (.iload_n 3, 1) := by decide +kernel
theorem dX6_countOf_32 : decode cX6_countOf 32 = .ok (.ireturn, 1) := by decide +kernel
theorem dX6_costSum_0 : decode cX6_costSum 0 = .ok (.iconst 0, 1) := by decide +kernel
theorem dX6_costSum_1 : decode cX6_costSum 1 = .ok (.istore_n 1, 1) := by decide +kernel
theorem dX6_costSum_2 : decode cX6_costSum 2 = .ok (.iconst 0, 1) := by decide +kernel
theorem dX6_costSum_3 : decode cX6_costSum 3 = .ok (.istore_n 2, 1) := by decide +kernel
theorem dX6_costSum_4 : decode cX6_costSum 4 = .ok (.iload_n 2, 1) := by decide +kernel
theorem dX6_costSum_5 : decode cX6_costSum 5 = .ok (.aload_n 0, 1) := by decide +kernel
theorem dX6_costSum_6 : decode cX6_costSum 6 = .ok (.getfield 32, 3) := by decide +kernel
theorem dX6_costSum_9 : decode cX6_costSum 9 = .ok (.if_icmp .ge 18, 3) := by decide +kernel
theorem dX6_costSum_12 : decode cX6_costSum 12 = .ok (.iload_n 1, 1) := by decide +kernel
theorem dX6_costSum_13 : decode cX6_costSum 13 = .ok (.aload_n 0, 1) := by decide +kernel
theorem dX6_costSum_14 : decode cX6_costSum 14 = .ok (.getfield 21, 3) := by decide +kernel
theorem dX6_costSum_17 : decode cX6_costSum 17 = .ok (.iload_n 2, 1) := by decide +kernel
theorem dX6_costSum_18 : decode cX6_costSum 18 = .ok (.iaload, 1) := by decide +kernel
theorem dX6_costSum_19 : decode cX6_costSum 19 = .ok (.iadd, 1) := by decide +kernel
theorem dX6_costSum_20 : decode cX6_costSum 20 = .ok (.istore_n 1, 1) := by decide +kernel
theorem dX6_costSum_21 : decode cX6_costSum 21 = .ok (.iinc 2 1, 3) := by decide +kernel
theorem dX6_costSum_24 : decode cX6_costSum 24 = .ok (.goto (-20), 3) := by decide +kernel
theorem dX6_costSum_27 : decode cX6_costSum 27 = .ok (.iload_n 1, 1) := by decide +kernel
theorem dX6_costSum_28 : decode cX6_costSum 28 = .ok (.ireturn, 1) := by decide +kernel
theorem dX6_put_0 : decode cX6_put 0 = .ok (.aload_n 0, 1) := by decide +kernel
theorem dX6_put_1 : decode cX6_put 1 = .ok (.getfield 32, 3) := by decide +kernel
theorem dX6_put_4 : decode cX6_put 4 = .ok (.bipush 24, 2) := by decide +kernel
theorem dX6_put_6 : decode cX6_put 6 = .ok (.if_icmp .le 6, 3) := by decide +kernel
theorem dX6_put_9 : decode cX6_put 9 = .ok (.bipush (-9), 2) := by decide +kernel
theorem dX6_put_11 : decode cX6_put 11 = .ok (.ireturn, 1) := by decide +kernel
theorem dX6_put_12 : decode cX6_put 12 = .ok (.aload_n 0, 1) := by decide +kernel
theorem dX6_put_13 : decode cX6_put 13 = .ok (.getfield 9, 3) := by decide +kernel
theorem dX6_put_16 : decode cX6_put 16 = .ok (.aload_n 0, 1) := by decide +kernel
theorem dX6_put_17 : decode cX6_put 17 = .ok (.getfield 32, 3) := by decide +kernel
theorem dX6_put_20 : decode cX6_put 20 = .ok (.iload_n 1, 1) := by decide +kernel
theorem dX6_put_21 : decode cX6_put 21 = .ok (.iastore, 1) := by decide +kernel
theorem dX6_put_22 : decode cX6_put 22 = .ok (.aload_n 0, 1) := by decide +kernel
theorem dX6_put_23 : decode cX6_put 23 = .ok (.getfield 15, 3) := by decide +kernel
theorem dX6_put_26 : decode cX6_put 26 = .ok (.aload_n 0, 1) := by decide +kernel
theorem dX6_put_27 : decode cX6_put 27 = .ok (.getfield 32, 3) := by decide +kernel
theorem dX6_put_30 : decode cX6_put 30 = .ok (.iload_n 2, 1) := by decide +kernel
theorem dX6_put_31 : decode cX6_put 31 = .ok (.iastore, 1) := by decide +kernel
theorem dX6_put_32 : decode cX6_put 32 = .ok (.aload_n 0, 1) := by decide +kernel
theorem dX6_put_33 : decode cX6_put 33 = .ok (.getfield 18, 3) := by decide +kernel
theorem dX6_put_36 : decode cX6_put 36 = .ok (.aload_n 0, 1) := by decide +kernel
theorem dX6_put_37 : decode cX6_put 37 = .ok (.getfield 32, 3) := by decide +kernel
theorem dX6_put_40 : decode cX6_put 40 = .ok (.iload_n 3, 1) := by decide +kernel
theorem dX6_put_41 : decode cX6_put 41 = .ok (.iastore, 1) := by decide +kernel
theorem dX6_put_42 : decode cX6_put 42 = .ok (.aload_n 0, 1) := by decide +kernel
theorem dX6_put_43 : decode cX6_put 43 = .ok (.getfield 21, 3) := by decide +kernel
theorem dX6_put_46 : decode cX6_put 46 = .ok (.aload_n 0, 1) := by decide +kernel
theorem dX6_put_47 : decode cX6_put 47 = .ok (.getfield 32, 3) := by decide +kernel
theorem dX6_put_50 : decode cX6_put 50 = .ok (.iload 4, 2) := by decide +kernel
theorem dX6_put_52 : decode cX6_put 52 = .ok (.iastore, 1) := by decide +kernel
theorem dX6_put_53 : decode cX6_put 53 = .ok (.aload_n 0, 1) := by decide +kernel
theorem dX6_put_54 : decode cX6_put 54 = .ok (.dup, 1) := by decide +kernel
theorem dX6_put_55 : decode cX6_put 55 = .ok (.getfield 32, 3) := by decide +kernel
theorem dX6_put_58 : decode cX6_put 58 = .ok (.iconst 1, 1) := by decide +kernel
theorem dX6_put_59 : decode cX6_put 59 = .ok (.iadd, 1) := by decide +kernel
theorem dX6_put_60 : decode cX6_put 60 = .ok (.putfield 32, 3) := by decide +kernel
theorem dX6_put_63 : decode cX6_put 63 = .ok (.aload_n 0, 1) := by decide +kernel
theorem dX6_put_64 : decode cX6_put 64 = .ok (.getfield 32, 3) := by decide +kernel
theorem dX6_put_67 : decode cX6_put 67 = .ok (.iconst 1, 1) := by decide +kernel
theorem dX6_put_68 : decode cX6_put 68 = .ok (.isub, 1) := by decide +kernel
theorem dX6_put_69 : decode cX6_put 69 = .ok (.ireturn, 1) := by decide +kernel
theorem dX6_drop_0 : decode cX6_drop 0 = .ok (.iload_n 1, 1) := by decide +kernel
theorem dX6_drop_1 : decode cX6_drop 1 = .ok (.iconst 1, 1) := by decide +kernel
theorem dX6_drop_2 : decode cX6_drop 2 = .ok (.iadd, 1) := by decide +kernel
theorem dX6_drop_3 : decode cX6_drop 3 = .ok (.istore_n 2, 1) := by decide +kernel
theorem dX6_drop_4 : decode cX6_drop 4 = .ok (.iload_n 2, 1) := by decide +kernel
theorem dX6_drop_5 : decode cX6_drop 5 = .ok (.aload_n 0, 1) := by decide +kernel
theorem dX6_drop_6 : decode cX6_drop 6 = .ok (.getfield 32, 3) := by decide +kernel
theorem dX6_drop_9 : decode cX6_drop 9 = .ok (.if_icmp .ge 65, 3) := by decide +kernel
theorem dX6_drop_12 : decode cX6_drop 12 = .ok (.aload_n 0, 1) := by decide +kernel
theorem dX6_drop_13 : decode cX6_drop 13 = .ok (.getfield 9, 3) := by decide +kernel
theorem dX6_drop_16 : decode cX6_drop 16 = .ok (.iload_n 2, 1) := by decide +kernel
theorem dX6_drop_17 : decode cX6_drop 17 = .ok (.iconst 1, 1) := by decide +kernel
theorem dX6_drop_18 : decode cX6_drop 18 = .ok (.isub, 1) := by decide +kernel
theorem dX6_drop_19 : decode cX6_drop 19 = .ok (.aload_n 0, 1) := by decide +kernel
theorem dX6_drop_20 : decode cX6_drop 20 = .ok (.getfield 9, 3) := by decide +kernel
theorem dX6_drop_23 : decode cX6_drop 23 = .ok (.iload_n 2, 1) := by decide +kernel
theorem dX6_drop_24 : decode cX6_drop 24 = .ok (.iaload, 1) := by decide +kernel
theorem dX6_drop_25 : decode cX6_drop 25 = .ok (.iastore, 1) := by decide +kernel
theorem dX6_drop_26 : decode cX6_drop 26 = .ok (.aload_n 0, 1) := by decide +kernel
theorem dX6_drop_27 : decode cX6_drop 27 = .ok (.getfield 15, 3) := by decide +kernel
theorem dX6_drop_30 : decode cX6_drop 30 = .ok (.iload_n 2, 1) := by decide +kernel
theorem dX6_drop_31 : decode cX6_drop 31 = .ok (.iconst 1, 1) := by decide +kernel
theorem dX6_drop_32 : decode cX6_drop 32 = .ok (.isub, 1) := by decide +kernel
theorem dX6_drop_33 : decode cX6_drop 33 = .ok (.aload_n 0, 1) := by decide +kernel
theorem dX6_drop_34 : decode cX6_drop 34 = .ok (.getfield 15, 3) := by decide +kernel
theorem dX6_drop_37 : decode cX6_drop 37 = .ok (.iload_n 2, 1) := by decide +kernel
theorem dX6_drop_38 : decode cX6_drop 38 = .ok (.iaload, 1) := by decide +kernel
theorem dX6_drop_39 : decode cX6_drop 39 = .ok (.iastore, 1) := by decide +kernel
theorem dX6_drop_40 : decode cX6_drop 40 = .ok (.aload_n 0, 1) := by decide +kernel
theorem dX6_drop_41 : decode cX6_drop 41 = .ok (.getfield 18, 3) := by decide +kernel
theorem dX6_drop_44 : decode cX6_drop 44 = .ok (.iload_n 2, 1) := by decide +kernel
theorem dX6_drop_45 : decode cX6_drop 45 = .ok (.iconst 1, 1) := by decide +kernel
theorem dX6_drop_46 : decode cX6_drop 46 = .ok (.isub, 1) := by decide +kernel
theorem dX6_drop_47 : decode cX6_drop 47 = .ok (.aload_n 0, 1) := by decide +kernel
theorem dX6_drop_48 : decode cX6_drop 48 = .ok (.getfield 18, 3) := by decide +kernel
theorem dX6_drop_51 : decode cX6_drop 51 = .ok (.iload_n 2, 1) := by decide +kernel
theorem dX6_drop_52 : decode cX6_drop 52 = .ok (.iaload, 1) := by decide +kernel
theorem dX6_drop_53 : decode cX6_drop 53 = .ok (.iastore, 1) := by decide +kernel
theorem dX6_drop_54 : decode cX6_drop 54 = .ok (.aload_n 0, 1) := by decide +kernel
theorem dX6_drop_55 : decode cX6_drop 55 = .ok (.getfield 21, 3) := by decide +kernel
theorem dX6_drop_58 : decode cX6_drop 58 = .ok (.iload_n 2, 1) := by decide +kernel
theorem dX6_drop_59 : decode cX6_drop 59 = .ok (.iconst 1, 1) := by decide +kernel
theorem dX6_drop_60 : decode cX6_drop 60 = .ok (.isub, 1) := by decide +kernel
theorem dX6_drop_61 : decode cX6_drop 61 = .ok (.aload_n 0, 1) := by decide +kernel
theorem dX6_drop_62 : decode cX6_drop 62 = .ok (.getfield 21, 3) := by decide +kernel
theorem dX6_drop_65 : decode cX6_drop 65 = .ok (.iload_n 2, 1) := by decide +kernel
theorem dX6_drop_66 : decode cX6_drop 66 = .ok (.iaload, 1) := by decide +kernel
theorem dX6_drop_67 : decode cX6_drop 67 = .ok (.iastore, 1) := by decide +kernel
theorem dX6_drop_68 : decode cX6_drop 68 = .ok (.iinc 2 1, 3) := by decide +kernel
theorem dX6_drop_71 : decode cX6_drop 71 = .ok (.goto (-67), 3) := by decide +kernel
theorem dX6_drop_74 : decode cX6_drop 74 = .ok (.aload_n 0, 1) := by decide +kernel
theorem dX6_drop_75 : decode cX6_drop 75 = .ok (.dup, 1) := by decide +kernel
theorem dX6_drop_76 : decode cX6_drop 76 = .ok (.getfield 32, 3) := by decide +kernel
theorem dX6_drop_79 : decode cX6_drop 79 = .ok (.iconst 1, 1) := by decide +kernel
theorem dX6_drop_80 : decode cX6_drop 80 = .ok (.isub, 1) := by decide +kernel
theorem dX6_drop_81 : decode cX6_drop 81 = .ok (.putfield 32, 3) := by decide +kernel
theorem dX6_drop_84 : decode cX6_drop 84 = .ok (.return_, 1) := by decide +kernel
theorem dX6_reverse_0 : decode cX6_reverse 0 = .ok (.aload_n 0, 1) := by decide +kernel
theorem dX6_reverse_1 : decode cX6_reverse 1 = .ok (.getfield 9, 3) := by decide +kernel
theorem dX6_reverse_4 : decode cX6_reverse 4 = .ok (.iload_n 1, 1) := by decide +kernel
theorem dX6_reverse_5 : decode cX6_reverse 5 = .ok (.iaload, 1) := by decide +kernel
theorem dX6_reverse_6 : decode cX6_reverse 6 = .ok (.istore_n 2, 1) := by decide +kernel
theorem dX6_reverse_7 : decode cX6_reverse 7 = .ok (.aload_n 0, 1) := by decide +kernel
theorem dX6_reverse_8 : decode cX6_reverse 8 = .ok (.getfield 9, 3) := by decide +kernel
theorem dX6_reverse_11 : decode cX6_reverse 11 = .ok (.iload_n 1, 1) := by decide +kernel
theorem dX6_reverse_12 : decode cX6_reverse 12 = .ok (.aload_n 0, 1) := by decide +kernel
theorem dX6_reverse_13 : decode cX6_reverse 13 = .ok (.getfield 18, 3) := by decide +kernel
theorem dX6_reverse_16 : decode cX6_reverse 16 = .ok (.iload_n 1, 1) := by decide +kernel
theorem dX6_reverse_17 : decode cX6_reverse 17 = .ok (.iaload, 1) := by decide +kernel
theorem dX6_reverse_18 : decode cX6_reverse 18 = .ok (.iastore, 1) := by decide +kernel
theorem dX6_reverse_19 : decode cX6_reverse 19 = .ok (.aload_n 0, 1) := by decide +kernel
theorem dX6_reverse_20 : decode cX6_reverse 20 = .ok (.getfield 18, 3) := by decide +kernel
theorem dX6_reverse_23 : decode cX6_reverse 23 = .ok (.iload_n 1, 1) := by decide +kernel
theorem dX6_reverse_24 : decode cX6_reverse 24 = .ok (.iload_n 2, 1) := by decide +kernel
theorem dX6_reverse_25 : decode cX6_reverse 25 = .ok (.iastore, 1) := by decide +kernel
theorem dX6_reverse_26 : decode cX6_reverse 26 = .ok (.return_, 1) := by decide +kernel
theorem dX6_swapKinds_0 : decode cX6_swapKinds 0 = .ok (.iconst 0, 1) := by decide +kernel
theorem dX6_swapKinds_1 : decode cX6_swapKinds 1 = .ok (.istore_n 3, 1) := by decide +kernel
theorem dX6_swapKinds_2 : decode cX6_swapKinds 2 = .ok (.iconst 0, 1) := by decide +kernel
theorem dX6_swapKinds_3 : decode cX6_swapKinds 3 = .ok (.istore 4, 2) := by decide +kernel
theorem dX6_swapKinds_5 : decode cX6_swapKinds 5 = .ok (.iload 4, 2) := by decide +kernel
theorem dX6_swapKinds_7 : decode cX6_swapKinds 7 = .ok (.aload_n 0, 1) := by decide +kernel
theorem dX6_swapKinds_8 : decode cX6_swapKinds 8 = .ok (.getfield 32, 3) := by decide +kernel
theorem dX6_swapKinds_11 : decode cX6_swapKinds 11 = .ok (.if_icmp .ge 62, 3) := by decide +kernel
theorem dX6_swapKinds_14 : decode cX6_swapKinds 14 = .ok (.iload_n 1, 1) := by decide +kernel
theorem dX6_swapKinds_15 : decode cX6_swapKinds 15 = .ok (.iload_n 2, 1) := by decide +kernel
theorem dX6_swapKinds_16 : decode cX6_swapKinds 16 = .ok (.if_icmp .eq 51, 3) := by decide +kernel
theorem dX6_swapKinds_19 : decode cX6_swapKinds 19 = .ok (.aload_n 0, 1) := by decide +kernel
theorem dX6_swapKinds_20 : decode cX6_swapKinds 20 = .ok (.getfield 15, 3) := by decide +kernel
theorem dX6_swapKinds_23 : decode cX6_swapKinds 23 = .ok (.iload 4, 2) := by decide +kernel
theorem dX6_swapKinds_25 : decode cX6_swapKinds 25 = .ok (.iaload, 1) := by decide +kernel
theorem dX6_swapKinds_26 : decode cX6_swapKinds 26 = .ok (.iload_n 1, 1) := by decide +kernel
theorem dX6_swapKinds_27 : decode cX6_swapKinds 27 = .ok (.if_icmp .eq 14, 3) := by decide +kernel
theorem dX6_swapKinds_30 : decode cX6_swapKinds 30 = .ok (.aload_n 0, 1) := by decide +kernel
theorem dX6_swapKinds_31 : decode cX6_swapKinds 31 = .ok (.getfield 15, 3) := by decide +kernel
theorem dX6_swapKinds_34 : decode cX6_swapKinds 34 = .ok (.iload 4, 2) := by decide +kernel
theorem dX6_swapKinds_36 : decode cX6_swapKinds 36 = .ok (.iaload, 1) := by decide +kernel
theorem dX6_swapKinds_37 : decode cX6_swapKinds 37 = .ok (.iload_n 2, 1) := by decide +kernel
theorem dX6_swapKinds_38 : decode cX6_swapKinds 38 = .ok (.if_icmp .ne 29, 3) := by decide +kernel
theorem dX6_swapKinds_41 : decode cX6_swapKinds 41 = .ok (.aload_n 0, 1) := by decide +kernel
theorem dX6_swapKinds_42 : decode cX6_swapKinds 42 = .ok (.getfield 15, 3) := by decide +kernel
theorem dX6_swapKinds_45 : decode cX6_swapKinds 45 = .ok (.iload 4, 2) := by decide +kernel
theorem dX6_swapKinds_47 : decode cX6_swapKinds 47 = .ok (.aload_n 0, 1) := by decide +kernel
theorem dX6_swapKinds_48 : decode cX6_swapKinds 48 = .ok (.getfield 15, 3) := by decide +kernel
theorem dX6_swapKinds_51 : decode cX6_swapKinds 51 = .ok (.iload 4, 2) := by decide +kernel
theorem dX6_swapKinds_53 : decode cX6_swapKinds 53 = .ok (.iaload, 1) := by decide +kernel
theorem dX6_swapKinds_54 : decode cX6_swapKinds 54 = .ok (.iload_n 1, 1) := by decide +kernel
theorem dX6_swapKinds_55 : decode cX6_swapKinds 55 = .ok (.if_icmp .ne 7, 3) := by decide +kernel
theorem dX6_swapKinds_58 : decode cX6_swapKinds 58 = .ok (.iload_n 2, 1) := by decide +kernel
theorem dX6_swapKinds_59 : decode cX6_swapKinds 59 = .ok (.goto 4, 3) := by decide +kernel
theorem dX6_swapKinds_62 : decode cX6_swapKinds 62 = .ok (.iload_n 1, 1) := by decide +kernel
theorem dX6_swapKinds_63 : decode cX6_swapKinds 63 = .ok (.iastore, 1) := by decide +kernel
theorem dX6_swapKinds_64 : decode cX6_swapKinds 64 = .ok (.iinc 3 1, 3) := by decide +kernel
theorem dX6_swapKinds_67 : decode cX6_swapKinds 67 = .ok (.iinc 4 1, 3) := by decide +kernel
theorem dX6_swapKinds_70 : decode cX6_swapKinds 70 = .ok (.goto (-65), 3) := by decide +kernel
theorem dX6_swapKinds_73 : decode cX6_swapKinds 73 = .ok (.iload_n 3, 1) := by decide +kernel
theorem dX6_swapKinds_74 : decode cX6_swapKinds 74 = .ok (.ireturn, 1) := by decide +kernel
theorem dX6_beginOf_0 : decode cX6_beginOf 0 = .ok (.iload_n 2, 1) := by decide +kernel
theorem dX6_beginOf_1 : decode cX6_beginOf 1 = .ok (.ifCond .ne 12, 3) := by decide +kernel
theorem dX6_beginOf_4 : decode cX6_beginOf 4 = .ok (.aload_n 0, 1) := by decide +kernel
theorem dX6_beginOf_5 : decode cX6_beginOf 5 = .ok (.getfield 9, 3) := by decide +kernel
theorem dX6_beginOf_8 : decode cX6_beginOf 8 = .ok (.iload_n 1, 1) := by decide +kernel
theorem dX6_beginOf_9 : decode cX6_beginOf 9 = .ok (.iaload, 1) := by decide +kernel
theorem dX6_beginOf_10 : decode cX6_beginOf 10 = .ok (.goto 9, 3) := by decide +kernel
theorem dX6_beginOf_13 : decode cX6_beginOf 13 = .ok (.aload_n 0, 1) := by decide +kernel
theorem dX6_beginOf_14 : decode cX6_beginOf 14 = .ok (.getfield 18, 3) := by decide +kernel
theorem dX6_beginOf_17 : decode cX6_beginOf 17 = .ok (.iload_n 1, 1) := by decide +kernel
theorem dX6_beginOf_18 : decode cX6_beginOf 18 = .ok (.iaload, 1) := by decide +kernel
theorem dX6_beginOf_19 : decode cX6_beginOf 19 = .ok (.ireturn, 1) := by decide +kernel
theorem dX6_endOf_0 : decode cX6_endOf 0 = .ok (.iload_n 2, 1) := by decide +kernel
theorem dX6_endOf_1 : decode cX6_endOf 1 = .ok (.ifCond .ne 12, 3) := by decide +kernel
theorem dX6_endOf_4 : decode cX6_endOf 4 = .ok (.aload_n 0, 1) := by decide +kernel
theorem dX6_endOf_5 : decode cX6_endOf 5 = .ok (.getfield 18, 3) := by decide +kernel
theorem dX6_endOf_8 : decode cX6_endOf 8 = .ok (.iload_n 1, 1) := by decide +kernel
theorem dX6_endOf_9 : decode cX6_endOf 9 = .ok (.iaload, 1) := by decide +kernel
theorem dX6_endOf_10 : decode cX6_endOf 10 = .ok (.goto 9, 3) := by decide +kernel
theorem dX6_endOf_13 : decode cX6_endOf 13 = .ok (.aload_n 0, 1) := by decide +kernel
theorem dX6_endOf_14 : decode cX6_endOf 14 = .ok (.getfield 9, 3) := by decide +kernel
theorem dX6_endOf_17 : decode cX6_endOf 17 = .ok (.iload_n 1, 1) := by decide +kernel
theorem dX6_endOf_18 : decode cX6_endOf 18 = .ok (.iaload, 1) := by decide +kernel
theorem dX6_endOf_19 : decode cX6_endOf 19 = .ok (.ireturn, 1) := by decide +kernel
theorem dX6_enter_0 : decode cX6_enter 0 = .ok (.iload_n 1, 1) := by decide +kernel
theorem dX6_enter_1 : decode cX6_enter 1 = .ok (.aload_n 0, 1) := by decide +kernel
theorem dX6_enter_2 : decode cX6_enter 2 = .ok (.getfield 24, 3) := by decide +kernel
theorem dX6_enter_5 : decode cX6_enter 5 = .ok (.getfield 56, 3) := by decide +kernel
theorem dX6_enter_8 : decode cX6_enter 8 = .ok (.iload_n 3, 1) := by decide +kernel
theorem dX6_enter_9 : decode cX6_enter 9 = .ok (.iconst 4, 1) := by decide +kernel
theorem dX6_enter_10 : decode cX6_enter 10 = .ok (.imul, 1) := by decide +kernel
theorem dX6_enter_11 : decode cX6_enter 11 = .ok (.aload_n 0, 1) := by decide +kernel
theorem dX6_enter_12 : decode cX6_enter 12 = .ok (.getfield 15, 3) := by decide +kernel
theorem dX6_enter_15 : decode cX6_enter 15 = .ok (.iload_n 2, 1) := by decide +kernel
theorem dX6_enter_16 : decode cX6_enter 16 = .ok (.iaload, 1) := by decide +kernel
theorem dX6_enter_17 : decode cX6_enter 17 = .ok (.iadd, 1) := by decide +kernel
theorem dX6_enter_18 : decode cX6_enter 18 = .ok (.iaload, 1) := by decide +kernel
theorem dX6_enter_19 : decode cX6_enter 19 = .ok (.iand, 1) := by decide +kernel
theorem dX6_enter_20 : decode cX6_enter 20 = .ok (.ireturn, 1) := by decide +kernel
theorem dX7_init_0 : decode cX7_init 0 = .ok (.aload_n 0, 1) := by decide +kernel
theorem dX7_init_1 : decode cX7_init 1 = .ok (.invokespecial 3, 3) := by decide +kernel
theorem dX7_init_4 : decode cX7_init 4 = .ok (.aload_n 0, 1) := by decide +kernel
theorem dX7_init_5 : decode cX7_init 5 = .ok (.bipush 110, 2) := by decide +kernel
theorem dX7_init_7 : decode cX7_init 7 = .ok (.newarray .char, 2) := by decide +kernel
theorem dX7_init_9 : decode cX7_init 9 = .ok (.putfield 9, 3) := by decide +kernel
theorem dX7_init_12 : decode cX7_init 12 = .ok (.return_, 1) := by decide +kernel
theorem dX7_patternError_0 : decode cX7_patternError 0 = .ok (.iconst 0, 1) := by decide +kernel
theorem dX7_patternError_1 : decode cX7_patternError 1 = .ok (.istore_n 1, 1) := by decide +kernel
theorem dX7_patternError_2 : decode cX7_patternError 2 = .ok (.iconst 0, 1) := by decide +kernel
theorem dX7_patternError_3 : decode cX7_patternError 3 = .ok (.istore_n 2, 1) := by decide +kernel
theorem dX7_patternError_4 : decode cX7_patternError 4 = .ok (.iconst 0, 1) := by decide +kernel
theorem dX7_patternError_5 : decode cX7_patternError 5 = .ok (.istore_n 3, 1) := by decide +kernel
theorem dX7_patternError_6 : decode cX7_patternError 6 = .ok (.iconst 0, 1) := by decide +kernel
theorem dX7_patternError_7 : decode cX7_patternError 7 = .ok (.istore 4, 2) := by decide +kernel
theorem dX7_patternError_9 : decode cX7_patternError 9 = .ok (.iload 4, 2) := by decide +kernel
theorem dX7_patternError_11 : decode cX7_patternError 11 = .ok (.aload_n 0, 1) := by decide +kernel
theorem dX7_patternError_12 : decode cX7_patternError 12 = .ok (.getfield 15, 3) := by decide +kernel
theorem dX7_patternError_15 : decode cX7_patternError 15 = .ok (.if_icmp .ge 162, 3) := by decide +kernel
theorem dX7_patternError_18 : decode cX7_patternError 18 = .ok (.aload_n 0, 1) := by decide +kernel
theorem dX7_patternError_19 : decode cX7_patternError 19 = .ok (.getfield 9, 3) := by decide +kernel
theorem dX7_patternError_22 : decode cX7_patternError 22 = .ok (.iload 4, 2) := by decide +kernel
theorem dX7_patternError_24 : decode cX7_patternError 24 = .ok (.caload, 1) := by decide +kernel
theorem dX7_patternError_25 : decode cX7_patternError 25 = .ok (.istore 5, 2) := by decide +kernel
theorem dX7_patternError_27 : decode cX7_patternError 27 = .ok (.iload 5, 2) := by decide +kernel
theorem dX7_patternError_29 : decode cX7_patternError 29 = .ok (.invokestatic 19, 3) := by decide +kernel
theorem dX7_patternError_32 : decode cX7_patternError 32 = .ok (.istore 6, 2) := by decide +kernel
theorem dX7_patternError_34 : decode cX7_patternError 34 = .ok (.iload 6, 2) := by decide +kernel
theorem dX7_patternError_36 : decode cX7_patternError 36 = .ok (.ifCond .eq 9, 3) := by decide +kernel
theorem dX7_patternError_39 : decode cX7_patternError 39 = .ok (.iload_n 1, 1) := by decide +kernel
theorem dX7_patternError_40 : decode cX7_patternError 40 = .ok (.bipush 20, 2) := by decide +kernel
theorem dX7_patternError_42 : decode cX7_patternError 42 = .ok (.if_icmp .lt 46, 3) := by decide +kernel
theorem dX7_patternError_45 : decode cX7_patternError 45 = .ok (.iload 5, 2) := by decide +kernel
theorem dX7_patternError_47 : decode cX7_patternError 47 = .ok (.bipush 40, 2) := by decide +kernel
theorem dX7_patternError_49 : decode cX7_patternError 49 = .ok (.if_icmp .ne 9, 3) := by decide +kernel
theorem dX7_patternError_52 : decode cX7_patternError 52 = .ok (.iload_n 2, 1) := by decide +kernel
theorem dX7_patternError_53 : decode cX7_patternError 53 = .ok (.bipush 9, 2) := by decide +kernel
theorem dX7_patternError_55 : decode cX7_patternError 55 = .ok (.if_icmp .lt 33, 3) := by decide +kernel
theorem dX7_patternError_58 : decode cX7_patternError 58 = .ok (.iload 5, 2) := by decide +kernel
theorem dX7_patternError_60 : decode cX7_patternError 60 = .ok (.bipush 41, 2) := by decide +kernel
theorem dX7_patternError_62 : decode cX7_patternError 62 = .ok (.if_icmp .ne 7, 3) := by decide +kernel
theorem dX7_patternError_65 : decode cX7_patternError 65 = .ok (.iload_n 2, 1) := by decide +kernel
theorem dX7_patternError_66 : decode cX7_patternError 66 = .ok (.ifCond .gt 22, 3) := by decide +kernel
theorem dX7_patternError_69 : decode cX7_patternError 69 = .ok (.iload 5, 2) := by decide +kernel
theorem dX7_patternError_71 : decode cX7_patternError 71 = .ok (.bipush 124, 2) := by decide +kernel
theorem dX7_patternError_73 : decode cX7_patternError 73 = .ok (.if_icmp .eq 15, 3) := by decide +kernel
theorem dX7_patternError_76 : decode cX7_patternError 76 = .ok (.iload 5, 2) := by decide +kernel
theorem dX7_patternError_78 : decode cX7_patternError 78 = .ok (.invokestatic 25, 3) := by decide +kernel
theorem dX7_patternError_81 : decode cX7_patternError 81 = .ok (.ifCond .eq 11, 3) := by decide +kernel
theorem dX7_patternError_84 : decode cX7_patternError 84 = .ok (.iload_n 3, 1) := by decide +kernel
theorem dX7_patternError_85 : decode cX7_patternError 85 = .ok (.ifCond .eq 7, 3) := by decide +kernel
theorem dX7_patternError_88 : decode cX7_patternError 88 = .ok (.iconst 1, 1) := by decide +kernel
theorem dX7_patternError_89 : decode cX7_patternError 89 = .ok (.goto 4, 3) := by decide +kernel
theorem dX7_patternError_92 : decode cX7_patternError 92 = .ok (.iconst 0, 1) := by decide +kernel
theorem dX7_patternError_93 : decode cX7_patternError 93 = .ok (.istore 7, 2) := by decide +kernel
theorem dX7_patternError_95 : decode cX7_patternError 95 = .ok (.iload 7, 2) := by decide +kernel
theorem dX7_patternError_97 : decode cX7_patternError 97 = .ok (.ifCond .eq 10, 3) := by decide +kernel
theorem dX7_patternError_100 : decode cX7_patternError 100 = .ok (.iload 4, 2) := by decide +kernel
theorem dX7_patternError_102 : decode cX7_patternError 102 = .ok (.bipush 40, 2) := by decide +kernel
theorem dX7_patternError_104 : decode cX7_patternError 104 = .ok (.if_icmp .lt 6, 3) := by decide +kernel
theorem dX7_patternError_107 : decode cX7_patternError 107 = .ok (.iload 4, 2) := by decide +kernel
theorem dX7_patternError_109 : decode cX7_patternError 109 = .ok (.ireturn, 1) := by decide +kernel
theorem dX7_patternError_110 : decode cX7_patternError 110 = .ok (.iload_n 1, 1) := by decide +kernel
theorem dX7_patternError_111 : decode cX7_patternError 111 = .ok (.iload 6, 2) := by decide +kernel
theorem dX7_patternError_113 : decode cX7_patternError 113 = .ok (.ifCond .eq 7, 3) := by decide +kernel
theorem dX7_patternError_116 : decode cX7_patternError 116 = .ok (.iconst 1, 1) := by decide +kernel
theorem dX7_patternError_117 : decode cX7_patternError 117 = .ok (.goto 4, 3) := by decide +kernel
theorem dX7_patternError_120 : decode cX7_patternError 120 = .ok (.iconst 0, 1) := by decide +kernel
theorem dX7_patternError_121 : decode cX7_patternError 121 = .ok (.iadd, 1) := by decide +kernel
theorem dX7_patternError_122 : decode cX7_patternError 122 = .ok (.istore_n 1, 1) := by decide +kernel
theorem dX7_patternError_123 : decode cX7_patternError 123 = .ok (.iload_n 2, 1) := by decide +kernel
theorem dX7_patternError_124 : decode cX7_patternError 124 = .ok (.iload 5, 2) := by decide +kernel
theorem dX7_patternError_126 : decode cX7_patternError 126 = .ok (.bipush 40, 2) := by decide +kernel
theorem dX7_patternError_128 : decode cX7_patternError 128 = .ok (.if_icmp .ne 7, 3) := by decide +kernel
theorem dX7_patternError_131 : decode cX7_patternError 131 = .ok (.iconst 1, 1) := by decide +kernel
theorem dX7_patternError_132 : decode cX7_patternError 132 = .ok (.goto 4, 3) := by decide +kernel
theorem dX7_patternError_135 : decode cX7_patternError 135 = .ok (.iconst 0, 1) := by decide +kernel
theorem dX7_patternError_136 : decode cX7_patternError 136 = .ok (.iadd, 1) := by decide +kernel
theorem dX7_patternError_137 : decode cX7_patternError 137 = .ok (.istore_n 2, 1) := by decide +kernel
theorem dX7_patternError_138 : decode cX7_patternError 138 = .ok (.iload_n 2, 1) := by decide +kernel
theorem dX7_patternError_139 : decode cX7_patternError 139 = .ok (.iload 5, 2) := by decide +kernel
theorem dX7_patternError_141 : decode cX7_patternError 141 = .ok (.bipush 41, 2) := by decide +kernel
theorem dX7_patternError_143 : decode cX7_patternError 143 = .ok (.if_icmp .ne 7, 3) := by decide +kernel
theorem dX7_patternError_146 : decode cX7_patternError 146 = .ok (.iconst 1, 1) := by decide +kernel
theorem dX7_patternError_147 : decode cX7_patternError 147 = .ok (.goto 4, 3) := by decide +kernel
theorem dX7_patternError_150 : decode cX7_patternError 150 = .ok (.iconst 0, 1) := by decide +kernel
theorem dX7_patternError_151 : decode cX7_patternError 151 = .ok (.isub, 1) := by decide +kernel
theorem dX7_patternError_152 : decode cX7_patternError 152 = .ok (.istore_n 2, 1) := by decide +kernel
theorem dX7_patternError_153 : decode cX7_patternError 153 = .ok (.iload 6, 2) := by decide +kernel
theorem dX7_patternError_155 : decode cX7_patternError 155 = .ok (.ifCond .ne 10, 3) := by decide +kernel
theorem dX7_patternError_158 : decode cX7_patternError 158 = .ok (.iload 5, 2) := by decide +kernel
theorem dX7_patternError_160 : decode cX7_patternError 160 = .ok (.bipush 41, 2) := by decide +kernel
theorem dX7_patternError_162 : decode cX7_patternError 162 = .ok (.if_icmp .ne 7, 3) := by decide +kernel
theorem dX7_patternError_165 : decode cX7_patternError 165 = .ok (.iconst 1, 1) := by decide +kernel
theorem dX7_patternError_166 : decode cX7_patternError 166 = .ok (.goto 4, 3) := by decide +kernel
theorem dX7_patternError_169 : decode cX7_patternError 169 = .ok (.iconst 0, 1) := by decide +kernel
theorem dX7_patternError_170 : decode cX7_patternError 170 = .ok (.istore_n 3, 1) := by decide +kernel
theorem dX7_patternError_171 : decode cX7_patternError 171 = .ok (.iinc 4 1, 3) := by decide +kernel
theorem dX7_patternError_174 : decode cX7_patternError 174 = .ok (.goto (-165), 3) := by decide +kernel
theorem dX7_patternError_177 : decode cX7_patternError 177 = .ok (.iload_n 2, 1) := by decide +kernel
theorem dX7_patternError_178 : decode cX7_patternError 178 = .ok (.ifCond .le 10, 3) := by decide +kernel
theorem dX7_patternError_181 : decode cX7_patternError 181 = .ok (.aload_n 0, 1) := by decide +kernel
theorem dX7_patternError_182 : decode cX7_patternError 182 = .ok (.getfield 15, 3) := by decide +kernel
theorem dX7_patternError_185 : decode cX7_patternError 185 = .ok (.goto 5, 3) := by decide +kernel
theorem dX7_patternError_188 : decode cX7_patternError 188 = .ok (.bipush (-9), 2) := by decide +kernel
theorem dX7_patternError_190 : decode cX7_patternError 190 = .ok (.ireturn, 1) := by decide +kernel
theorem dX7_readGraph_0 : decode cX7_readGraph 0 = .ok (.aload_n 1, 1) := by decide +kernel
theorem dX7_readGraph_1 : decode cX7_readGraph 1 = .ok (.aload_n 2, 1) := by decide +kernel
theorem dX7_readGraph_2 : decode cX7_readGraph 2 = .ok (.invokevirtual 28, 3) := by decide +kernel
theorem dX7_readGraph_5 : decode cX7_readGraph 5 = .ok (.iconst 0, 1) := by decide +kernel
theorem dX7_readGraph_6 : decode cX7_readGraph 6 = .ok (.istore_n 3, 1) := by decide +kernel
theorem dX7_readGraph_7 : decode cX7_readGraph 7 = .ok (.iload_n 3, 1) := by decide +kernel
theorem dX7_readGraph_8 : decode cX7_readGraph 8 = .ok (.aload_n 0, 1) := by decide +kernel
theorem dX7_readGraph_9 : decode cX7_readGraph 9 = .ok (.getfield 15, 3) := by decide +kernel
theorem dX7_readGraph_12 : decode cX7_readGraph 12 = .ok (.if_icmp .ge 20, 3) := by decide +kernel
theorem dX7_readGraph_15 : decode cX7_readGraph 15 = .ok (.aload_n 0, 1) := by decide +kernel
theorem dX7_readGraph_16 : decode cX7_readGraph 16 = .ok (.aload_n 1, 1) := by decide +kernel
theorem dX7_readGraph_17 : decode cX7_readGraph 17 = .ok (.iload_n 3, 1) := by decide +kernel
theorem dX7_readGraph_18 : decode cX7_readGraph 18 = .ok (.invokevirtual 34, 3) := by decide +kernel
theorem dX7_readGraph_21 : decode cX7_readGraph 21 = .ok (.ifCond .ne 5, 3) := by decide +kernel
theorem dX7_readGraph_24 : decode cX7_readGraph 24 = .ok (.iload_n 3, 1) := by decide +kernel
theorem dX7_readGraph_25 : decode cX7_readGraph 25 = .ok (.ireturn, 1) := by decide +kernel
theorem dX7_readGraph_26 : decode cX7_readGraph 26 = .ok (.iinc 3 1, 3) := by decide +kernel
theorem dX7_readGraph_29 : decode cX7_readGraph 29 = .ok (.goto (-22), 3) := by decide +kernel
theorem dX7_readGraph_32 : decode cX7_readGraph 32 = .ok (.aload_n 0, 1) := by decide +kernel
theorem dX7_readGraph_33 : decode cX7_readGraph 33 = .ok (.getfield 15, 3) := by decide +kernel
theorem dX7_readGraph_36 : decode cX7_readGraph 36 = .ok (.iconst 2, 1) := by decide +kernel
theorem dX7_readGraph_37 : decode cX7_readGraph 37 = .ok (.if_icmp .lt 14, 3) := by decide +kernel
theorem dX7_readGraph_40 : decode cX7_readGraph 40 = .ok (.aload_n 0, 1) := by decide +kernel
theorem dX7_readGraph_41 : decode cX7_readGraph 41 = .ok (.getfield 15, 3) := by decide +kernel
theorem dX7_readGraph_44 : decode cX7_readGraph 44 = .ok (.iconst 2, 1) := by decide +kernel
theorem dX7_readGraph_45 : decode cX7_readGraph 45 = .ok (.isub, 1) := by decide +kernel
theorem dX7_readGraph_46 : decode cX7_readGraph 46 = .ok (.iconst 4, 1) := by decide +kernel
theorem dX7_readGraph_47 : decode cX7_readGraph 47 = .ok (.irem, 1) := by decide +kernel
theorem dX7_readGraph_48 : decode cX7_readGraph 48 = .ok (.ifCond .eq 10, 3) := by decide +kernel
theorem dX7_readGraph_51 : decode cX7_readGraph 51 = .ok (.aload_n 0, 1) := by decide +kernel
theorem dX7_readGraph_52 : decode cX7_readGraph 52 = .ok (.getfield 15, 3) := by decide +kernel
theorem dX7_readGraph_55 : decode cX7_readGraph 55 = .ok (.goto 5, 3) := by decide +kernel
theorem dX7_readGraph_58 : decode cX7_readGraph 58 = .ok (.bipush (-9), 2) := by decide +kernel
theorem dX7_readGraph_60 : decode cX7_readGraph 60 = .ok (.ireturn, 1) := by decide +kernel
theorem dX7_readCharacter_0 : decode cX7_readCharacter 0 = .ok (.aload_n 0, 1) := by decide +kernel
theorem dX7_readCharacter_1 : decode cX7_readCharacter 1 = .ok (.getfield 9, 3) := by decide +kernel
theorem dX7_readCharacter_4 : decode cX7_readCharacter 4 = .ok (.iload_n 2, 1) := by decide +kernel
theorem dX7_readCharacter_5 : decode cX7_readCharacter 5 = .ok (.caload, 1) := by decide +kernel
theorem dX7_readCharacter_6 : decode cX7_readCharacter 6 = .ok (.istore_n 3, 1) := by decide +kernel
theorem dX7_readCharacter_7 : decode cX7_readCharacter 7 = .ok (.iload_n 2, 1) := by decide +kernel
theorem dX7_readCharacter_8 : decode cX7_readCharacter 8 = .ok (.ifCond .ne 15, 3) := by decide +kernel
theorem dX7_readCharacter_11 : decode cX7_readCharacter 11 = .ok (.iload_n 3, 1) := by decide +kernel
theorem dX7_readCharacter_12 : decode cX7_readCharacter 12 = .ok (.bipush 75, 2) := by decide +kernel
theorem dX7_readCharacter_14 : decode cX7_readCharacter 14 = .ok (.if_icmp .ne 7, 3) := by decide +kernel
theorem dX7_readCharacter_17 : decode cX7_readCharacter 17 = .ok (.iconst 1, 1) := by decide +kernel
theorem dX7_readCharacter_18 : decode cX7_readCharacter 18 = .ok (.goto 4, 3) := by decide +kernel
theorem dX7_readCharacter_21 : decode cX7_readCharacter 21 = .ok (.iconst 0, 1) := by decide +kernel
theorem dX7_readCharacter_22 : decode cX7_readCharacter 22 = .ok (.ireturn, 1) := by decide +kernel
theorem dX7_readCharacter_23 : decode cX7_readCharacter 23 = .ok (.iload_n 2, 1) := by decide +kernel
theorem dX7_readCharacter_24 : decode cX7_readCharacter 24 = .ok (.iconst 1, 1) := by decide +kernel
theorem dX7_readCharacter_25 : decode cX7_readCharacter 25 = .ok (.if_icmp .ne 29, 3) := by decide +kernel
theorem dX7_readCharacter_28 : decode cX7_readCharacter 28 = .ok (.aload_n 1, 1) := by decide +kernel
theorem dX7_readCharacter_29 : decode cX7_readCharacter 29 = .ok (.iload_n 3, 1) := by decide +kernel
theorem dX7_readCharacter_30 : decode cX7_readCharacter 30 = .ok (.bipush 48, 2) := by decide +kernel
theorem dX7_readCharacter_32 : decode cX7_readCharacter 32 = .ok (.isub, 1) := by decide +kernel
theorem dX7_readCharacter_33 : decode cX7_readCharacter 33 = .ok (.putfield 38, 3) := by decide +kernel
theorem dX7_readCharacter_36 : decode cX7_readCharacter 36 = .ok (.iload_n 3, 1) := by decide +kernel
theorem dX7_readCharacter_37 : decode cX7_readCharacter 37 = .ok (.bipush 49, 2) := by decide +kernel
theorem dX7_readCharacter_39 : decode cX7_readCharacter 39 = .ok (.if_icmp .lt 13, 3) := by decide +kernel
theorem dX7_readCharacter_42 : decode cX7_readCharacter 42 = .ok (.iload_n 3, 1) := by decide +kernel
theorem dX7_readCharacter_43 : decode cX7_readCharacter 43 = .ok (.bipush 56, 2) := by decide +kernel
theorem dX7_readCharacter_45 : decode cX7_readCharacter 45 = .ok (.if_icmp .gt 7, 3) := by decide +kernel
theorem dX7_readCharacter_48 : decode cX7_readCharacter 48 = .ok (.iconst 1, 1) := by decide +kernel
theorem dX7_readCharacter_49 : decode cX7_readCharacter 49 = .ok (.goto 4, 3) := by decide +kernel
theorem dX7_readCharacter_52 : decode cX7_readCharacter 52 = .ok (.iconst 0, 1) := by decide +kernel
theorem dX7_readCharacter_53 : decode cX7_readCharacter 53 = .ok (.ireturn, 1) := by decide +kernel
theorem dX7_readCharacter_54 : decode cX7_readCharacter 54 = .ok (.aload_n 1, 1) := by decide +kernel
theorem dX7_readCharacter_55 : decode cX7_readCharacter 55 = .ok (.getfield 41, 3) := by decide +kernel
theorem dX7_readCharacter_58 : decode cX7_readCharacter 58 = .ok (.istore 4, 2) := by decide +kernel
theorem dX7_readCharacter_60 : decode cX7_readCharacter 60 = .ok (.iload 4, 2) := by decide +kernel
theorem dX7_readCharacter_62 : decode cX7_readCharacter 62 = .ok (.bipush 24, 2) := by decide +kernel
theorem dX7_readCharacter_64 : decode cX7_readCharacter 64 = .ok (.if_icmp .lt 5, 3) := by decide +kernel
theorem dX7_readCharacter_67 : decode cX7_readCharacter 67 = .ok (.iconst 0, 1) := by decide +kernel
theorem dX7_readCharacter_68 : decode cX7_readCharacter 68 = .ok (.ireturn, 1) := by decide +kernel
theorem dX7_readCharacter_69 : decode cX7_readCharacter 69 = .ok (.iload_n 2, 1) := by decide +kernel
theorem dX7_readCharacter_70 : decode cX7_readCharacter 70 = .ok (.iconst 2, 1) := by decide +kernel
theorem dX7_readCharacter_71 : decode cX7_readCharacter 71 = .ok (.isub, 1) := by decide +kernel
theorem dX7_readCharacter_72 : decode cX7_readCharacter 72 = .ok (.iconst 4, 1) := by decide +kernel
theorem dX7_readCharacter_73 : decode cX7_readCharacter 73 = .ok (.irem, 1) := by decide +kernel
theorem dX7_readCharacter_74 : decode cX7_readCharacter 74 = .ok (.tableswitch 134 0 2 #[26, 46, 65], 26) := by decide +kernel
theorem dX7_readCharacter_100 : decode cX7_readCharacter 100 = .ok (.aload_n 1, 1) := by decide +kernel
theorem dX7_readCharacter_101 : decode cX7_readCharacter 101 = .ok (.getfield 44, 3) := by decide +kernel
theorem dX7_readCharacter_104 : decode cX7_readCharacter 104 = .ok (.iload 4, 2) := by decide +kernel
theorem dX7_readCharacter_106 : decode cX7_readCharacter 106 = .ok (.iload_n 3, 1) := by decide +kernel
theorem dX7_readCharacter_107 : decode cX7_readCharacter 107 = .ok (.bipush 48, 2) := by decide +kernel
theorem dX7_readCharacter_109 : decode cX7_readCharacter 109 = .ok (.isub, 1) := by decide +kernel
theorem dX7_readCharacter_110 : decode cX7_readCharacter 110 = .ok (.iastore, 1) := by decide +kernel
theorem dX7_readCharacter_111 : decode cX7_readCharacter 111 = .ok (.aload_n 1, 1) := by decide +kernel
theorem dX7_readCharacter_112 : decode cX7_readCharacter 112 = .ok (.iload_n 3, 1) := by decide +kernel
theorem dX7_readCharacter_113 : decode cX7_readCharacter 113 = .ok (.bipush 48, 2) := by decide +kernel
theorem dX7_readCharacter_115 : decode cX7_readCharacter 115 = .ok (.isub, 1) := by decide +kernel
theorem dX7_readCharacter_116 : decode cX7_readCharacter 116 = .ok (.invokevirtual 48, 3) := by decide +kernel
theorem dX7_readCharacter_119 : decode cX7_readCharacter 119 = .ok (.ireturn, 1) := by decide +kernel
theorem dX7_readCharacter_120 : decode cX7_readCharacter 120 = .ok (.aload_n 1, 1) := by decide +kernel
theorem dX7_readCharacter_121 : decode cX7_readCharacter 121 = .ok (.getfield 52, 3) := by decide +kernel
theorem dX7_readCharacter_124 : decode cX7_readCharacter 124 = .ok (.iload 4, 2) := by decide +kernel
theorem dX7_readCharacter_126 : decode cX7_readCharacter 126 = .ok (.iload_n 3, 1) := by decide +kernel
theorem dX7_readCharacter_127 : decode cX7_readCharacter 127 = .ok (.bipush 97, 2) := by decide +kernel
theorem dX7_readCharacter_129 : decode cX7_readCharacter 129 = .ok (.isub, 1) := by decide +kernel
theorem dX7_readCharacter_130 : decode cX7_readCharacter 130 = .ok (.iastore, 1) := by decide +kernel
theorem dX7_readCharacter_131 : decode cX7_readCharacter 131 = .ok (.iload_n 3, 1) := by decide +kernel
theorem dX7_readCharacter_132 : decode cX7_readCharacter 132 = .ok (.bipush 97, 2) := by decide +kernel
theorem dX7_readCharacter_134 : decode cX7_readCharacter 134 = .ok (.isub, 1) := by decide +kernel
theorem dX7_readCharacter_135 : decode cX7_readCharacter 135 = .ok (.invokestatic 55, 3) := by decide +kernel
theorem dX7_readCharacter_138 : decode cX7_readCharacter 138 = .ok (.ireturn, 1) := by decide +kernel
theorem dX7_readCharacter_139 : decode cX7_readCharacter 139 = .ok (.aload_n 1, 1) := by decide +kernel
theorem dX7_readCharacter_140 : decode cX7_readCharacter 140 = .ok (.getfield 58, 3) := by decide +kernel
theorem dX7_readCharacter_143 : decode cX7_readCharacter 143 = .ok (.iload 4, 2) := by decide +kernel
theorem dX7_readCharacter_145 : decode cX7_readCharacter 145 = .ok (.iload_n 3, 1) := by decide +kernel
theorem dX7_readCharacter_146 : decode cX7_readCharacter 146 = .ok (.bipush 48, 2) := by decide +kernel
theorem dX7_readCharacter_148 : decode cX7_readCharacter 148 = .ok (.isub, 1) := by decide +kernel
theorem dX7_readCharacter_149 : decode cX7_readCharacter 149 = .ok (.iastore, 1) := by decide +kernel
theorem dX7_readCharacter_150 : decode cX7_readCharacter 150 = .ok (.aload_n 1, 1) := by decide +kernel
theorem dX7_readCharacter_151 : decode cX7_readCharacter 151 = .ok (.iload_n 3, 1) := by decide +kernel
theorem dX7_readCharacter_152 : decode cX7_readCharacter 152 = .ok (.bipush 48, 2) := by decide +kernel
theorem dX7_readCharacter_154 : decode cX7_readCharacter 154 = .ok (.isub, 1) := by decide +kernel
theorem dX7_readCharacter_155 : decode cX7_readCharacter 155 = .ok (.invokevirtual 48, 3) := by decide +kernel
theorem dX7_readCharacter_158 : decode cX7_readCharacter 158 = .ok (.ifCond .eq 48, 3) := by decide +kernel
theorem dX7_readCharacter_161 : decode cX7_readCharacter 161 = .ok (.iload_n 3, 1) := by decide +kernel
theorem dX7_readCharacter_162 : decode cX7_readCharacter 162 = .ok (.bipush 48, 2) := by decide +kernel
theorem dX7_readCharacter_164 : decode cX7_readCharacter 164 = .ok (.isub, 1) := by decide +kernel
theorem dX7_readCharacter_165 : decode cX7_readCharacter 165 = .ok (.aload_n 1, 1) := by decide +kernel
theorem dX7_readCharacter_166 : decode cX7_readCharacter 166 = .ok (.getfield 44, 3) := by decide +kernel
theorem dX7_readCharacter_169 : decode cX7_readCharacter 169 = .ok (.iload 4, 2) := by decide +kernel
theorem dX7_readCharacter_171 : decode cX7_readCharacter 171 = .ok (.iaload, 1) := by decide +kernel
theorem dX7_readCharacter_172 : decode cX7_readCharacter 172 = .ok (.if_icmp .eq 34, 3) := by decide +kernel
theorem dX7_readCharacter_175 : decode cX7_readCharacter 175 = .ok (.aload_n 1, 1) := by decide +kernel
theorem dX7_readCharacter_176 : decode cX7_readCharacter 176 = .ok (.aload_n 1, 1) := by decide +kernel
theorem dX7_readCharacter_177 : decode cX7_readCharacter 177 = .ok (.getfield 44, 3) := by decide +kernel
theorem dX7_readCharacter_180 : decode cX7_readCharacter 180 = .ok (.iload 4, 2) := by decide +kernel
theorem dX7_readCharacter_182 : decode cX7_readCharacter 182 = .ok (.iaload, 1) := by decide +kernel
theorem dX7_readCharacter_183 : decode cX7_readCharacter 183 = .ok (.aload_n 1, 1) := by decide +kernel
theorem dX7_readCharacter_184 : decode cX7_readCharacter 184 = .ok (.getfield 52, 3) := by decide +kernel
theorem dX7_readCharacter_187 : decode cX7_readCharacter 187 = .ok (.iload 4, 2) := by decide +kernel
theorem dX7_readCharacter_189 : decode cX7_readCharacter 189 = .ok (.iaload, 1) := by decide +kernel
theorem dX7_readCharacter_190 : decode cX7_readCharacter 190 = .ok (.iload_n 3, 1) := by decide +kernel
theorem dX7_readCharacter_191 : decode cX7_readCharacter 191 = .ok (.bipush 48, 2) := by decide +kernel
theorem dX7_readCharacter_193 : decode cX7_readCharacter 193 = .ok (.isub, 1) := by decide +kernel
theorem dX7_readCharacter_194 : decode cX7_readCharacter 194 = .ok (.invokevirtual 61, 3) := by decide +kernel
theorem dX7_readCharacter_197 : decode cX7_readCharacter 197 = .ok (.bipush (-9), 2) := by decide +kernel
theorem dX7_readCharacter_199 : decode cX7_readCharacter 199 = .ok (.if_icmp .ne 7, 3) := by decide +kernel
theorem dX7_readCharacter_202 : decode cX7_readCharacter 202 = .ok (.iconst 1, 1) := by decide +kernel
theorem dX7_readCharacter_203 : decode cX7_readCharacter 203 = .ok (.goto 4, 3) := by decide +kernel
theorem dX7_readCharacter_206 : decode cX7_readCharacter 206 = .ok (.iconst 0, 1) := by decide +kernel
theorem dX7_readCharacter_207 : decode cX7_readCharacter 207 = .ok (.ireturn, 1) := by decide +kernel
theorem dX7_readCharacter_208 : decode cX7_readCharacter 208 = .ok (.aload_n 1, 1) := by decide +kernel
theorem dX7_readCharacter_209 : decode cX7_readCharacter 209 = .ok (.getfield 65, 3) := by decide +kernel
theorem dX7_readCharacter_212 : decode cX7_readCharacter 212 = .ok (.iload 4, 2) := by decide +kernel
theorem dX7_readCharacter_214 : decode cX7_readCharacter 214 = .ok (.iload_n 3, 1) := by decide +kernel
theorem dX7_readCharacter_215 : decode cX7_readCharacter 215 = .ok (.bipush 48, 2) := by decide +kernel
theorem dX7_readCharacter_217 : decode cX7_readCharacter 217 = .ok (.isub, 1) := by decide +kernel
theorem dX7_readCharacter_218 : decode cX7_readCharacter 218 = .ok (.iastore, 1) := by decide +kernel
theorem dX7_readCharacter_219 : decode cX7_readCharacter 219 = .ok (.aload_n 1, 1) := by decide +kernel
theorem dX7_readCharacter_220 : decode cX7_readCharacter 220 = .ok (.dup, 1) := by decide +kernel
theorem dX7_readCharacter_221 : decode cX7_readCharacter 221 = .ok (.getfield 41, 3) := by decide +kernel
theorem dX7_readCharacter_224 : decode cX7_readCharacter 224 = .ok (.iconst 1, 1) := by decide +kernel
theorem dX7_readCharacter_225 : decode cX7_readCharacter 225 = .ok (.iadd, 1) := by decide +kernel
theorem dX7_readCharacter_226 : decode cX7_readCharacter 226 = .ok (.putfield 41, 3) := by decide +kernel
theorem dX7_readCharacter_229 : decode cX7_readCharacter 229 = .ok (.iload_n 3, 1) := by decide +kernel
theorem dX7_readCharacter_230 : decode cX7_readCharacter 230 = .ok (.bipush 48, 2) := by decide +kernel
theorem dX7_readCharacter_232 : decode cX7_readCharacter 232 = .ok (.isub, 1) := by decide +kernel
theorem dX7_readCharacter_233 : decode cX7_readCharacter 233 = .ok (.invokestatic 68, 3) := by decide +kernel
theorem dX7_readCharacter_236 : decode cX7_readCharacter 236 = .ok (.ireturn, 1) := by decide +kernel
theorem dX8_init_0 : decode cX8_init 0 = .ok (.aload_n 0, 1) := by decide +kernel
theorem dX8_init_1 : decode cX8_init 1 = .ok (.invokespecial 3, 3) := by decide +kernel
theorem dX8_init_4 : decode cX8_init 4 = .ok (.aload_n 0, 1) := by decide +kernel
theorem dX8_init_5 : decode cX8_init 5 = .ok (.bipush 80, 2) := by decide +kernel
theorem dX8_init_7 : decode cX8_init 7 = .ok (.newarray .int, 2) := by decide +kernel
theorem dX8_init_9 : decode cX8_init 9 = .ok (.putfield 11, 3) := by decide +kernel
theorem dX8_init_12 : decode cX8_init 12 = .ok (.return_, 1) := by decide +kernel
theorem dX8_clear_0 : decode cX8_clear 0 = .ok (.iconst 0, 1) := by decide +kernel
theorem dX8_clear_1 : decode cX8_clear 1 = .ok (.istore_n 1, 1) := by decide +kernel
theorem dX8_clear_2 : decode cX8_clear 2 = .ok (.iload_n 1, 1) := by decide +kernel
theorem dX8_clear_3 : decode cX8_clear 3 = .ok (.bipush 80, 2) := by decide +kernel
theorem dX8_clear_5 : decode cX8_clear 5 = .ok (.if_icmp .ge 16, 3) := by decide +kernel
theorem dX8_clear_8 : decode cX8_clear 8 = .ok (.aload_n 0, 1) := by decide +kernel
theorem dX8_clear_9 : decode cX8_clear 9 = .ok (.getfield 11, 3) := by decide +kernel
theorem dX8_clear_12 : decode cX8_clear 12 = .ok (.iload_n 1, 1) := by decide +kernel
theorem dX8_clear_13 : decode cX8_clear 13 = .ok (.iconst 0, 1) := by decide +kernel
theorem dX8_clear_14 : decode cX8_clear 14 = .ok (.iastore, 1) := by decide +kernel
theorem dX8_clear_15 : decode cX8_clear 15 = .ok (.iinc 1 1, 3) := by decide +kernel
theorem dX8_clear_18 : decode cX8_clear 18 = .ok (.goto (-16), 3) := by decide +kernel
theorem dX8_clear_21 : decode cX8_clear 21 = .ok (.return_, 1) := by decide +kernel
theorem dX8_put_0 : decode cX8_put 0 = .ok (.aload_n 0, 1) := by decide +kernel
theorem dX8_put_1 : decode cX8_put 1 = .ok (.getfield 11, 3) := by decide +kernel
theorem dX8_put_4 : decode cX8_put 4 = .ok (.iload_n 1, 1) := by decide +kernel
theorem dX8_put_5 : decode cX8_put 5 = .ok (.bipush 10, 2) := by decide +kernel
theorem dX8_put_7 : decode cX8_put 7 = .ok (.irem, 1) := by decide +kernel
theorem dX8_put_8 : decode cX8_put 8 = .ok (.bipush 8, 2) := by decide +kernel
theorem dX8_put_10 : decode cX8_put 10 = .ok (.imul, 1) := by decide +kernel
theorem dX8_put_11 : decode cX8_put 11 = .ok (.iload_n 2, 1) := by decide +kernel
theorem dX8_put_12 : decode cX8_put 12 = .ok (.iadd, 1) := by decide +kernel
theorem dX8_put_13 : decode cX8_put 13 = .ok (.dup2, 1) := by decide +kernel
theorem dX8_put_14 : decode cX8_put 14 = .ok (.iaload, 1) := by decide +kernel
theorem dX8_put_15 : decode cX8_put 15 = .ok (.iload_n 3, 1) := by decide +kernel
theorem dX8_put_16 : decode cX8_put 16 = .ok (.ior, 1) := by decide +kernel
theorem dX8_put_17 : decode cX8_put 17 = .ok (.iastore, 1) := by decide +kernel
theorem dX8_put_18 : decode cX8_put 18 = .ok (.return_, 1) := by decide +kernel
theorem dX8_draw_0 : decode cX8_draw 0 = .ok (.iload_n 1, 1) := by decide +kernel
theorem dX8_draw_1 : decode cX8_draw 1 = .ok (.bipush 10, 2) := by decide +kernel
theorem dX8_draw_3 : decode cX8_draw 3 = .ok (.irem, 1) := by decide +kernel
theorem dX8_draw_4 : decode cX8_draw 4 = .ok (.bipush 8, 2) := by decide +kernel
theorem dX8_draw_6 : decode cX8_draw 6 = .ok (.imul, 1) := by decide +kernel
theorem dX8_draw_7 : decode cX8_draw 7 = .ok (.iload_n 2, 1) := by decide +kernel
theorem dX8_draw_8 : decode cX8_draw 8 = .ok (.iadd, 1) := by decide +kernel
theorem dX8_draw_9 : decode cX8_draw 9 = .ok (.istore_n 3, 1) := by decide +kernel
theorem dX8_draw_10 : decode cX8_draw 10 = .ok (.aload_n 0, 1) := by decide +kernel
theorem dX8_draw_11 : decode cX8_draw 11 = .ok (.getfield 11, 3) := by decide +kernel
theorem dX8_draw_14 : decode cX8_draw 14 = .ok (.iload_n 3, 1) := by decide +kernel
theorem dX8_draw_15 : decode cX8_draw 15 = .ok (.iaload, 1) := by decide +kernel
theorem dX8_draw_16 : decode cX8_draw 16 = .ok (.istore 4, 2) := by decide +kernel
theorem dX8_draw_18 : decode cX8_draw 18 = .ok (.aload_n 0, 1) := by decide +kernel
theorem dX8_draw_19 : decode cX8_draw 19 = .ok (.getfield 11, 3) := by decide +kernel
theorem dX8_draw_22 : decode cX8_draw 22 = .ok (.iload_n 3, 1) := by decide +kernel
theorem dX8_draw_23 : decode cX8_draw 23 = .ok (.iconst 0, 1) := by decide +kernel
theorem dX8_draw_24 : decode cX8_draw 24 = .ok (.iastore, 1) := by decide +kernel
theorem dX8_draw_25 : decode cX8_draw 25 = .ok (.iload 4, 2) := by decide +kernel
theorem dX8_draw_27 : decode cX8_draw 27 = .ok (.ireturn, 1) := by decide +kernel
theorem dX9_init_0 : decode cX9_init 0 = .ok (.aload_n 0, 1) := by decide +kernel
theorem dX9_init_1 : decode cX9_init 1 = .ok (.invokespecial 3, 3) := by decide +kernel
theorem dX9_init_4 : decode cX9_init 4 = .ok (.aload_n 0, 1) := by decide +kernel
theorem dX9_init_5 : decode cX9_init 5 = .ok (.new 9, 3) := by decide +kernel
theorem dX9_init_8 : decode cX9_init 8 = .ok (.dup, 1) := by decide +kernel
theorem dX9_init_9 : decode cX9_init 9 = .ok (.invokespecial 11, 3) := by decide +kernel
theorem dX9_init_12 : decode cX9_init 12 = .ok (.putfield 12, 3) := by decide +kernel
theorem dX9_init_15 : decode cX9_init 15 = .ok (.aload_n 0, 1) := by decide +kernel
theorem dX9_init_16 : decode cX9_init 16 = .ok (.new 16, 3) := by decide +kernel
theorem dX9_init_19 : decode cX9_init 19 = .ok (.dup, 1) := by decide +kernel
theorem dX9_init_20 : decode cX9_init 20 = .ok (.invokespecial 18, 3) := by decide +kernel
theorem dX9_init_23 : decode cX9_init 23 = .ok (.putfield 19, 3) := by decide +kernel
theorem dX9_init_26 : decode cX9_init 26 = .ok (.aload_n 0, 1) := by decide +kernel
theorem dX9_init_27 : decode cX9_init 27 = .ok (.new 23, 3) := by decide +kernel
theorem dX9_init_30 : decode cX9_init 30 = .ok (.dup, 1) := by decide +kernel
theorem dX9_init_31 : decode cX9_init 31 = .ok (.invokespecial 25, 3) := by decide +kernel
theorem dX9_init_34 : decode cX9_init 34 = .ok (.putfield 26, 3) := by decide +kernel
theorem dX9_init_37 : decode cX9_init 37 = .ok (.aload_n 0, 1) := by decide +kernel
theorem dX9_init_38 : decode cX9_init 38 = .ok (.new 30, 3) := by decide +kernel
theorem dX9_init_41 : decode cX9_init 41 = .ok (.dup, 1) := by decide +kernel
theorem dX9_init_42 : decode cX9_init 42 = .ok (.aload_n 0, 1) := by decide +kernel
theorem dX9_init_43 : decode cX9_init 43 = .ok (.getfield 19, 3) := by decide +kernel
theorem dX9_init_46 : decode cX9_init 46 = .ok (.invokespecial 32, 3) := by decide +kernel
theorem dX9_init_49 : decode cX9_init 49 = .ok (.putfield 35, 3) := by decide +kernel
theorem dX9_init_52 : decode cX9_init 52 = .ok (.aload_n 0, 1) := by decide +kernel
theorem dX9_init_53 : decode cX9_init 53 = .ok (.new 30, 3) := by decide +kernel
theorem dX9_init_56 : decode cX9_init 56 = .ok (.dup, 1) := by decide +kernel
theorem dX9_init_57 : decode cX9_init 57 = .ok (.aload_n 0, 1) := by decide +kernel
theorem dX9_init_58 : decode cX9_init 58 = .ok (.getfield 19, 3) := by decide +kernel
theorem dX9_init_61 : decode cX9_init 61 = .ok (.invokespecial 32, 3) := by decide +kernel
theorem dX9_init_64 : decode cX9_init 64 = .ok (.putfield 39, 3) := by decide +kernel
theorem dX9_init_67 : decode cX9_init 67 = .ok (.aload_n 0, 1) := by decide +kernel
theorem dX9_init_68 : decode cX9_init 68 = .ok (.new 42, 3) := by decide +kernel
theorem dX9_init_71 : decode cX9_init 71 = .ok (.dup, 1) := by decide +kernel
theorem dX9_init_72 : decode cX9_init 72 = .ok (.aload_n 0, 1) := by decide +kernel
theorem dX9_init_73 : decode cX9_init 73 = .ok (.getfield 19, 3) := by decide +kernel
theorem dX9_init_76 : decode cX9_init 76 = .ok (.invokespecial 44, 3) := by decide +kernel
theorem dX9_init_79 : decode cX9_init 79 = .ok (.putfield 45, 3) := by decide +kernel
theorem dX9_init_82 : decode cX9_init 82 = .ok (.aload_n 0, 1) := by decide +kernel
theorem dX9_init_83 : decode cX9_init 83 = .ok (.iconst 2, 1) := by decide +kernel
theorem dX9_init_84 : decode cX9_init 84 = .ok (.anewarray 30, 3) := by decide +kernel
theorem dX9_init_87 : decode cX9_init 87 = .ok (.putfield 49, 3) := by decide +kernel
theorem dX9_init_90 : decode cX9_init 90 = .ok (.iconst 0, 1) := by decide +kernel
theorem dX9_init_91 : decode cX9_init 91 = .ok (.istore_n 1, 1) := by decide +kernel
theorem dX9_init_92 : decode cX9_init 92 = .ok (.iload_n 1, 1) := by decide +kernel
theorem dX9_init_93 : decode cX9_init 93 = .ok (.iconst 2, 1) := by decide +kernel
theorem dX9_init_94 : decode cX9_init 94 = .ok (.if_icmp .ge 26, 3) := by decide +kernel
theorem dX9_init_97 : decode cX9_init 97 = .ok (.aload_n 0, 1) := by decide +kernel
theorem dX9_init_98 : decode cX9_init 98 = .ok (.getfield 49, 3) := by decide +kernel
theorem dX9_init_101 : decode cX9_init 101 = .ok (.iload_n 1, 1) := by decide +kernel
theorem dX9_init_102 : decode cX9_init 102 = .ok (.new 30, 3) := by decide +kernel
theorem dX9_init_105 : decode cX9_init 105 = .ok (.dup, 1) := by decide +kernel
theorem dX9_init_106 : decode cX9_init 106 = .ok (.aload_n 0, 1) := by decide +kernel
theorem dX9_init_107 : decode cX9_init 107 = .ok (.getfield 19, 3) := by decide +kernel
theorem dX9_init_110 : decode cX9_init 110 = .ok (.invokespecial 32, 3) := by decide +kernel
theorem dX9_init_113 : decode cX9_init 113 = .ok (.aastore, 1) := by decide +kernel
theorem dX9_init_114 : decode cX9_init 114 = .ok (.iinc 1 1, 3) := by decide +kernel
theorem dX9_init_117 : decode cX9_init 117 = .ok (.goto (-25), 3) := by decide +kernel
theorem dX9_init_120 : decode cX9_init 120 = .ok (.aload_n 0, 1) := by decide +kernel
theorem dX9_init_121 : decode cX9_init 121 = .ok (.iconst 2, 1) := by decide +kernel
theorem dX9_init_122 : decode cX9_init 122 = .ok (.newarray .boolean, 2) := by decide +kernel
theorem dX9_init_124 : decode cX9_init 124 = .ok (.putfield 53, 3) := by decide +kernel
theorem dX9_init_127 : decode cX9_init 127 = .ok (.aload_n 0, 1) := by decide +kernel
theorem dX9_init_128 : decode cX9_init 128 = .ok (.new 57, 3) := by decide +kernel
theorem dX9_init_131 : decode cX9_init 131 = .ok (.dup, 1) := by decide +kernel
theorem dX9_init_132 : decode cX9_init 132 = .ok (.invokespecial 59, 3) := by decide +kernel
theorem dX9_init_135 : decode cX9_init 135 = .ok (.putfield 60, 3) := by decide +kernel
theorem dX9_init_138 : decode cX9_init 138 = .ok (.aload_n 0, 1) := by decide +kernel
theorem dX9_init_139 : decode cX9_init 139 = .ok (.new 57, 3) := by decide +kernel
theorem dX9_init_142 : decode cX9_init 142 = .ok (.dup, 1) := by decide +kernel
theorem dX9_init_143 : decode cX9_init 143 = .ok (.invokespecial 59, 3) := by decide +kernel
theorem dX9_init_146 : decode cX9_init 146 = .ok (.putfield 64, 3) := by decide +kernel
theorem dX9_init_149 : decode cX9_init 149 = .ok (.aload_n 0, 1) := by decide +kernel
theorem dX9_init_150 : decode cX9_init 150 = .ok (.new 67, 3) := by decide +kernel
theorem dX9_init_153 : decode cX9_init 153 = .ok (.dup, 1) := by decide +kernel
theorem dX9_init_154 : decode cX9_init 154 = .ok (.invokespecial 69, 3) := by decide +kernel
theorem dX9_init_157 : decode cX9_init 157 = .ok (.putfield 70, 3) := by decide +kernel
theorem dX9_init_160 : decode cX9_init 160 = .ok (.return_, 1) := by decide +kernel
theorem dX9_append_0 : decode cX9_append 0 = .ok (.iload_n 1, 1) := by decide +kernel
theorem dX9_append_1 : decode cX9_append 1 = .ok (.ifCond .lt 14, 3) := by decide +kernel
theorem dX9_append_4 : decode cX9_append 4 = .ok (.iload_n 1, 1) := by decide +kernel
theorem dX9_append_5 : decode cX9_append 5 = .ok (.sipush 255, 3) := by decide +kernel
theorem dX9_append_8 : decode cX9_append 8 = .ok (.if_icmp .gt 7, 3) := by decide +kernel
theorem dX9_append_11 : decode cX9_append 11 = .ok (.iconst 1, 1) := by decide +kernel
theorem dX9_append_12 : decode cX9_append 12 = .ok (.goto 4, 3) := by decide +kernel
theorem dX9_append_15 : decode cX9_append 15 = .ok (.iconst 0, 1) := by decide +kernel
theorem dX9_append_16 : decode cX9_append 16 = .ok (.iconst 2, 1) := by decide +kernel
theorem dX9_append_17 : decode cX9_append 17 = .ok (.invokestatic 74, 3) := by decide +kernel
theorem dX9_append_20 : decode cX9_append 20 = .ok (.aload_n 0, 1) := by decide +kernel
theorem dX9_append_21 : decode cX9_append 21 = .ok (.getfield 12, 3) := by decide +kernel
theorem dX9_append_24 : decode cX9_append 24 = .ok (.getfield 78, 3) := by decide +kernel
theorem dX9_append_27 : decode cX9_append 27 = .ok (.bipush 110, 2) := by decide +kernel
theorem dX9_append_29 : decode cX9_append 29 = .ok (.if_icmp .ge 7, 3) := by decide +kernel
theorem dX9_append_32 : decode cX9_append 32 = .ok (.iconst 1, 1) := by decide +kernel
theorem dX9_append_33 : decode cX9_append 33 = .ok (.goto 4, 3) := by decide +kernel
theorem dX9_append_36 : decode cX9_append 36 = .ok (.iconst 0, 1) := by decide +kernel
theorem dX9_append_37 : decode cX9_append 37 = .ok (.iconst 3, 1) := by decide +kernel
theorem dX9_append_38 : decode cX9_append 38 = .ok (.invokestatic 74, 3) := by decide +kernel
theorem dX9_append_41 : decode cX9_append 41 = .ok (.aload_n 0, 1) := by decide +kernel
theorem dX9_append_42 : decode cX9_append 42 = .ok (.getfield 12, 3) := by decide +kernel
theorem dX9_append_45 : decode cX9_append 45 = .ok (.getfield 82, 3) := by decide +kernel
theorem dX9_append_48 : decode cX9_append 48 = .ok (.aload_n 0, 1) := by decide +kernel
theorem dX9_append_49 : decode cX9_append 49 = .ok (.getfield 12, 3) := by decide +kernel
theorem dX9_append_52 : decode cX9_append 52 = .ok (.getfield 78, 3) := by decide +kernel
theorem dX9_append_55 : decode cX9_append 55 = .ok (.iload_n 1, 1) := by decide +kernel
theorem dX9_append_56 : decode cX9_append 56 = .ok (.i2c, 1) := by decide +kernel
theorem dX9_append_57 : decode cX9_append 57 = .ok (.castore, 1) := by decide +kernel
theorem dX9_append_58 : decode cX9_append 58 = .ok (.aload_n 0, 1) := by decide +kernel
theorem dX9_append_59 : decode cX9_append 59 = .ok (.getfield 12, 3) := by decide +kernel
theorem dX9_append_62 : decode cX9_append 62 = .ok (.dup, 1) := by decide +kernel
theorem dX9_append_63 : decode cX9_append 63 = .ok (.getfield 78, 3) := by decide +kernel
theorem dX9_append_66 : decode cX9_append 66 = .ok (.iconst 1, 1) := by decide +kernel
theorem dX9_append_67 : decode cX9_append 67 = .ok (.iadd, 1) := by decide +kernel
theorem dX9_append_68 : decode cX9_append 68 = .ok (.putfield 78, 3) := by decide +kernel
theorem dX9_append_71 : decode cX9_append 71 = .ok (.aload_n 0, 1) := by decide +kernel
theorem dX9_append_72 : decode cX9_append 72 = .ok (.getfield 12, 3) := by decide +kernel
theorem dX9_append_75 : decode cX9_append 75 = .ok (.getfield 78, 3) := by decide +kernel
theorem dX9_append_78 : decode cX9_append 78 = .ok (.ireturn, 1) := by decide +kernel
theorem dX9_clearText_0 : decode cX9_clearText 0 = .ok (.aload_n 0, 1) := by decide +kernel
theorem dX9_clearText_1 : decode cX9_clearText 1 = .ok (.getfield 12, 3) := by decide +kernel
theorem dX9_clearText_4 : decode cX9_clearText 4 = .ok (.getfield 78, 3) := by decide +kernel
theorem dX9_clearText_7 : decode cX9_clearText 7 = .ok (.istore_n 1, 1) := by decide +kernel
theorem dX9_clearText_8 : decode cX9_clearText 8 = .ok (.aload_n 0, 1) := by decide +kernel
theorem dX9_clearText_9 : decode cX9_clearText 9 = .ok (.getfield 12, 3) := by decide +kernel
theorem dX9_clearText_12 : decode cX9_clearText 12 = .ok (.iconst 0, 1) := by decide +kernel
theorem dX9_clearText_13 : decode cX9_clearText 13 = .ok (.putfield 78, 3) := by decide +kernel
theorem dX9_clearText_16 : decode cX9_clearText 16 = .ok (.iload_n 1, 1) := by decide +kernel
theorem dX9_clearText_17 : decode cX9_clearText 17 = .ok (.ireturn, 1) := by decide +kernel
theorem dX9_errorPosition_0 : decode cX9_errorPosition 0 = .ok (.iload_n 1, 1) := by decide +kernel
theorem dX9_errorPosition_1 : decode cX9_errorPosition 1 = .ok (.ifCond .eq 13, 3) := by decide +kernel
theorem dX9_errorPosition_4 : decode cX9_errorPosition 4 = .ok (.aload_n 0, 1) := by decide +kernel
theorem dX9_errorPosition_5 : decode cX9_errorPosition 5 = .ok (.getfield 12, 3) := by decide +kernel
theorem dX9_errorPosition_8 : decode cX9_errorPosition 8 = .ok (.invokevirtual 86, 3) := by decide +kernel
theorem dX9_errorPosition_11 : decode cX9_errorPosition 11 = .ok (.goto 18, 3) := by decide +kernel
theorem dX9_errorPosition_14 : decode cX9_errorPosition 14 = .ok (.aload_n 0, 1) := by decide +kernel
theorem dX9_errorPosition_15 : decode cX9_errorPosition 15 = .ok (.getfield 12, 3) := by decide +kernel
theorem dX9_errorPosition_18 : decode cX9_errorPosition 18 = .ok (.aload_n 0, 1) := by decide +kernel
theorem dX9_errorPosition_19 : decode cX9_errorPosition 19 = .ok (.getfield 39, 3) := by decide +kernel
theorem dX9_errorPosition_22 : decode cX9_errorPosition 22 = .ok (.aload_n 0, 1) := by decide +kernel
theorem dX9_errorPosition_23 : decode cX9_errorPosition 23 = .ok (.getfield 19, 3) := by decide +kernel
theorem dX9_errorPosition_26 : decode cX9_errorPosition 26 = .ok (.invokevirtual 90, 3) := by decide +kernel
theorem dX9_errorPosition_29 : decode cX9_errorPosition 29 = .ok (.ireturn, 1) := by decide +kernel
theorem dX9_load_0 : decode cX9_load 0 = .ok (.aload_n 0, 1) := by decide +kernel
theorem dX9_load_1 : decode cX9_load 1 = .ok (.getfield 12, 3) := by decide +kernel
theorem dX9_load_4 : decode cX9_load 4 = .ok (.aload_n 0, 1) := by decide +kernel
theorem dX9_load_5 : decode cX9_load 5 = .ok (.getfield 39, 3) := by decide +kernel
theorem dX9_load_8 : decode cX9_load 8 = .ok (.aload_n 0, 1) := by decide +kernel
theorem dX9_load_9 : decode cX9_load 9 = .ok (.getfield 19, 3) := by decide +kernel
theorem dX9_load_12 : decode cX9_load 12 = .ok (.invokevirtual 90, 3) := by decide +kernel
theorem dX9_load_15 : decode cX9_load 15 = .ok (.bipush (-9), 2) := by decide +kernel
theorem dX9_load_17 : decode cX9_load 17 = .ok (.if_icmp .ne 7, 3) := by decide +kernel
theorem dX9_load_20 : decode cX9_load 20 = .ok (.iconst 1, 1) := by decide +kernel
theorem dX9_load_21 : decode cX9_load 21 = .ok (.goto 4, 3) := by decide +kernel
theorem dX9_load_24 : decode cX9_load 24 = .ok (.iconst 0, 1) := by decide +kernel
theorem dX9_load_25 : decode cX9_load 25 = .ok (.iconst 3, 1) := by decide +kernel
theorem dX9_load_26 : decode cX9_load 26 = .ok (.invokestatic 74, 3) := by decide +kernel
theorem dX9_load_29 : decode cX9_load 29 = .ok (.aload_n 0, 1) := by decide +kernel
theorem dX9_load_30 : decode cX9_load 30 = .ok (.getfield 35, 3) := by decide +kernel
theorem dX9_load_33 : decode cX9_load 33 = .ok (.aload_n 0, 1) := by decide +kernel
theorem dX9_load_34 : decode cX9_load 34 = .ok (.getfield 39, 3) := by decide +kernel
theorem dX9_load_37 : decode cX9_load 37 = .ok (.invokevirtual 94, 3) := by decide +kernel
theorem dX9_load_40 : decode cX9_load 40 = .ok (.aload_n 0, 1) := by decide +kernel
theorem dX9_load_41 : decode cX9_load 41 = .ok (.getfield 45, 3) := by decide +kernel
theorem dX9_load_44 : decode cX9_load 44 = .ok (.invokevirtual 98, 3) := by decide +kernel
theorem dX9_load_47 : decode cX9_load 47 = .ok (.iconst 0, 1) := by decide +kernel
theorem dX9_load_48 : decode cX9_load 48 = .ok (.istore_n 1, 1) := by decide +kernel
theorem dX9_load_49 : decode cX9_load 49 = .ok (.iload_n 1, 1) := by decide +kernel
theorem dX9_load_50 : decode cX9_load 50 = .ok (.iconst 2, 1) := by decide +kernel
theorem dX9_load_51 : decode cX9_load 51 = .ok (.if_icmp .ge 16, 3) := by decide +kernel
theorem dX9_load_54 : decode cX9_load 54 = .ok (.aload_n 0, 1) := by decide +kernel
theorem dX9_load_55 : decode cX9_load 55 = .ok (.getfield 53, 3) := by decide +kernel
theorem dX9_load_58 : decode cX9_load 58 = .ok (.iload_n 1, 1) := by decide +kernel
theorem dX9_load_59 : decode cX9_load 59 = .ok (.iconst 0, 1) := by decide +kernel
theorem dX9_load_60 : decode cX9_load 60 = .ok (.bastore, 1) := by decide +kernel
theorem dX9_load_61 : decode cX9_load 61 = .ok (.iinc 1 1, 3) := by decide +kernel
theorem dX9_load_64 : decode cX9_load 64 = .ok (.goto (-15), 3) := by decide +kernel
theorem dX9_load_67 : decode cX9_load 67 = .ok (.aload_n 0, 1) := by decide +kernel
theorem dX9_load_68 : decode cX9_load 68 = .ok (.getfield 35, 3) := by decide +kernel
theorem dX9_load_71 : decode cX9_load 71 = .ok (.getfield 101, 3) := by decide +kernel
theorem dX9_load_74 : decode cX9_load 74 = .ok (.ireturn, 1) := by decide +kernel
theorem dX9_about_0 : decode cX9_about 0 = .ok (.iload_n 1, 1) := by decide +kernel
theorem dX9_about_1 : decode cX9_about 1 = .ok (.ifCond .lt 13, 3) := by decide +kernel
theorem dX9_about_4 : decode cX9_about 4 = .ok (.iload_n 1, 1) := by decide +kernel
theorem dX9_about_5 : decode cX9_about 5 = .ok (.bipush 7, 2) := by decide +kernel
theorem dX9_about_7 : decode cX9_about 7 = .ok (.if_icmp .gt 7, 3) := by decide +kernel
theorem dX9_about_10 : decode cX9_about 10 = .ok (.iconst 1, 1) := by decide +kernel
theorem dX9_about_11 : decode cX9_about 11 = .ok (.goto 4, 3) := by decide +kernel
theorem dX9_about_14 : decode cX9_about 14 = .ok (.iconst 0, 1) := by decide +kernel
theorem dX9_about_15 : decode cX9_about 15 = .ok (.iconst 2, 1) := by decide +kernel
theorem dX9_about_16 : decode cX9_about 16 = .ok (.invokestatic 74, 3) := by decide +kernel
theorem dX9_about_19 : decode cX9_about 19 = .ok (.iload_n 1, 1) := by decide +kernel
theorem dX9_about_20 : decode cX9_about 20 = .ok (.tableswitch 130 0 6 #[44, 52, 60, 71, 82, 102, 122], 44) := by decide +kernel
theorem dX9_about_64 : decode cX9_about 64 = .ok (.aload_n 0, 1) := by decide +kernel
theorem dX9_about_65 : decode cX9_about 65 = .ok (.getfield 35, 3) := by decide +kernel
theorem dX9_about_68 : decode cX9_about 68 = .ok (.getfield 104, 3) := by decide +kernel
theorem dX9_about_71 : decode cX9_about 71 = .ok (.ireturn, 1) := by decide +kernel
theorem dX9_about_72 : decode cX9_about 72 = .ok (.aload_n 0, 1) := by decide +kernel
theorem dX9_about_73 : decode cX9_about 73 = .ok (.getfield 35, 3) := by decide +kernel
theorem dX9_about_76 : decode cX9_about 76 = .ok (.getfield 101, 3) := by decide +kernel
theorem dX9_about_79 : decode cX9_about 79 = .ok (.ireturn, 1) := by decide +kernel
theorem dX9_about_80 : decode cX9_about 80 = .ok (.aload_n 0, 1) := by decide +kernel
theorem dX9_about_81 : decode cX9_about 81 = .ok (.getfield 35, 3) := by decide +kernel
theorem dX9_about_84 : decode cX9_about 84 = .ok (.getfield 107, 3) := by decide +kernel
theorem dX9_about_87 : decode cX9_about 87 = .ok (.getfield 110, 3) := by decide +kernel
theorem dX9_about_90 : decode cX9_about 90 = .ok (.ireturn, 1) := by decide +kernel
theorem dX9_about_91 : decode cX9_about 91 = .ok (.aload_n 0, 1) := by decide +kernel
theorem dX9_about_92 : decode cX9_about 92 = .ok (.getfield 35, 3) := by decide +kernel
theorem dX9_about_95 : decode cX9_about 95 = .ok (.getfield 107, 3) := by decide +kernel
theorem dX9_about_98 : decode cX9_about 98 = .ok (.getfield 111, 3) := by decide +kernel
theorem dX9_about_101 : decode cX9_about 101 = .ok (.ireturn, 1) := by decide +kernel
theorem dX9_about_102 : decode cX9_about 102 = .ok (.aload_n 0, 1) := by decide +kernel
theorem dX9_about_103 : decode cX9_about 103 = .ok (.getfield 35, 3) := by decide +kernel
theorem dX9_about_106 : decode cX9_about 106 = .ok (.getfield 107, 3) := by decide +kernel
theorem dX9_about_109 : decode cX9_about 109 = .ok (.iconst 1, 1) := by decide +kernel
theorem dX9_about_110 : decode cX9_about 110 = .ok (.invokevirtual 114, 3) := by decide +kernel
theorem dX9_about_113 : decode cX9_about 113 = .ok (.ifCond .eq 7, 3) := by decide +kernel
theorem dX9_about_116 : decode cX9_about 116 = .ok (.iconst 1, 1) := by decide +kernel
theorem dX9_about_117 : decode cX9_about 117 = .ok (.goto 4, 3) := by decide +kernel
theorem dX9_about_120 : decode cX9_about 120 = .ok (.iconst 0, 1) := by decide +kernel
theorem dX9_about_121 : decode cX9_about 121 = .ok (.ireturn, 1) := by decide +kernel
theorem dX9_about_122 : decode cX9_about 122 = .ok (.aload_n 0, 1) := by decide +kernel
theorem dX9_about_123 : decode cX9_about 123 = .ok (.getfield 60, 3) := by decide +kernel
theorem dX9_about_126 : decode cX9_about 126 = .ok (.aload_n 0, 1) := by decide +kernel
theorem dX9_about_127 : decode cX9_about 127 = .ok (.getfield 35, 3) := by decide +kernel
theorem dX9_about_130 : decode cX9_about 130 = .ok (.iconst 0, 1) := by decide +kernel
theorem dX9_about_131 : decode cX9_about 131 = .ok (.invokevirtual 118, 3) := by decide +kernel
theorem dX9_about_134 : decode cX9_about 134 = .ok (.aload_n 0, 1) := by decide +kernel
theorem dX9_about_135 : decode cX9_about 135 = .ok (.getfield 60, 3) := by decide +kernel
theorem dX9_about_138 : decode cX9_about 138 = .ok (.getfield 122, 3) := by decide +kernel
theorem dX9_about_141 : decode cX9_about 141 = .ok (.ireturn, 1) := by decide +kernel
theorem dX9_about_142 : decode cX9_about 142 = .ok (.aload_n 0, 1) := by decide +kernel
theorem dX9_about_143 : decode cX9_about 143 = .ok (.getfield 35, 3) := by decide +kernel
theorem dX9_about_146 : decode cX9_about 146 = .ok (.invokevirtual 125, 3) := by decide +kernel
theorem dX9_about_149 : decode cX9_about 149 = .ok (.ireturn, 1) := by decide +kernel
theorem dX9_about_150 : decode cX9_about 150 = .ok (.aload_n 0, 1) := by decide +kernel
theorem dX9_about_151 : decode cX9_about 151 = .ok (.getfield 60, 3) := by decide +kernel
theorem dX9_about_154 : decode cX9_about 154 = .ok (.aload_n 0, 1) := by decide +kernel
theorem dX9_about_155 : decode cX9_about 155 = .ok (.getfield 35, 3) := by decide +kernel
theorem dX9_about_158 : decode cX9_about 158 = .ok (.iconst 0, 1) := by decide +kernel
theorem dX9_about_159 : decode cX9_about 159 = .ok (.invokevirtual 118, 3) := by decide +kernel
theorem dX9_about_162 : decode cX9_about 162 = .ok (.aload_n 0, 1) := by decide +kernel
theorem dX9_about_163 : decode cX9_about 163 = .ok (.getfield 60, 3) := by decide +kernel
theorem dX9_about_166 : decode cX9_about 166 = .ok (.getfield 128, 3) := by decide +kernel
theorem dX9_about_169 : decode cX9_about 169 = .ok (.ireturn, 1) := by decide +kernel
theorem dX9_step_0 : decode cX9_step 0 = .ok (.aload_n 0, 1) := by decide +kernel
theorem dX9_step_1 : decode cX9_step 1 = .ok (.getfield 35, 3) := by decide +kernel
theorem dX9_step_4 : decode cX9_step 4 = .ok (.iload_n 1, 1) := by decide +kernel
theorem dX9_step_5 : decode cX9_step 5 = .ok (.invokevirtual 131, 3) := by decide +kernel
theorem dX9_step_8 : decode cX9_step 8 = .ok (.iconst 1, 1) := by decide +kernel
theorem dX9_step_9 : decode cX9_step 9 = .ok (.invokestatic 74, 3) := by decide +kernel
theorem dX9_step_12 : decode cX9_step 12 = .ok (.iload_n 2, 1) := by decide +kernel
theorem dX9_step_13 : decode cX9_step 13 = .ok (.ifCond .lt 12, 3) := by decide +kernel
theorem dX9_step_16 : decode cX9_step 16 = .ok (.iload_n 2, 1) := by decide +kernel
theorem dX9_step_17 : decode cX9_step 17 = .ok (.iconst 3, 1) := by decide +kernel
theorem dX9_step_18 : decode cX9_step 18 = .ok (.if_icmp .gt 7, 3) := by decide +kernel
theorem dX9_step_21 : decode cX9_step 21 = .ok (.iconst 1, 1) := by decide +kernel
theorem dX9_step_22 : decode cX9_step 22 = .ok (.goto 4, 3) := by decide +kernel
theorem dX9_step_25 : decode cX9_step 25 = .ok (.iconst 0, 1) := by decide +kernel
theorem dX9_step_26 : decode cX9_step 26 = .ok (.iconst 2, 1) := by decide +kernel
theorem dX9_step_27 : decode cX9_step 27 = .ok (.invokestatic 74, 3) := by decide +kernel
theorem dX9_step_30 : decode cX9_step 30 = .ok (.iload_n 2, 1) := by decide +kernel
theorem dX9_step_31 : decode cX9_step 31 = .ok (.tableswitch 55 0 2 #[25, 35, 45], 25) := by decide +kernel
theorem dX9_step_56 : decode cX9_step 56 = .ok (.aload_n 0, 1) := by decide +kernel
theorem dX9_step_57 : decode cX9_step 57 = .ok (.getfield 35, 3) := by decide +kernel
theorem dX9_step_60 : decode cX9_step 60 = .ok (.getfield 134, 3) := by decide +kernel
theorem dX9_step_63 : decode cX9_step 63 = .ok (.iload_n 1, 1) := by decide +kernel
theorem dX9_step_64 : decode cX9_step 64 = .ok (.iaload, 1) := by decide +kernel
theorem dX9_step_65 : decode cX9_step 65 = .ok (.ireturn, 1) := by decide +kernel
theorem dX9_step_66 : decode cX9_step 66 = .ok (.aload_n 0, 1) := by decide +kernel
theorem dX9_step_67 : decode cX9_step 67 = .ok (.getfield 35, 3) := by decide +kernel
theorem dX9_step_70 : decode cX9_step 70 = .ok (.getfield 138, 3) := by decide +kernel
theorem dX9_step_73 : decode cX9_step 73 = .ok (.iload_n 1, 1) := by decide +kernel
theorem dX9_step_74 : decode cX9_step 74 = .ok (.iaload, 1) := by decide +kernel
theorem dX9_step_75 : decode cX9_step 75 = .ok (.ireturn, 1) := by decide +kernel
theorem dX9_step_76 : decode cX9_step 76 = .ok (.aload_n 0, 1) := by decide +kernel
theorem dX9_step_77 : decode cX9_step 77 = .ok (.getfield 35, 3) := by decide +kernel
theorem dX9_step_80 : decode cX9_step 80 = .ok (.getfield 141, 3) := by decide +kernel
theorem dX9_step_83 : decode cX9_step 83 = .ok (.iload_n 1, 1) := by decide +kernel
theorem dX9_step_84 : decode cX9_step 84 = .ok (.iaload, 1) := by decide +kernel
theorem dX9_step_85 : decode cX9_step 85 = .ok (.ireturn, 1) := by decide +kernel
theorem dX9_step_86 : decode cX9_step 86 = .ok (.aload_n 0, 1) := by decide +kernel
theorem dX9_step_87 : decode cX9_step 87 = .ok (.getfield 35, 3) := by decide +kernel
theorem dX9_step_90 : decode cX9_step 90 = .ok (.getfield 144, 3) := by decide +kernel
theorem dX9_step_93 : decode cX9_step 93 = .ok (.iload_n 1, 1) := by decide +kernel
theorem dX9_step_94 : decode cX9_step 94 = .ok (.iaload, 1) := by decide +kernel
theorem dX9_step_95 : decode cX9_step 95 = .ok (.ireturn, 1) := by decide +kernel
theorem dX9_person_0 : decode cX9_person 0 = .ok (.aload_n 0, 1) := by decide +kernel
theorem dX9_person_1 : decode cX9_person 1 = .ok (.getfield 35, 3) := by decide +kernel
theorem dX9_person_4 : decode cX9_person 4 = .ok (.iload_n 1, 1) := by decide +kernel
theorem dX9_person_5 : decode cX9_person 5 = .ok (.invokevirtual 147, 3) := by decide +kernel
theorem dX9_person_8 : decode cX9_person 8 = .ok (.iconst 1, 1) := by decide +kernel
theorem dX9_person_9 : decode cX9_person 9 = .ok (.invokestatic 74, 3) := by decide +kernel
theorem dX9_person_12 : decode cX9_person 12 = .ok (.iload_n 2, 1) := by decide +kernel
theorem dX9_person_13 : decode cX9_person 13 = .ok (.ifCond .lt 12, 3) := by decide +kernel
theorem dX9_person_16 : decode cX9_person 16 = .ok (.iload_n 2, 1) := by decide +kernel
theorem dX9_person_17 : decode cX9_person 17 = .ok (.iconst 3, 1) := by decide +kernel
theorem dX9_person_18 : decode cX9_person 18 = .ok (.if_icmp .gt 7, 3) := by decide +kernel
theorem dX9_person_21 : decode cX9_person 21 = .ok (.iconst 1, 1) := by decide +kernel
theorem dX9_person_22 : decode cX9_person 22 = .ok (.goto 4, 3) := by decide +kernel
theorem dX9_person_25 : decode cX9_person 25 = .ok (.iconst 0, 1) := by decide +kernel
theorem dX9_person_26 : decode cX9_person 26 = .ok (.iconst 2, 1) := by decide +kernel
theorem dX9_person_27 : decode cX9_person 27 = .ok (.invokestatic 74, 3) := by decide +kernel
theorem dX9_person_30 : decode cX9_person 30 = .ok (.iload_n 2, 1) := by decide +kernel
theorem dX9_person_31 : decode cX9_person 31 = .ok (.tableswitch 70 0 2 #[25, 41, 57], 25) := by decide +kernel
theorem dX9_person_56 : decode cX9_person 56 = .ok (.aload_n 0, 1) := by decide +kernel
theorem dX9_person_57 : decode cX9_person 57 = .ok (.getfield 35, 3) := by decide +kernel
theorem dX9_person_60 : decode cX9_person 60 = .ok (.aload_n 0, 1) := by decide +kernel
theorem dX9_person_61 : decode cX9_person 61 = .ok (.getfield 35, 3) := by decide +kernel
theorem dX9_person_64 : decode cX9_person 64 = .ok (.getfield 134, 3) := by decide +kernel
theorem dX9_person_67 : decode cX9_person 67 = .ok (.iload_n 1, 1) := by decide +kernel
theorem dX9_person_68 : decode cX9_person 68 = .ok (.invokevirtual 150, 3) := by decide +kernel
theorem dX9_person_71 : decode cX9_person 71 = .ok (.ireturn, 1) := by decide +kernel
theorem dX9_person_72 : decode cX9_person 72 = .ok (.aload_n 0, 1) := by decide +kernel
theorem dX9_person_73 : decode cX9_person 73 = .ok (.getfield 35, 3) := by decide +kernel
theorem dX9_person_76 : decode cX9_person 76 = .ok (.aload_n 0, 1) := by decide +kernel
theorem dX9_person_77 : decode cX9_person 77 = .ok (.getfield 35, 3) := by decide +kernel
theorem dX9_person_80 : decode cX9_person 80 = .ok (.getfield 141, 3) := by decide +kernel
theorem dX9_person_83 : decode cX9_person 83 = .ok (.iload_n 1, 1) := by decide +kernel
theorem dX9_person_84 : decode cX9_person 84 = .ok (.invokevirtual 150, 3) := by decide +kernel
theorem dX9_person_87 : decode cX9_person 87 = .ok (.ireturn, 1) := by decide +kernel
theorem dX9_person_88 : decode cX9_person 88 = .ok (.aload_n 0, 1) := by decide +kernel
theorem dX9_person_89 : decode cX9_person 89 = .ok (.getfield 60, 3) := by decide +kernel
theorem dX9_person_92 : decode cX9_person 92 = .ok (.aload_n 0, 1) := by decide +kernel
theorem dX9_person_93 : decode cX9_person 93 = .ok (.getfield 35, 3) := by decide +kernel
theorem dX9_person_96 : decode cX9_person 96 = .ok (.iload_n 1, 1) := by decide +kernel
theorem dX9_person_97 : decode cX9_person 97 = .ok (.invokevirtual 154, 3) := by decide +kernel
theorem dX9_person_100 : decode cX9_person 100 = .ok (.ireturn, 1) := by decide +kernel
theorem dX9_person_101 : decode cX9_person 101 = .ok (.aload_n 0, 1) := by decide +kernel
theorem dX9_person_102 : decode cX9_person 102 = .ok (.getfield 60, 3) := by decide +kernel
theorem dX9_person_105 : decode cX9_person 105 = .ok (.aload_n 0, 1) := by decide +kernel
theorem dX9_person_106 : decode cX9_person 106 = .ok (.getfield 35, 3) := by decide +kernel
theorem dX9_person_109 : decode cX9_person 109 = .ok (.iload_n 1, 1) := by decide +kernel
theorem dX9_person_110 : decode cX9_person 110 = .ok (.invokevirtual 158, 3) := by decide +kernel
theorem dX9_person_113 : decode cX9_person 113 = .ok (.ireturn, 1) := by decide +kernel
theorem dX9_find_0 : decode cX9_find 0 = .ok (.aload_n 0, 1) := by decide +kernel
theorem dX9_find_1 : decode cX9_find 1 = .ok (.getfield 35, 3) := by decide +kernel
theorem dX9_find_4 : decode cX9_find 4 = .ok (.iload_n 1, 1) := by decide +kernel
theorem dX9_find_5 : decode cX9_find 5 = .ok (.iload_n 3, 1) := by decide +kernel
theorem dX9_find_6 : decode cX9_find 6 = .ok (.invokevirtual 161, 3) := by decide +kernel
theorem dX9_find_9 : decode cX9_find 9 = .ok (.iconst 1, 1) := by decide +kernel
theorem dX9_find_10 : decode cX9_find 10 = .ok (.invokestatic 74, 3) := by decide +kernel
theorem dX9_find_13 : decode cX9_find 13 = .ok (.iload_n 1, 1) := by decide +kernel
theorem dX9_find_14 : decode cX9_find 14 = .ok (.iload_n 3, 1) := by decide +kernel
theorem dX9_find_15 : decode cX9_find 15 = .ok (.if_icmp .eq 14, 3) := by decide +kernel
theorem dX9_find_18 : decode cX9_find 18 = .ok (.iload_n 2, 1) := by decide +kernel
theorem dX9_find_19 : decode cX9_find 19 = .ok (.invokestatic 165, 3) := by decide +kernel
theorem dX9_find_22 : decode cX9_find 22 = .ok (.ifCond .eq 7, 3) := by decide +kernel
theorem dX9_find_25 : decode cX9_find 25 = .ok (.iconst 1, 1) := by decide +kernel
theorem dX9_find_26 : decode cX9_find 26 = .ok (.goto 4, 3) := by decide +kernel
theorem dX9_find_29 : decode cX9_find 29 = .ok (.iconst 0, 1) := by decide +kernel
theorem dX9_find_30 : decode cX9_find 30 = .ok (.iconst 2, 1) := by decide +kernel
theorem dX9_find_31 : decode cX9_find 31 = .ok (.invokestatic 74, 3) := by decide +kernel
theorem dX9_find_34 : decode cX9_find 34 = .ok (.aload_n 0, 1) := by decide +kernel
theorem dX9_find_35 : decode cX9_find 35 = .ok (.getfield 35, 3) := by decide +kernel
theorem dX9_find_38 : decode cX9_find 38 = .ok (.iload_n 1, 1) := by decide +kernel
theorem dX9_find_39 : decode cX9_find 39 = .ok (.iload_n 2, 1) := by decide +kernel
theorem dX9_find_40 : decode cX9_find 40 = .ok (.iload_n 3, 1) := by decide +kernel
theorem dX9_find_41 : decode cX9_find 41 = .ok (.invokevirtual 168, 3) := by decide +kernel
theorem dX9_find_44 : decode cX9_find 44 = .ok (.ireturn, 1) := by decide +kernel
theorem dX9_patternAt_0 : decode cX9_patternAt 0 = .ok (.iload_n 1, 1) := by decide +kernel
theorem dX9_patternAt_1 : decode cX9_patternAt 1 = .ok (.ifCond .lt 7, 3) := by decide +kernel
theorem dX9_patternAt_4 : decode cX9_patternAt 4 = .ok (.iconst 1, 1) := by decide +kernel
theorem dX9_patternAt_5 : decode cX9_patternAt 5 = .ok (.goto 4, 3) := by decide +kernel
theorem dX9_patternAt_8 : decode cX9_patternAt 8 = .ok (.iconst 0, 1) := by decide +kernel
theorem dX9_patternAt_9 : decode cX9_patternAt 9 = .ok (.iconst 2, 1) := by decide +kernel
theorem dX9_patternAt_10 : decode cX9_patternAt 10 = .ok (.invokestatic 74, 3) := by decide +kernel
theorem dX9_patternAt_13 : decode cX9_patternAt 13 = .ok (.iload_n 1, 1) := by decide +kernel
theorem dX9_patternAt_14 : decode cX9_patternAt 14 = .ok (.aload_n 0, 1) := by decide +kernel
theorem dX9_patternAt_15 : decode cX9_patternAt 15 = .ok (.getfield 35, 3) := by decide +kernel
theorem dX9_patternAt_18 : decode cX9_patternAt 18 = .ok (.getfield 107, 3) := by decide +kernel
theorem dX9_patternAt_21 : decode cX9_patternAt 21 = .ok (.getfield 110, 3) := by decide +kernel
theorem dX9_patternAt_24 : decode cX9_patternAt 24 = .ok (.if_icmp .ge 18, 3) := by decide +kernel
theorem dX9_patternAt_27 : decode cX9_patternAt 27 = .ok (.aload_n 0, 1) := by decide +kernel
theorem dX9_patternAt_28 : decode cX9_patternAt 28 = .ok (.getfield 35, 3) := by decide +kernel
theorem dX9_patternAt_31 : decode cX9_patternAt 31 = .ok (.getfield 107, 3) := by decide +kernel
theorem dX9_patternAt_34 : decode cX9_patternAt 34 = .ok (.getfield 172, 3) := by decide +kernel
theorem dX9_patternAt_37 : decode cX9_patternAt 37 = .ok (.iload_n 1, 1) := by decide +kernel
theorem dX9_patternAt_38 : decode cX9_patternAt 38 = .ok (.caload, 1) := by decide +kernel
theorem dX9_patternAt_39 : decode cX9_patternAt 39 = .ok (.goto 5, 3) := by decide +kernel
theorem dX9_patternAt_42 : decode cX9_patternAt 42 = .ok (.bipush (-9), 2) := by decide +kernel
theorem dX9_patternAt_44 : decode cX9_patternAt 44 = .ok (.ireturn, 1) := by decide +kernel
theorem dX9_addPerson_0 : decode cX9_addPerson 0 = .ok (.aload_n 0, 1) := by decide +kernel
theorem dX9_addPerson_1 : decode cX9_addPerson 1 = .ok (.getfield 35, 3) := by decide +kernel
theorem dX9_addPerson_4 : decode cX9_addPerson 4 = .ok (.getfield 104, 3) := by decide +kernel
theorem dX9_addPerson_7 : decode cX9_addPerson 7 = .ok (.bipush 8, 2) := by decide +kernel
theorem dX9_addPerson_9 : decode cX9_addPerson 9 = .ok (.if_icmp .ge 7, 3) := by decide +kernel
theorem dX9_addPerson_12 : decode cX9_addPerson 12 = .ok (.iconst 1, 1) := by decide +kernel
theorem dX9_addPerson_13 : decode cX9_addPerson 13 = .ok (.goto 4, 3) := by decide +kernel
theorem dX9_addPerson_16 : decode cX9_addPerson 16 = .ok (.iconst 0, 1) := by decide +kernel
theorem dX9_addPerson_17 : decode cX9_addPerson 17 = .ok (.iconst 3, 1) := by decide +kernel
theorem dX9_addPerson_18 : decode cX9_addPerson 18 = .ok (.invokestatic 74, 3) := by decide +kernel
theorem dX9_addPerson_21 : decode cX9_addPerson 21 = .ok (.aload_n 0, 1) := by decide +kernel
theorem dX9_addPerson_22 : decode cX9_addPerson 22 = .ok (.getfield 45, 3) := by decide +kernel
theorem dX9_addPerson_25 : decode cX9_addPerson 25 = .ok (.aload_n 0, 1) := by decide +kernel
theorem dX9_addPerson_26 : decode cX9_addPerson 26 = .ok (.getfield 35, 3) := by decide +kernel
theorem dX9_addPerson_29 : decode cX9_addPerson 29 = .ok (.invokevirtual 173, 3) := by decide +kernel
theorem dX9_addPerson_32 : decode cX9_addPerson 32 = .ok (.aload_n 0, 1) := by decide +kernel
theorem dX9_addPerson_33 : decode cX9_addPerson 33 = .ok (.getfield 35, 3) := by decide +kernel
theorem dX9_addPerson_36 : decode cX9_addPerson 36 = .ok (.dup, 1) := by decide +kernel
theorem dX9_addPerson_37 : decode cX9_addPerson 37 = .ok (.getfield 104, 3) := by decide +kernel
theorem dX9_addPerson_40 : decode cX9_addPerson 40 = .ok (.iconst 1, 1) := by decide +kernel
theorem dX9_addPerson_41 : decode cX9_addPerson 41 = .ok (.iadd, 1) := by decide +kernel
theorem dX9_addPerson_42 : decode cX9_addPerson 42 = .ok (.putfield 104, 3) := by decide +kernel
theorem dX9_addPerson_45 : decode cX9_addPerson 45 = .ok (.aload_n 0, 1) := by decide +kernel
theorem dX9_addPerson_46 : decode cX9_addPerson 46 = .ok (.getfield 35, 3) := by decide +kernel
theorem dX9_addPerson_49 : decode cX9_addPerson 49 = .ok (.getfield 104, 3) := by decide +kernel
theorem dX9_addPerson_52 : decode cX9_addPerson 52 = .ok (.iconst 1, 1) := by decide +kernel
theorem dX9_addPerson_53 : decode cX9_addPerson 53 = .ok (.isub, 1) := by decide +kernel
theorem dX9_addPerson_54 : decode cX9_addPerson 54 = .ok (.ireturn, 1) := by decide +kernel
theorem dX9_addStep_0 : decode cX9_addStep 0 = .ok (.aload_n 0, 1) := by decide +kernel
theorem dX9_addStep_1 : decode cX9_addStep 1 = .ok (.getfield 35, 3) := by decide +kernel
theorem dX9_addStep_4 : decode cX9_addStep 4 = .ok (.iload_n 1, 1) := by decide +kernel
theorem dX9_addStep_5 : decode cX9_addStep 5 = .ok (.iload_n 2, 1) := by decide +kernel
theorem dX9_addStep_6 : decode cX9_addStep 6 = .ok (.iload_n 3, 1) := by decide +kernel
theorem dX9_addStep_7 : decode cX9_addStep 7 = .ok (.iload 4, 2) := by decide +kernel
theorem dX9_addStep_9 : decode cX9_addStep 9 = .ok (.invokevirtual 176, 3) := by decide +kernel
theorem dX9_addStep_12 : decode cX9_addStep 12 = .ok (.invokestatic 180, 3) := by decide +kernel
theorem dX9_addStep_15 : decode cX9_addStep 15 = .ok (.aload_n 0, 1) := by decide +kernel
theorem dX9_addStep_16 : decode cX9_addStep 16 = .ok (.getfield 45, 3) := by decide +kernel
theorem dX9_addStep_19 : decode cX9_addStep 19 = .ok (.aload_n 0, 1) := by decide +kernel
theorem dX9_addStep_20 : decode cX9_addStep 20 = .ok (.getfield 35, 3) := by decide +kernel
theorem dX9_addStep_23 : decode cX9_addStep 23 = .ok (.invokevirtual 173, 3) := by decide +kernel
theorem dX9_addStep_26 : decode cX9_addStep 26 = .ok (.aload_n 0, 1) := by decide +kernel
theorem dX9_addStep_27 : decode cX9_addStep 27 = .ok (.getfield 35, 3) := by decide +kernel
theorem dX9_addStep_30 : decode cX9_addStep 30 = .ok (.iload_n 1, 1) := by decide +kernel
theorem dX9_addStep_31 : decode cX9_addStep 31 = .ok (.iload_n 2, 1) := by decide +kernel
theorem dX9_addStep_32 : decode cX9_addStep 32 = .ok (.iload_n 3, 1) := by decide +kernel
theorem dX9_addStep_33 : decode cX9_addStep 33 = .ok (.iload 4, 2) := by decide +kernel
theorem dX9_addStep_35 : decode cX9_addStep 35 = .ok (.invokevirtual 184, 3) := by decide +kernel
theorem dX9_addStep_38 : decode cX9_addStep 38 = .ok (.ireturn, 1) := by decide +kernel
theorem dX9_removeStep_0 : decode cX9_removeStep 0 = .ok (.aload_n 0, 1) := by decide +kernel
theorem dX9_removeStep_1 : decode cX9_removeStep 1 = .ok (.getfield 35, 3) := by decide +kernel
theorem dX9_removeStep_4 : decode cX9_removeStep 4 = .ok (.iload_n 1, 1) := by decide +kernel
theorem dX9_removeStep_5 : decode cX9_removeStep 5 = .ok (.invokevirtual 131, 3) := by decide +kernel
theorem dX9_removeStep_8 : decode cX9_removeStep 8 = .ok (.iconst 1, 1) := by decide +kernel
theorem dX9_removeStep_9 : decode cX9_removeStep 9 = .ok (.invokestatic 74, 3) := by decide +kernel
theorem dX9_removeStep_12 : decode cX9_removeStep 12 = .ok (.aload_n 0, 1) := by decide +kernel
theorem dX9_removeStep_13 : decode cX9_removeStep 13 = .ok (.getfield 45, 3) := by decide +kernel
theorem dX9_removeStep_16 : decode cX9_removeStep 16 = .ok (.aload_n 0, 1) := by decide +kernel
theorem dX9_removeStep_17 : decode cX9_removeStep 17 = .ok (.getfield 35, 3) := by decide +kernel
theorem dX9_removeStep_20 : decode cX9_removeStep 20 = .ok (.invokevirtual 173, 3) := by decide +kernel
theorem dX9_removeStep_23 : decode cX9_removeStep 23 = .ok (.aload_n 0, 1) := by decide +kernel
theorem dX9_removeStep_24 : decode cX9_removeStep 24 = .ok (.getfield 35, 3) := by decide +kernel
theorem dX9_removeStep_27 : decode cX9_removeStep 27 = .ok (.iload_n 1, 1) := by decide +kernel
theorem dX9_removeStep_28 : decode cX9_removeStep 28 = .ok (.invokevirtual 187, 3) := by decide +kernel
theorem dX9_removeStep_31 : decode cX9_removeStep 31 = .ok (.aload_n 0, 1) := by decide +kernel
theorem dX9_removeStep_32 : decode cX9_removeStep 32 = .ok (.getfield 35, 3) := by decide +kernel
theorem dX9_removeStep_35 : decode cX9_removeStep 35 = .ok (.getfield 101, 3) := by decide +kernel
theorem dX9_removeStep_38 : decode cX9_removeStep 38 = .ok (.ireturn, 1) := by decide +kernel
theorem dX9_setCost_0 : decode cX9_setCost 0 = .ok (.aload_n 0, 1) := by decide +kernel
theorem dX9_setCost_1 : decode cX9_setCost 1 = .ok (.getfield 35, 3) := by decide +kernel
theorem dX9_setCost_4 : decode cX9_setCost 4 = .ok (.iload_n 1, 1) := by decide +kernel
theorem dX9_setCost_5 : decode cX9_setCost 5 = .ok (.iload_n 2, 1) := by decide +kernel
theorem dX9_setCost_6 : decode cX9_setCost 6 = .ok (.invokevirtual 190, 3) := by decide +kernel
theorem dX9_setCost_9 : decode cX9_setCost 9 = .ok (.invokestatic 180, 3) := by decide +kernel
theorem dX9_setCost_12 : decode cX9_setCost 12 = .ok (.aload_n 0, 1) := by decide +kernel
theorem dX9_setCost_13 : decode cX9_setCost 13 = .ok (.getfield 45, 3) := by decide +kernel
theorem dX9_setCost_16 : decode cX9_setCost 16 = .ok (.aload_n 0, 1) := by decide +kernel
theorem dX9_setCost_17 : decode cX9_setCost 17 = .ok (.getfield 35, 3) := by decide +kernel
theorem dX9_setCost_20 : decode cX9_setCost 20 = .ok (.invokevirtual 173, 3) := by decide +kernel
theorem dX9_setCost_23 : decode cX9_setCost 23 = .ok (.aload_n 0, 1) := by decide +kernel
theorem dX9_setCost_24 : decode cX9_setCost 24 = .ok (.getfield 35, 3) := by decide +kernel
theorem dX9_setCost_27 : decode cX9_setCost 27 = .ok (.getfield 144, 3) := by decide +kernel
theorem dX9_setCost_30 : decode cX9_setCost 30 = .ok (.iload_n 1, 1) := by decide +kernel
theorem dX9_setCost_31 : decode cX9_setCost 31 = .ok (.iaload, 1) := by decide +kernel
theorem dX9_setCost_32 : decode cX9_setCost 32 = .ok (.istore_n 3, 1) := by decide +kernel
theorem dX9_setCost_33 : decode cX9_setCost 33 = .ok (.aload_n 0, 1) := by decide +kernel
theorem dX9_setCost_34 : decode cX9_setCost 34 = .ok (.getfield 35, 3) := by decide +kernel
theorem dX9_setCost_37 : decode cX9_setCost 37 = .ok (.getfield 144, 3) := by decide +kernel
theorem dX9_setCost_40 : decode cX9_setCost 40 = .ok (.iload_n 1, 1) := by decide +kernel
theorem dX9_setCost_41 : decode cX9_setCost 41 = .ok (.iload_n 2, 1) := by decide +kernel
theorem dX9_setCost_42 : decode cX9_setCost 42 = .ok (.iastore, 1) := by decide +kernel
theorem dX9_setCost_43 : decode cX9_setCost 43 = .ok (.iload_n 3, 1) := by decide +kernel
theorem dX9_setCost_44 : decode cX9_setCost 44 = .ok (.ireturn, 1) := by decide +kernel
theorem dX9_turn_0 : decode cX9_turn 0 = .ok (.aload_n 0, 1) := by decide +kernel
theorem dX9_turn_1 : decode cX9_turn 1 = .ok (.getfield 35, 3) := by decide +kernel
theorem dX9_turn_4 : decode cX9_turn 4 = .ok (.iload_n 1, 1) := by decide +kernel
theorem dX9_turn_5 : decode cX9_turn 5 = .ok (.invokevirtual 194, 3) := by decide +kernel
theorem dX9_turn_8 : decode cX9_turn 8 = .ok (.invokestatic 180, 3) := by decide +kernel
theorem dX9_turn_11 : decode cX9_turn 11 = .ok (.aload_n 0, 1) := by decide +kernel
theorem dX9_turn_12 : decode cX9_turn 12 = .ok (.getfield 45, 3) := by decide +kernel
theorem dX9_turn_15 : decode cX9_turn 15 = .ok (.aload_n 0, 1) := by decide +kernel
theorem dX9_turn_16 : decode cX9_turn 16 = .ok (.getfield 35, 3) := by decide +kernel
theorem dX9_turn_19 : decode cX9_turn 19 = .ok (.invokevirtual 173, 3) := by decide +kernel
theorem dX9_turn_22 : decode cX9_turn 22 = .ok (.aload_n 0, 1) := by decide +kernel
theorem dX9_turn_23 : decode cX9_turn 23 = .ok (.getfield 35, 3) := by decide +kernel
theorem dX9_turn_26 : decode cX9_turn 26 = .ok (.iload_n 1, 1) := by decide +kernel
theorem dX9_turn_27 : decode cX9_turn 27 = .ok (.invokevirtual 198, 3) := by decide +kernel
theorem dX9_turn_30 : decode cX9_turn 30 = .ok (.aload_n 0, 1) := by decide +kernel
theorem dX9_turn_31 : decode cX9_turn 31 = .ok (.getfield 35, 3) := by decide +kernel
theorem dX9_turn_34 : decode cX9_turn 34 = .ok (.getfield 134, 3) := by decide +kernel
theorem dX9_turn_37 : decode cX9_turn 37 = .ok (.iload_n 1, 1) := by decide +kernel
theorem dX9_turn_38 : decode cX9_turn 38 = .ok (.iaload, 1) := by decide +kernel
theorem dX9_turn_39 : decode cX9_turn 39 = .ok (.ireturn, 1) := by decide +kernel
theorem dX9_exchange_0 : decode cX9_exchange 0 = .ok (.iload_n 1, 1) := by decide +kernel
theorem dX9_exchange_1 : decode cX9_exchange 1 = .ok (.invokestatic 165, 3) := by decide +kernel
theorem dX9_exchange_4 : decode cX9_exchange 4 = .ok (.ifCond .eq 14, 3) := by decide +kernel
theorem dX9_exchange_7 : decode cX9_exchange 7 = .ok (.iload_n 2, 1) := by decide +kernel
theorem dX9_exchange_8 : decode cX9_exchange 8 = .ok (.invokestatic 165, 3) := by decide +kernel
theorem dX9_exchange_11 : decode cX9_exchange 11 = .ok (.ifCond .eq 7, 3) := by decide +kernel
theorem dX9_exchange_14 : decode cX9_exchange 14 = .ok (.iconst 1, 1) := by decide +kernel
theorem dX9_exchange_15 : decode cX9_exchange 15 = .ok (.goto 4, 3) := by decide +kernel
theorem dX9_exchange_18 : decode cX9_exchange 18 = .ok (.iconst 0, 1) := by decide +kernel
theorem dX9_exchange_19 : decode cX9_exchange 19 = .ok (.iconst 2, 1) := by decide +kernel
theorem dX9_exchange_20 : decode cX9_exchange 20 = .ok (.invokestatic 74, 3) := by decide +kernel
theorem dX9_exchange_23 : decode cX9_exchange 23 = .ok (.aload_n 0, 1) := by decide +kernel
theorem dX9_exchange_24 : decode cX9_exchange 24 = .ok (.getfield 45, 3) := by decide +kernel
theorem dX9_exchange_27 : decode cX9_exchange 27 = .ok (.aload_n 0, 1) := by decide +kernel
theorem dX9_exchange_28 : decode cX9_exchange 28 = .ok (.getfield 35, 3) := by decide +kernel
theorem dX9_exchange_31 : decode cX9_exchange 31 = .ok (.invokevirtual 173, 3) := by decide +kernel
theorem dX9_exchange_34 : decode cX9_exchange 34 = .ok (.aload_n 0, 1) := by decide +kernel
theorem dX9_exchange_35 : decode cX9_exchange 35 = .ok (.getfield 35, 3) := by decide +kernel
theorem dX9_exchange_38 : decode cX9_exchange 38 = .ok (.iload_n 1, 1) := by decide +kernel
theorem dX9_exchange_39 : decode cX9_exchange 39 = .ok (.iload_n 2, 1) := by decide +kernel
theorem dX9_exchange_40 : decode cX9_exchange 40 = .ok (.invokevirtual 201, 3) := by decide +kernel
theorem dX9_exchange_43 : decode cX9_exchange 43 = .ok (.ireturn, 1) := by decide +kernel
theorem dX9_take_0 : decode cX9_take 0 = .ok (.aload_n 0, 1) := by decide +kernel
theorem dX9_take_1 : decode cX9_take 1 = .ok (.getfield 12, 3) := by decide +kernel
theorem dX9_take_4 : decode cX9_take 4 = .ok (.invokevirtual 86, 3) := by decide +kernel
theorem dX9_take_7 : decode cX9_take 7 = .ok (.bipush (-9), 2) := by decide +kernel
theorem dX9_take_9 : decode cX9_take 9 = .ok (.if_icmp .ne 7, 3) := by decide +kernel
theorem dX9_take_12 : decode cX9_take 12 = .ok (.iconst 1, 1) := by decide +kernel
theorem dX9_take_13 : decode cX9_take 13 = .ok (.goto 4, 3) := by decide +kernel
theorem dX9_take_16 : decode cX9_take 16 = .ok (.iconst 0, 1) := by decide +kernel
theorem dX9_take_17 : decode cX9_take 17 = .ok (.iconst 3, 1) := by decide +kernel
theorem dX9_take_18 : decode cX9_take 18 = .ok (.invokestatic 74, 3) := by decide +kernel
theorem dX9_take_21 : decode cX9_take 21 = .ok (.aload_n 0, 1) := by decide +kernel
theorem dX9_take_22 : decode cX9_take 22 = .ok (.getfield 45, 3) := by decide +kernel
theorem dX9_take_25 : decode cX9_take 25 = .ok (.aload_n 0, 1) := by decide +kernel
theorem dX9_take_26 : decode cX9_take 26 = .ok (.getfield 35, 3) := by decide +kernel
theorem dX9_take_29 : decode cX9_take 29 = .ok (.invokevirtual 173, 3) := by decide +kernel
theorem dX9_take_32 : decode cX9_take 32 = .ok (.aload_n 0, 1) := by decide +kernel
theorem dX9_take_33 : decode cX9_take 33 = .ok (.getfield 35, 3) := by decide +kernel
theorem dX9_take_36 : decode cX9_take 36 = .ok (.aload_n 0, 1) := by decide +kernel
theorem dX9_take_37 : decode cX9_take 37 = .ok (.getfield 26, 3) := by decide +kernel
theorem dX9_take_40 : decode cX9_take 40 = .ok (.aload_n 0, 1) := by decide +kernel
theorem dX9_take_41 : decode cX9_take 41 = .ok (.getfield 12, 3) := by decide +kernel
theorem dX9_take_44 : decode cX9_take 44 = .ok (.invokevirtual 204, 3) := by decide +kernel
theorem dX9_take_47 : decode cX9_take 47 = .ok (.putfield 107, 3) := by decide +kernel
theorem dX9_take_50 : decode cX9_take 50 = .ok (.aload_n 0, 1) := by decide +kernel
theorem dX9_take_51 : decode cX9_take 51 = .ok (.getfield 35, 3) := by decide +kernel
theorem dX9_take_54 : decode cX9_take 54 = .ok (.getfield 107, 3) := by decide +kernel
theorem dX9_take_57 : decode cX9_take 57 = .ok (.getfield 111, 3) := by decide +kernel
theorem dX9_take_60 : decode cX9_take 60 = .ok (.ireturn, 1) := by decide +kernel
theorem dX9_undo_0 : decode cX9_undo 0 = .ok (.aload_n 0, 1) := by decide +kernel
theorem dX9_undo_1 : decode cX9_undo 1 = .ok (.getfield 45, 3) := by decide +kernel
theorem dX9_undo_4 : decode cX9_undo 4 = .ok (.getfield 208, 3) := by decide +kernel
theorem dX9_undo_7 : decode cX9_undo 7 = .ok (.ifCond .le 7, 3) := by decide +kernel
theorem dX9_undo_10 : decode cX9_undo 10 = .ok (.iconst 1, 1) := by decide +kernel
theorem dX9_undo_11 : decode cX9_undo 11 = .ok (.goto 4, 3) := by decide +kernel
theorem dX9_undo_14 : decode cX9_undo 14 = .ok (.iconst 0, 1) := by decide +kernel
theorem dX9_undo_15 : decode cX9_undo 15 = .ok (.iconst 3, 1) := by decide +kernel
theorem dX9_undo_16 : decode cX9_undo 16 = .ok (.invokestatic 74, 3) := by decide +kernel
theorem dX9_undo_19 : decode cX9_undo 19 = .ok (.aload_n 0, 1) := by decide +kernel
theorem dX9_undo_20 : decode cX9_undo 20 = .ok (.getfield 45, 3) := by decide +kernel
theorem dX9_undo_23 : decode cX9_undo 23 = .ok (.aload_n 0, 1) := by decide +kernel
theorem dX9_undo_24 : decode cX9_undo 24 = .ok (.getfield 35, 3) := by decide +kernel
theorem dX9_undo_27 : decode cX9_undo 27 = .ok (.invokevirtual 211, 3) := by decide +kernel
theorem dX9_undo_30 : decode cX9_undo 30 = .ok (.aload_n 0, 1) := by decide +kernel
theorem dX9_undo_31 : decode cX9_undo 31 = .ok (.getfield 45, 3) := by decide +kernel
theorem dX9_undo_34 : decode cX9_undo 34 = .ok (.getfield 208, 3) := by decide +kernel
theorem dX9_undo_37 : decode cX9_undo 37 = .ok (.ireturn, 1) := by decide +kernel
theorem dX9_cost_0 : decode cX9_cost 0 = .ok (.aload_n 0, 1) := by decide +kernel
theorem dX9_cost_1 : decode cX9_cost 1 = .ok (.getfield 35, 3) := by decide +kernel
theorem dX9_cost_4 : decode cX9_cost 4 = .ok (.iload_n 1, 1) := by decide +kernel
theorem dX9_cost_5 : decode cX9_cost 5 = .ok (.iload_n 2, 1) := by decide +kernel
theorem dX9_cost_6 : decode cX9_cost 6 = .ok (.invokevirtual 161, 3) := by decide +kernel
theorem dX9_cost_9 : decode cX9_cost 9 = .ok (.iconst 1, 1) := by decide +kernel
theorem dX9_cost_10 : decode cX9_cost 10 = .ok (.invokestatic 74, 3) := by decide +kernel
theorem dX9_cost_13 : decode cX9_cost 13 = .ok (.aload_n 0, 1) := by decide +kernel
theorem dX9_cost_14 : decode cX9_cost 14 = .ok (.getfield 60, 3) := by decide +kernel
theorem dX9_cost_17 : decode cX9_cost 17 = .ok (.aload_n 0, 1) := by decide +kernel
theorem dX9_cost_18 : decode cX9_cost 18 = .ok (.getfield 35, 3) := by decide +kernel
theorem dX9_cost_21 : decode cX9_cost 21 = .ok (.iload_n 1, 1) := by decide +kernel
theorem dX9_cost_22 : decode cX9_cost 22 = .ok (.iload_n 2, 1) := by decide +kernel
theorem dX9_cost_23 : decode cX9_cost 23 = .ok (.iconst 0, 1) := by decide +kernel
theorem dX9_cost_24 : decode cX9_cost 24 = .ok (.sipush 1512, 3) := by decide +kernel
theorem dX9_cost_27 : decode cX9_cost 27 = .ok (.invokevirtual 214, 3) := by decide +kernel
theorem dX9_cost_30 : decode cX9_cost 30 = .ok (.ireturn, 1) := by decide +kernel
theorem dX9_length_0 : decode cX9_length 0 = .ok (.aload_n 0, 1) := by decide +kernel
theorem dX9_length_1 : decode cX9_length 1 = .ok (.getfield 35, 3) := by decide +kernel
theorem dX9_length_4 : decode cX9_length 4 = .ok (.iload_n 1, 1) := by decide +kernel
theorem dX9_length_5 : decode cX9_length 5 = .ok (.iload_n 2, 1) := by decide +kernel
theorem dX9_length_6 : decode cX9_length 6 = .ok (.invokevirtual 161, 3) := by decide +kernel
theorem dX9_length_9 : decode cX9_length 9 = .ok (.iconst 1, 1) := by decide +kernel
theorem dX9_length_10 : decode cX9_length 10 = .ok (.invokestatic 74, 3) := by decide +kernel
theorem dX9_length_13 : decode cX9_length 13 = .ok (.aload_n 0, 1) := by decide +kernel
theorem dX9_length_14 : decode cX9_length 14 = .ok (.getfield 70, 3) := by decide +kernel
theorem dX9_length_17 : decode cX9_length 17 = .ok (.aload_n 0, 1) := by decide +kernel
theorem dX9_length_18 : decode cX9_length 18 = .ok (.getfield 35, 3) := by decide +kernel
theorem dX9_length_21 : decode cX9_length 21 = .ok (.iload_n 2, 1) := by decide +kernel
theorem dX9_length_22 : decode cX9_length 22 = .ok (.invokevirtual 218, 3) := by decide +kernel
theorem dX9_length_25 : decode cX9_length 25 = .ok (.aload_n 0, 1) := by decide +kernel
theorem dX9_length_26 : decode cX9_length 26 = .ok (.getfield 70, 3) := by decide +kernel
theorem dX9_length_29 : decode cX9_length 29 = .ok (.iload_n 1, 1) := by decide +kernel
theorem dX9_length_30 : decode cX9_length 30 = .ok (.invokevirtual 221, 3) := by decide +kernel
theorem dX9_length_33 : decode cX9_length 33 = .ok (.ireturn, 1) := by decide +kernel
theorem dX9_pathAt_0 : decode cX9_pathAt 0 = .ok (.aload_n 0, 1) := by decide +kernel
theorem dX9_pathAt_1 : decode cX9_pathAt 1 = .ok (.getfield 35, 3) := by decide +kernel
theorem dX9_pathAt_4 : decode cX9_pathAt 4 = .ok (.iload_n 1, 1) := by decide +kernel
theorem dX9_pathAt_5 : decode cX9_pathAt 5 = .ok (.iload_n 2, 1) := by decide +kernel
theorem dX9_pathAt_6 : decode cX9_pathAt 6 = .ok (.invokevirtual 161, 3) := by decide +kernel
theorem dX9_pathAt_9 : decode cX9_pathAt 9 = .ok (.iconst 1, 1) := by decide +kernel
theorem dX9_pathAt_10 : decode cX9_pathAt 10 = .ok (.invokestatic 74, 3) := by decide +kernel
theorem dX9_pathAt_13 : decode cX9_pathAt 13 = .ok (.iload_n 3, 1) := by decide +kernel
theorem dX9_pathAt_14 : decode cX9_pathAt 14 = .ok (.ifCond .lt 7, 3) := by decide +kernel
theorem dX9_pathAt_17 : decode cX9_pathAt 17 = .ok (.iconst 1, 1) := by decide +kernel
theorem dX9_pathAt_18 : decode cX9_pathAt 18 = .ok (.goto 4, 3) := by decide +kernel
theorem dX9_pathAt_21 : decode cX9_pathAt 21 = .ok (.iconst 0, 1) := by decide +kernel
theorem dX9_pathAt_22 : decode cX9_pathAt 22 = .ok (.iconst 2, 1) := by decide +kernel
theorem dX9_pathAt_23 : decode cX9_pathAt 23 = .ok (.invokestatic 74, 3) := by decide +kernel
theorem dX9_pathAt_26 : decode cX9_pathAt 26 = .ok (.aload_n 0, 1) := by decide +kernel
theorem dX9_pathAt_27 : decode cX9_pathAt 27 = .ok (.getfield 70, 3) := by decide +kernel
theorem dX9_pathAt_30 : decode cX9_pathAt 30 = .ok (.aload_n 0, 1) := by decide +kernel
theorem dX9_pathAt_31 : decode cX9_pathAt 31 = .ok (.getfield 35, 3) := by decide +kernel
theorem dX9_pathAt_34 : decode cX9_pathAt 34 = .ok (.iload_n 2, 1) := by decide +kernel
theorem dX9_pathAt_35 : decode cX9_pathAt 35 = .ok (.invokevirtual 218, 3) := by decide +kernel
theorem dX9_pathAt_38 : decode cX9_pathAt 38 = .ok (.aload_n 0, 1) := by decide +kernel
theorem dX9_pathAt_39 : decode cX9_pathAt 39 = .ok (.getfield 70, 3) := by decide +kernel
theorem dX9_pathAt_42 : decode cX9_pathAt 42 = .ok (.aload_n 0, 1) := by decide +kernel
theorem dX9_pathAt_43 : decode cX9_pathAt 43 = .ok (.getfield 35, 3) := by decide +kernel
theorem dX9_pathAt_46 : decode cX9_pathAt 46 = .ok (.iload_n 1, 1) := by decide +kernel
theorem dX9_pathAt_47 : decode cX9_pathAt 47 = .ok (.iload_n 3, 1) := by decide +kernel
theorem dX9_pathAt_48 : decode cX9_pathAt 48 = .ok (.invokevirtual 224, 3) := by decide +kernel
theorem dX9_pathAt_51 : decode cX9_pathAt 51 = .ok (.ireturn, 1) := by decide +kernel
theorem dX9_paths_0 : decode cX9_paths 0 = .ok (.aload_n 0, 1) := by decide +kernel
theorem dX9_paths_1 : decode cX9_paths 1 = .ok (.getfield 35, 3) := by decide +kernel
theorem dX9_paths_4 : decode cX9_paths 4 = .ok (.iload_n 1, 1) := by decide +kernel
theorem dX9_paths_5 : decode cX9_paths 5 = .ok (.iload_n 2, 1) := by decide +kernel
theorem dX9_paths_6 : decode cX9_paths 6 = .ok (.invokevirtual 161, 3) := by decide +kernel
theorem dX9_paths_9 : decode cX9_paths 9 = .ok (.iconst 1, 1) := by decide +kernel
theorem dX9_paths_10 : decode cX9_paths 10 = .ok (.invokestatic 74, 3) := by decide +kernel
theorem dX9_paths_13 : decode cX9_paths 13 = .ok (.iload_n 3, 1) := by decide +kernel
theorem dX9_paths_14 : decode cX9_paths 14 = .ok (.ifCond .lt 12, 3) := by decide +kernel
theorem dX9_paths_17 : decode cX9_paths 17 = .ok (.iload_n 3, 1) := by decide +kernel
theorem dX9_paths_18 : decode cX9_paths 18 = .ok (.iconst 4, 1) := by decide +kernel
theorem dX9_paths_19 : decode cX9_paths 19 = .ok (.if_icmp .gt 7, 3) := by decide +kernel
theorem dX9_paths_22 : decode cX9_paths 22 = .ok (.iconst 1, 1) := by decide +kernel
theorem dX9_paths_23 : decode cX9_paths 23 = .ok (.goto 4, 3) := by decide +kernel
theorem dX9_paths_26 : decode cX9_paths 26 = .ok (.iconst 0, 1) := by decide +kernel
theorem dX9_paths_27 : decode cX9_paths 27 = .ok (.iconst 2, 1) := by decide +kernel
theorem dX9_paths_28 : decode cX9_paths 28 = .ok (.invokestatic 74, 3) := by decide +kernel
theorem dX9_paths_31 : decode cX9_paths 31 = .ok (.aload_n 0, 1) := by decide +kernel
theorem dX9_paths_32 : decode cX9_paths 32 = .ok (.getfield 35, 3) := by decide +kernel
theorem dX9_paths_35 : decode cX9_paths 35 = .ok (.iload_n 1, 1) := by decide +kernel
theorem dX9_paths_36 : decode cX9_paths 36 = .ok (.iconst 1, 1) := by decide +kernel
theorem dX9_paths_37 : decode cX9_paths 37 = .ok (.iload_n 2, 1) := by decide +kernel
theorem dX9_paths_38 : decode cX9_paths 38 = .ok (.iload_n 3, 1) := by decide +kernel
theorem dX9_paths_39 : decode cX9_paths 39 = .ok (.invokestatic 228, 3) := by decide +kernel
theorem dX9_paths_42 : decode cX9_paths 42 = .ok (.ireturn, 1) := by decide +kernel
theorem dX9_needed_0 : decode cX9_needed 0 = .ok (.aload_n 0, 1) := by decide +kernel
theorem dX9_needed_1 : decode cX9_needed 1 = .ok (.getfield 35, 3) := by decide +kernel
theorem dX9_needed_4 : decode cX9_needed 4 = .ok (.iload_n 1, 1) := by decide +kernel
theorem dX9_needed_5 : decode cX9_needed 5 = .ok (.iload_n 2, 1) := by decide +kernel
theorem dX9_needed_6 : decode cX9_needed 6 = .ok (.invokevirtual 161, 3) := by decide +kernel
theorem dX9_needed_9 : decode cX9_needed 9 = .ok (.iconst 1, 1) := by decide +kernel
theorem dX9_needed_10 : decode cX9_needed 10 = .ok (.invokestatic 74, 3) := by decide +kernel
theorem dX9_needed_13 : decode cX9_needed 13 = .ok (.aload_n 0, 1) := by decide +kernel
theorem dX9_needed_14 : decode cX9_needed 14 = .ok (.getfield 60, 3) := by decide +kernel
theorem dX9_needed_17 : decode cX9_needed 17 = .ok (.aload_n 0, 1) := by decide +kernel
theorem dX9_needed_18 : decode cX9_needed 18 = .ok (.getfield 35, 3) := by decide +kernel
theorem dX9_needed_21 : decode cX9_needed 21 = .ok (.iload_n 1, 1) := by decide +kernel
theorem dX9_needed_22 : decode cX9_needed 22 = .ok (.iload_n 2, 1) := by decide +kernel
theorem dX9_needed_23 : decode cX9_needed 23 = .ok (.iconst 0, 1) := by decide +kernel
theorem dX9_needed_24 : decode cX9_needed 24 = .ok (.invokevirtual 231, 3) := by decide +kernel
theorem dX9_needed_27 : decode cX9_needed 27 = .ok (.ifCond .ne 5, 3) := by decide +kernel
theorem dX9_needed_30 : decode cX9_needed 30 = .ok (.iconst 0, 1) := by decide +kernel
theorem dX9_needed_31 : decode cX9_needed 31 = .ok (.ireturn, 1) := by decide +kernel
theorem dX9_needed_32 : decode cX9_needed 32 = .ok (.iconst 0, 1) := by decide +kernel
theorem dX9_needed_33 : decode cX9_needed 33 = .ok (.istore_n 3, 1) := by decide +kernel
theorem dX9_needed_34 : decode cX9_needed 34 = .ok (.iconst 0, 1) := by decide +kernel
theorem dX9_needed_35 : decode cX9_needed 35 = .ok (.istore 4, 2) := by decide +kernel
theorem dX9_needed_37 : decode cX9_needed 37 = .ok (.iload 4, 2) := by decide +kernel
theorem dX9_needed_39 : decode cX9_needed 39 = .ok (.aload_n 0, 1) := by decide +kernel
theorem dX9_needed_40 : decode cX9_needed 40 = .ok (.getfield 35, 3) := by decide +kernel
theorem dX9_needed_43 : decode cX9_needed 43 = .ok (.getfield 101, 3) := by decide +kernel
theorem dX9_needed_46 : decode cX9_needed 46 = .ok (.if_icmp .ge 40, 3) := by decide +kernel
theorem dX9_needed_49 : decode cX9_needed 49 = .ok (.iload_n 3, 1) := by decide +kernel
theorem dX9_needed_50 : decode cX9_needed 50 = .ok (.aload_n 0, 1) := by decide +kernel
theorem dX9_needed_51 : decode cX9_needed 51 = .ok (.getfield 60, 3) := by decide +kernel
theorem dX9_needed_54 : decode cX9_needed 54 = .ok (.aload_n 0, 1) := by decide +kernel
theorem dX9_needed_55 : decode cX9_needed 55 = .ok (.getfield 35, 3) := by decide +kernel
theorem dX9_needed_58 : decode cX9_needed 58 = .ok (.iload_n 1, 1) := by decide +kernel
theorem dX9_needed_59 : decode cX9_needed 59 = .ok (.iload_n 2, 1) := by decide +kernel
theorem dX9_needed_60 : decode cX9_needed 60 = .ok (.iconst 1, 1) := by decide +kernel
theorem dX9_needed_61 : decode cX9_needed 61 = .ok (.iload 4, 2) := by decide +kernel
theorem dX9_needed_63 : decode cX9_needed 63 = .ok (.ishl, 1) := by decide +kernel
theorem dX9_needed_64 : decode cX9_needed 64 = .ok (.invokevirtual 231, 3) := by decide +kernel
theorem dX9_needed_67 : decode cX9_needed 67 = .ok (.ifCond .eq 7, 3) := by decide +kernel
theorem dX9_needed_70 : decode cX9_needed 70 = .ok (.iconst 0, 1) := by decide +kernel
theorem dX9_needed_71 : decode cX9_needed 71 = .ok (.goto 7, 3) := by decide +kernel
theorem dX9_needed_74 : decode cX9_needed 74 = .ok (.iconst 1, 1) := by decide +kernel
theorem dX9_needed_75 : decode cX9_needed 75 = .ok (.iload 4, 2) := by decide +kernel
theorem dX9_needed_77 : decode cX9_needed 77 = .ok (.ishl, 1) := by decide +kernel
theorem dX9_needed_78 : decode cX9_needed 78 = .ok (.ior, 1) := by decide +kernel
theorem dX9_needed_79 : decode cX9_needed 79 = .ok (.istore_n 3, 1) := by decide +kernel
theorem dX9_needed_80 : decode cX9_needed 80 = .ok (.iinc 4 1, 3) := by decide +kernel
theorem dX9_needed_83 : decode cX9_needed 83 = .ok (.goto (-46), 3) := by decide +kernel
theorem dX9_needed_86 : decode cX9_needed 86 = .ok (.iload_n 3, 1) := by decide +kernel
theorem dX9_needed_87 : decode cX9_needed 87 = .ok (.ireturn, 1) := by decide +kernel
theorem dX9_bestNew_0 : decode cX9_bestNew 0 = .ok (.aload_n 0, 1) := by decide +kernel
theorem dX9_bestNew_1 : decode cX9_bestNew 1 = .ok (.getfield 35, 3) := by decide +kernel
theorem dX9_bestNew_4 : decode cX9_bestNew 4 = .ok (.iload_n 1, 1) := by decide +kernel
theorem dX9_bestNew_5 : decode cX9_bestNew 5 = .ok (.iload_n 2, 1) := by decide +kernel
theorem dX9_bestNew_6 : decode cX9_bestNew 6 = .ok (.invokevirtual 161, 3) := by decide +kernel
theorem dX9_bestNew_9 : decode cX9_bestNew 9 = .ok (.iconst 1, 1) := by decide +kernel
theorem dX9_bestNew_10 : decode cX9_bestNew 10 = .ok (.invokestatic 74, 3) := by decide +kernel
theorem dX9_bestNew_13 : decode cX9_bestNew 13 = .ok (.aload_n 0, 1) := by decide +kernel
theorem dX9_bestNew_14 : decode cX9_bestNew 14 = .ok (.getfield 60, 3) := by decide +kernel
theorem dX9_bestNew_17 : decode cX9_bestNew 17 = .ok (.aload_n 0, 1) := by decide +kernel
theorem dX9_bestNew_18 : decode cX9_bestNew 18 = .ok (.getfield 35, 3) := by decide +kernel
theorem dX9_bestNew_21 : decode cX9_bestNew 21 = .ok (.iload_n 1, 1) := by decide +kernel
theorem dX9_bestNew_22 : decode cX9_bestNew 22 = .ok (.iconst 0, 1) := by decide +kernel
theorem dX9_bestNew_23 : decode cX9_bestNew 23 = .ok (.invokevirtual 235, 3) := by decide +kernel
theorem dX9_bestNew_26 : decode cX9_bestNew 26 = .ok (.aload_n 0, 1) := by decide +kernel
theorem dX9_bestNew_27 : decode cX9_bestNew 27 = .ok (.getfield 39, 3) := by decide +kernel
theorem dX9_bestNew_30 : decode cX9_bestNew 30 = .ok (.aload_n 0, 1) := by decide +kernel
theorem dX9_bestNew_31 : decode cX9_bestNew 31 = .ok (.getfield 35, 3) := by decide +kernel
theorem dX9_bestNew_34 : decode cX9_bestNew 34 = .ok (.invokevirtual 94, 3) := by decide +kernel
theorem dX9_bestNew_37 : decode cX9_bestNew 37 = .ok (.bipush (-9), 2) := by decide +kernel
theorem dX9_bestNew_39 : decode cX9_bestNew 39 = .ok (.istore_n 3, 1) := by decide +kernel
theorem dX9_bestNew_40 : decode cX9_bestNew 40 = .ok (.sipush 1512, 3) := by decide +kernel
theorem dX9_bestNew_43 : decode cX9_bestNew 43 = .ok (.istore 4, 2) := by decide +kernel
theorem dX9_bestNew_45 : decode cX9_bestNew 45 = .ok (.iconst 0, 1) := by decide +kernel
theorem dX9_bestNew_46 : decode cX9_bestNew 46 = .ok (.istore 5, 2) := by decide +kernel
theorem dX9_bestNew_48 : decode cX9_bestNew 48 = .ok (.iload 5, 2) := by decide +kernel
theorem dX9_bestNew_50 : decode cX9_bestNew 50 = .ok (.bipush 100, 2) := by decide +kernel
theorem dX9_bestNew_52 : decode cX9_bestNew 52 = .ok (.aload_n 0, 1) := by decide +kernel
theorem dX9_bestNew_53 : decode cX9_bestNew 53 = .ok (.getfield 35, 3) := by decide +kernel
theorem dX9_bestNew_56 : decode cX9_bestNew 56 = .ok (.getfield 104, 3) := by decide +kernel
theorem dX9_bestNew_59 : decode cX9_bestNew 59 = .ok (.imul, 1) := by decide +kernel
theorem dX9_bestNew_60 : decode cX9_bestNew 60 = .ok (.if_icmp .ge 51, 3) := by decide +kernel
theorem dX9_bestNew_63 : decode cX9_bestNew 63 = .ok (.aload_n 0, 1) := by decide +kernel
theorem dX9_bestNew_64 : decode cX9_bestNew 64 = .ok (.iload 5, 2) := by decide +kernel
theorem dX9_bestNew_66 : decode cX9_bestNew 66 = .ok (.invokevirtual 239, 3) := by decide +kernel
theorem dX9_bestNew_69 : decode cX9_bestNew 69 = .ok (.ifCond .eq 36, 3) := by decide +kernel
theorem dX9_bestNew_72 : decode cX9_bestNew 72 = .ok (.aload_n 0, 1) := by decide +kernel
theorem dX9_bestNew_73 : decode cX9_bestNew 73 = .ok (.iload 5, 2) := by decide +kernel
theorem dX9_bestNew_75 : decode cX9_bestNew 75 = .ok (.iload_n 1, 1) := by decide +kernel
theorem dX9_bestNew_76 : decode cX9_bestNew 76 = .ok (.iload_n 2, 1) := by decide +kernel
theorem dX9_bestNew_77 : decode cX9_bestNew 77 = .ok (.iload 4, 2) := by decide +kernel
theorem dX9_bestNew_79 : decode cX9_bestNew 79 = .ok (.invokevirtual 242, 3) := by decide +kernel
theorem dX9_bestNew_82 : decode cX9_bestNew 82 = .ok (.istore 6, 2) := by decide +kernel
theorem dX9_bestNew_84 : decode cX9_bestNew 84 = .ok (.iload 6, 2) := by decide +kernel
theorem dX9_bestNew_86 : decode cX9_bestNew 86 = .ok (.bipush (-9), 2) := by decide +kernel
theorem dX9_bestNew_88 : decode cX9_bestNew 88 = .ok (.if_icmp .eq 17, 3) := by decide +kernel
theorem dX9_bestNew_91 : decode cX9_bestNew 91 = .ok (.iload 6, 2) := by decide +kernel
theorem dX9_bestNew_93 : decode cX9_bestNew 93 = .ok (.iload 4, 2) := by decide +kernel
theorem dX9_bestNew_95 : decode cX9_bestNew 95 = .ok (.if_icmp .ge 10, 3) := by decide +kernel
theorem dX9_bestNew_98 : decode cX9_bestNew 98 = .ok (.iload 5, 2) := by decide +kernel
theorem dX9_bestNew_100 : decode cX9_bestNew 100 = .ok (.istore_n 3, 1) := by decide +kernel
theorem dX9_bestNew_101 : decode cX9_bestNew 101 = .ok (.iload 6, 2) := by decide +kernel
theorem dX9_bestNew_103 : decode cX9_bestNew 103 = .ok (.istore 4, 2) := by decide +kernel
theorem dX9_bestNew_105 : decode cX9_bestNew 105 = .ok (.iinc 5 1, 3) := by decide +kernel
theorem dX9_bestNew_108 : decode cX9_bestNew 108 = .ok (.goto (-60), 3) := by decide +kernel
theorem dX9_bestNew_111 : decode cX9_bestNew 111 = .ok (.iload_n 3, 1) := by decide +kernel
theorem dX9_bestNew_112 : decode cX9_bestNew 112 = .ok (.ireturn, 1) := by decide +kernel
theorem dX9_follow_0 : decode cX9_follow 0 = .ok (.aload_n 0, 1) := by decide +kernel
theorem dX9_follow_1 : decode cX9_follow 1 = .ok (.getfield 35, 3) := by decide +kernel
theorem dX9_follow_4 : decode cX9_follow 4 = .ok (.iload_n 1, 1) := by decide +kernel
theorem dX9_follow_5 : decode cX9_follow 5 = .ok (.invokevirtual 147, 3) := by decide +kernel
theorem dX9_follow_8 : decode cX9_follow 8 = .ok (.iconst 1, 1) := by decide +kernel
theorem dX9_follow_9 : decode cX9_follow 9 = .ok (.invokestatic 74, 3) := by decide +kernel
theorem dX9_follow_12 : decode cX9_follow 12 = .ok (.iload_n 2, 1) := by decide +kernel
theorem dX9_follow_13 : decode cX9_follow 13 = .ok (.iconst 1, 1) := by decide +kernel
theorem dX9_follow_14 : decode cX9_follow 14 = .ok (.if_icmp .lt 12, 3) := by decide +kernel
theorem dX9_follow_17 : decode cX9_follow 17 = .ok (.iload_n 2, 1) := by decide +kernel
theorem dX9_follow_18 : decode cX9_follow 18 = .ok (.iconst 5, 1) := by decide +kernel
theorem dX9_follow_19 : decode cX9_follow 19 = .ok (.if_icmp .gt 7, 3) := by decide +kernel
theorem dX9_follow_22 : decode cX9_follow 22 = .ok (.iconst 1, 1) := by decide +kernel
theorem dX9_follow_23 : decode cX9_follow 23 = .ok (.goto 4, 3) := by decide +kernel
theorem dX9_follow_26 : decode cX9_follow 26 = .ok (.iconst 0, 1) := by decide +kernel
theorem dX9_follow_27 : decode cX9_follow 27 = .ok (.iconst 2, 1) := by decide +kernel
theorem dX9_follow_28 : decode cX9_follow 28 = .ok (.invokestatic 74, 3) := by decide +kernel
theorem dX9_follow_31 : decode cX9_follow 31 = .ok (.lload_n 3, 1) := by decide +kernel
theorem dX9_follow_32 : decode cX9_follow 32 = .ok (.lconst 0, 1) := by decide +kernel
theorem dX9_follow_33 : decode cX9_follow 33 = .ok (.lcmp, 1) := by decide +kernel
theorem dX9_follow_34 : decode cX9_follow 34 = .ok (.ifCond .lt 19, 3) := by decide +kernel
theorem dX9_follow_37 : decode cX9_follow 37 = .ok (.lload_n 3, 1) := by decide +kernel
theorem dX9_follow_38 : decode cX9_follow 38 = .ok (.iconst 3, 1) := by decide +kernel
theorem dX9_follow_39 : decode cX9_follow 39 = .ok (.iload_n 2, 1) := by decide +kernel
theorem dX9_follow_40 : decode cX9_follow 40 = .ok (.imul, 1) := by decide +kernel
theorem dX9_follow_41 : decode cX9_follow 41 = .ok (.invokestatic 245, 3) := by decide +kernel
theorem dX9_follow_44 : decode cX9_follow 44 = .ok (.lconst 0, 1) := by decide +kernel
theorem dX9_follow_45 : decode cX9_follow 45 = .ok (.lcmp, 1) := by decide +kernel
theorem dX9_follow_46 : decode cX9_follow 46 = .ok (.ifCond .ne 7, 3) := by decide +kernel
theorem dX9_follow_49 : decode cX9_follow 49 = .ok (.iconst 1, 1) := by decide +kernel
theorem dX9_follow_50 : decode cX9_follow 50 = .ok (.goto 4, 3) := by decide +kernel
theorem dX9_follow_53 : decode cX9_follow 53 = .ok (.iconst 0, 1) := by decide +kernel
theorem dX9_follow_54 : decode cX9_follow 54 = .ok (.iconst 2, 1) := by decide +kernel
theorem dX9_follow_55 : decode cX9_follow 55 = .ok (.invokestatic 74, 3) := by decide +kernel
theorem dX9_follow_58 : decode cX9_follow 58 = .ok (.iload_n 1, 1) := by decide +kernel
theorem dX9_follow_59 : decode cX9_follow 59 = .ok (.istore 5, 2) := by decide +kernel
theorem dX9_follow_61 : decode cX9_follow 61 = .ok (.iconst 1, 1) := by decide +kernel
theorem dX9_follow_62 : decode cX9_follow 62 = .ok (.istore 6, 2) := by decide +kernel
theorem dX9_follow_64 : decode cX9_follow 64 = .ok (.iconst 1, 1) := by decide +kernel
theorem dX9_follow_65 : decode cX9_follow 65 = .ok (.istore 7, 2) := by decide +kernel
theorem dX9_follow_67 : decode cX9_follow 67 = .ok (.iload 7, 2) := by decide +kernel
theorem dX9_follow_69 : decode cX9_follow 69 = .ok (.iload_n 2, 1) := by decide +kernel
theorem dX9_follow_70 : decode cX9_follow 70 = .ok (.if_icmp .gt 123, 3) := by decide +kernel
theorem dX9_follow_73 : decode cX9_follow 73 = .ok (.lload_n 3, 1) := by decide +kernel
theorem dX9_follow_74 : decode cX9_follow 74 = .ok (.iconst 3, 1) := by decide +kernel
theorem dX9_follow_75 : decode cX9_follow 75 = .ok (.iload_n 2, 1) := by decide +kernel
theorem dX9_follow_76 : decode cX9_follow 76 = .ok (.iload 7, 2) := by decide +kernel
theorem dX9_follow_78 : decode cX9_follow 78 = .ok (.isub, 1) := by decide +kernel
theorem dX9_follow_79 : decode cX9_follow 79 = .ok (.imul, 1) := by decide +kernel
theorem dX9_follow_80 : decode cX9_follow 80 = .ok (.invokestatic 245, 3) := by decide +kernel
theorem dX9_follow_83 : decode cX9_follow 83 = .ok (.ldc2_w 249, 3) := by decide +kernel
theorem dX9_follow_86 : decode cX9_follow 86 = .ok (.lrem, 1) := by decide +kernel
theorem dX9_follow_87 : decode cX9_follow 87 = .ok (.l2i, 1) := by decide +kernel
theorem dX9_follow_88 : decode cX9_follow 88 = .ok (.istore 8, 2) := by decide +kernel
theorem dX9_follow_90 : decode cX9_follow 90 = .ok (.iload 8, 2) := by decide +kernel
theorem dX9_follow_92 : decode cX9_follow 92 = .ok (.bipush 10, 2) := by decide +kernel
theorem dX9_follow_94 : decode cX9_follow 94 = .ok (.idiv, 1) := by decide +kernel
theorem dX9_follow_95 : decode cX9_follow 95 = .ok (.istore 9, 2) := by decide +kernel
theorem dX9_follow_97 : decode cX9_follow 97 = .ok (.iload 8, 2) := by decide +kernel
theorem dX9_follow_99 : decode cX9_follow 99 = .ok (.bipush 10, 2) := by decide +kernel
theorem dX9_follow_101 : decode cX9_follow 101 = .ok (.irem, 1) := by decide +kernel
theorem dX9_follow_102 : decode cX9_follow 102 = .ok (.istore 10, 2) := by decide +kernel
theorem dX9_follow_104 : decode cX9_follow 104 = .ok (.aload_n 0, 1) := by decide +kernel
theorem dX9_follow_105 : decode cX9_follow 105 = .ok (.getfield 35, 3) := by decide +kernel
theorem dX9_follow_108 : decode cX9_follow 108 = .ok (.iload 9, 2) := by decide +kernel
theorem dX9_follow_110 : decode cX9_follow 110 = .ok (.invokevirtual 131, 3) := by decide +kernel
theorem dX9_follow_113 : decode cX9_follow 113 = .ok (.ifCond .eq 25, 3) := by decide +kernel
theorem dX9_follow_116 : decode cX9_follow 116 = .ok (.iload 10, 2) := by decide +kernel
theorem dX9_follow_118 : decode cX9_follow 118 = .ok (.iconst 1, 1) := by decide +kernel
theorem dX9_follow_119 : decode cX9_follow 119 = .ok (.if_icmp .gt 19, 3) := by decide +kernel
theorem dX9_follow_122 : decode cX9_follow 122 = .ok (.aload_n 0, 1) := by decide +kernel
theorem dX9_follow_123 : decode cX9_follow 123 = .ok (.getfield 35, 3) := by decide +kernel
theorem dX9_follow_126 : decode cX9_follow 126 = .ok (.iload 9, 2) := by decide +kernel
theorem dX9_follow_128 : decode cX9_follow 128 = .ok (.iload 10, 2) := by decide +kernel
theorem dX9_follow_130 : decode cX9_follow 130 = .ok (.invokevirtual 251, 3) := by decide +kernel
theorem dX9_follow_133 : decode cX9_follow 133 = .ok (.iload 5, 2) := by decide +kernel
theorem dX9_follow_135 : decode cX9_follow 135 = .ok (.if_icmp .eq 6, 3) := by decide +kernel
theorem dX9_follow_138 : decode cX9_follow 138 = .ok (.iload 7, 2) := by decide +kernel
theorem dX9_follow_140 : decode cX9_follow 140 = .ok (.ireturn, 1) := by decide +kernel
theorem dX9_follow_141 : decode cX9_follow 141 = .ok (.aload_n 0, 1) := by decide +kernel
theorem dX9_follow_142 : decode cX9_follow 142 = .ok (.getfield 35, 3) := by decide +kernel
theorem dX9_follow_145 : decode cX9_follow 145 = .ok (.aload_n 0, 1) := by decide +kernel
theorem dX9_follow_146 : decode cX9_follow 146 = .ok (.getfield 35, 3) := by decide +kernel
theorem dX9_follow_149 : decode cX9_follow 149 = .ok (.getfield 107, 3) := by decide +kernel
theorem dX9_follow_152 : decode cX9_follow 152 = .ok (.iload 6, 2) := by decide +kernel
theorem dX9_follow_154 : decode cX9_follow 154 = .ok (.invokevirtual 254, 3) := by decide +kernel
theorem dX9_follow_157 : decode cX9_follow 157 = .ok (.iload 9, 2) := by decide +kernel
theorem dX9_follow_159 : decode cX9_follow 159 = .ok (.iload 10, 2) := by decide +kernel
theorem dX9_follow_161 : decode cX9_follow 161 = .ok (.invokevirtual 257, 3) := by decide +kernel
theorem dX9_follow_164 : decode cX9_follow 164 = .ok (.istore 6, 2) := by decide +kernel
theorem dX9_follow_166 : decode cX9_follow 166 = .ok (.iload 6, 2) := by decide +kernel
theorem dX9_follow_168 : decode cX9_follow 168 = .ok (.ifCond .ne 6, 3) := by decide +kernel
theorem dX9_follow_171 : decode cX9_follow 171 = .ok (.iload 7, 2) := by decide +kernel
theorem dX9_follow_173 : decode cX9_follow 173 = .ok (.ireturn, 1) := by decide +kernel
theorem dX9_follow_174 : decode cX9_follow 174 = .ok (.aload_n 0, 1) := by decide +kernel
theorem dX9_follow_175 : decode cX9_follow 175 = .ok (.getfield 35, 3) := by decide +kernel
theorem dX9_follow_178 : decode cX9_follow 178 = .ok (.iload 9, 2) := by decide +kernel
theorem dX9_follow_180 : decode cX9_follow 180 = .ok (.iload 10, 2) := by decide +kernel
theorem dX9_follow_182 : decode cX9_follow 182 = .ok (.invokevirtual 260, 3) := by decide +kernel
theorem dX9_follow_185 : decode cX9_follow 185 = .ok (.istore 5, 2) := by decide +kernel
theorem dX9_follow_187 : decode cX9_follow 187 = .ok (.iinc 7 1, 3) := by decide +kernel
theorem dX9_follow_190 : decode cX9_follow 190 = .ok (.goto (-123), 3) := by decide +kernel
theorem dX9_follow_193 : decode cX9_follow 193 = .ok (.aload_n 0, 1) := by decide +kernel
theorem dX9_follow_194 : decode cX9_follow 194 = .ok (.getfield 35, 3) := by decide +kernel
theorem dX9_follow_197 : decode cX9_follow 197 = .ok (.getfield 107, 3) := by decide +kernel
theorem dX9_follow_200 : decode cX9_follow 200 = .ok (.iload 6, 2) := by decide +kernel
theorem dX9_follow_202 : decode cX9_follow 202 = .ok (.invokevirtual 114, 3) := by decide +kernel
theorem dX9_follow_205 : decode cX9_follow 205 = .ok (.ifCond .eq 8, 3) := by decide +kernel
theorem dX9_follow_208 : decode cX9_follow 208 = .ok (.bipush (-9), 2) := by decide +kernel
theorem dX9_follow_210 : decode cX9_follow 210 = .ok (.goto 6, 3) := by decide +kernel
theorem dX9_follow_213 : decode cX9_follow 213 = .ok (.iload_n 2, 1) := by decide +kernel
theorem dX9_follow_214 : decode cX9_follow 214 = .ok (.iconst 1, 1) := by decide +kernel
theorem dX9_follow_215 : decode cX9_follow 215 = .ok (.iadd, 1) := by decide +kernel
theorem dX9_follow_216 : decode cX9_follow 216 = .ok (.ireturn, 1) := by decide +kernel
theorem dX9_runScript_0 : decode cX9_runScript 0 = .ok (.iload_n 1, 1) := by decide +kernel
theorem dX9_runScript_1 : decode cX9_runScript 1 = .ok (.iconst 1, 1) := by decide +kernel
theorem dX9_runScript_2 : decode cX9_runScript 2 = .ok (.if_icmp .lt 12, 3) := by decide +kernel
theorem dX9_runScript_5 : decode cX9_runScript 5 = .ok (.iload_n 1, 1) := by decide +kernel
theorem dX9_runScript_6 : decode cX9_runScript 6 = .ok (.iconst 3, 1) := by decide +kernel
theorem dX9_runScript_7 : decode cX9_runScript 7 = .ok (.if_icmp .gt 7, 3) := by decide +kernel
theorem dX9_runScript_10 : decode cX9_runScript 10 = .ok (.iconst 1, 1) := by decide +kernel
theorem dX9_runScript_11 : decode cX9_runScript 11 = .ok (.goto 4, 3) := by decide +kernel
theorem dX9_runScript_14 : decode cX9_runScript 14 = .ok (.iconst 0, 1) := by decide +kernel
theorem dX9_runScript_15 : decode cX9_runScript 15 = .ok (.iconst 2, 1) := by decide +kernel
theorem dX9_runScript_16 : decode cX9_runScript 16 = .ok (.invokestatic 74, 3) := by decide +kernel
theorem dX9_runScript_19 : decode cX9_runScript 19 = .ok (.lload_n 2, 1) := by decide +kernel
theorem dX9_runScript_20 : decode cX9_runScript 20 = .ok (.lconst 0, 1) := by decide +kernel
theorem dX9_runScript_21 : decode cX9_runScript 21 = .ok (.lcmp, 1) := by decide +kernel
theorem dX9_runScript_22 : decode cX9_runScript 22 = .ok (.ifCond .lt 19, 3) := by decide +kernel
theorem dX9_runScript_25 : decode cX9_runScript 25 = .ok (.lload_n 2, 1) := by decide +kernel
theorem dX9_runScript_26 : decode cX9_runScript 26 = .ok (.iconst 5, 1) := by decide +kernel
theorem dX9_runScript_27 : decode cX9_runScript 27 = .ok (.iload_n 1, 1) := by decide +kernel
theorem dX9_runScript_28 : decode cX9_runScript 28 = .ok (.imul, 1) := by decide +kernel
theorem dX9_runScript_29 : decode cX9_runScript 29 = .ok (.invokestatic 245, 3) := by decide +kernel
theorem dX9_runScript_32 : decode cX9_runScript 32 = .ok (.lconst 0, 1) := by decide +kernel
theorem dX9_runScript_33 : decode cX9_runScript 33 = .ok (.lcmp, 1) := by decide +kernel
theorem dX9_runScript_34 : decode cX9_runScript 34 = .ok (.ifCond .ne 7, 3) := by decide +kernel
theorem dX9_runScript_37 : decode cX9_runScript 37 = .ok (.iconst 1, 1) := by decide +kernel
theorem dX9_runScript_38 : decode cX9_runScript 38 = .ok (.goto 4, 3) := by decide +kernel
theorem dX9_runScript_41 : decode cX9_runScript 41 = .ok (.iconst 0, 1) := by decide +kernel
theorem dX9_runScript_42 : decode cX9_runScript 42 = .ok (.iconst 2, 1) := by decide +kernel
theorem dX9_runScript_43 : decode cX9_runScript 43 = .ok (.invokestatic 74, 3) := by decide +kernel
theorem dX9_runScript_46 : decode cX9_runScript 46 = .ok (.aload_n 0, 1) := by decide +kernel
theorem dX9_runScript_47 : decode cX9_runScript 47 = .ok (.getfield 39, 3) := by decide +kernel
theorem dX9_runScript_50 : decode cX9_runScript 50 = .ok (.aload_n 0, 1) := by decide +kernel
theorem dX9_runScript_51 : decode cX9_runScript 51 = .ok (.getfield 35, 3) := by decide +kernel
theorem dX9_runScript_54 : decode cX9_runScript 54 = .ok (.invokevirtual 94, 3) := by decide +kernel
theorem dX9_runScript_57 : decode cX9_runScript 57 = .ok (.iconst 0, 1) := by decide +kernel
theorem dX9_runScript_58 : decode cX9_runScript 58 = .ok (.istore 4, 2) := by decide +kernel
theorem dX9_runScript_60 : decode cX9_runScript 60 = .ok (.iload 4, 2) := by decide +kernel
theorem dX9_runScript_62 : decode cX9_runScript 62 = .ok (.iload_n 1, 1) := by decide +kernel
theorem dX9_runScript_63 : decode cX9_runScript 63 = .ok (.if_icmp .ge 36, 3) := by decide +kernel
theorem dX9_runScript_66 : decode cX9_runScript 66 = .ok (.aload_n 0, 1) := by decide +kernel
theorem dX9_runScript_67 : decode cX9_runScript 67 = .ok (.lload_n 2, 1) := by decide +kernel
theorem dX9_runScript_68 : decode cX9_runScript 68 = .ok (.iconst 5, 1) := by decide +kernel
theorem dX9_runScript_69 : decode cX9_runScript 69 = .ok (.iload_n 1, 1) := by decide +kernel
theorem dX9_runScript_70 : decode cX9_runScript 70 = .ok (.iconst 1, 1) := by decide +kernel
theorem dX9_runScript_71 : decode cX9_runScript 71 = .ok (.isub, 1) := by decide +kernel
theorem dX9_runScript_72 : decode cX9_runScript 72 = .ok (.iload 4, 2) := by decide +kernel
theorem dX9_runScript_74 : decode cX9_runScript 74 = .ok (.isub, 1) := by decide +kernel
theorem dX9_runScript_75 : decode cX9_runScript 75 = .ok (.imul, 1) := by decide +kernel
theorem dX9_runScript_76 : decode cX9_runScript 76 = .ok (.invokestatic 245, 3) := by decide +kernel
theorem dX9_runScript_79 : decode cX9_runScript 79 = .ok (.ldc2_w 263, 3) := by decide +kernel
theorem dX9_runScript_82 : decode cX9_runScript 82 = .ok (.lrem, 1) := by decide +kernel
theorem dX9_runScript_83 : decode cX9_runScript 83 = .ok (.l2i, 1) := by decide +kernel
theorem dX9_runScript_84 : decode cX9_runScript 84 = .ok (.invokevirtual 265, 3) := by decide +kernel
theorem dX9_runScript_87 : decode cX9_runScript 87 = .ok (.ifCond .ne 6, 3) := by decide +kernel
theorem dX9_runScript_90 : decode cX9_runScript 90 = .ok (.iload 4, 2) := by decide +kernel
theorem dX9_runScript_92 : decode cX9_runScript 92 = .ok (.ireturn, 1) := by decide +kernel
theorem dX9_runScript_93 : decode cX9_runScript 93 = .ok (.iinc 4 1, 3) := by decide +kernel
theorem dX9_runScript_96 : decode cX9_runScript 96 = .ok (.goto (-36), 3) := by decide +kernel
theorem dX9_runScript_99 : decode cX9_runScript 99 = .ok (.bipush (-9), 2) := by decide +kernel
theorem dX9_runScript_101 : decode cX9_runScript 101 = .ok (.ireturn, 1) := by decide +kernel
theorem dX9_simulate_0 : decode cX9_simulate 0 = .ok (.iload_n 3, 1) := by decide +kernel
theorem dX9_simulate_1 : decode cX9_simulate 1 = .ok (.iconst 1, 1) := by decide +kernel
theorem dX9_simulate_2 : decode cX9_simulate 2 = .ok (.if_icmp .lt 13, 3) := by decide +kernel
theorem dX9_simulate_5 : decode cX9_simulate 5 = .ok (.iload_n 3, 1) := by decide +kernel
theorem dX9_simulate_6 : decode cX9_simulate 6 = .ok (.bipush 20, 2) := by decide +kernel
theorem dX9_simulate_8 : decode cX9_simulate 8 = .ok (.if_icmp .gt 7, 3) := by decide +kernel
theorem dX9_simulate_11 : decode cX9_simulate 11 = .ok (.iconst 1, 1) := by decide +kernel
theorem dX9_simulate_12 : decode cX9_simulate 12 = .ok (.goto 4, 3) := by decide +kernel
theorem dX9_simulate_15 : decode cX9_simulate 15 = .ok (.iconst 0, 1) := by decide +kernel
theorem dX9_simulate_16 : decode cX9_simulate 16 = .ok (.iconst 2, 1) := by decide +kernel
theorem dX9_simulate_17 : decode cX9_simulate 17 = .ok (.invokestatic 74, 3) := by decide +kernel
theorem dX9_simulate_20 : decode cX9_simulate 20 = .ok (.aload_n 0, 1) := by decide +kernel
theorem dX9_simulate_21 : decode cX9_simulate 21 = .ok (.getfield 39, 3) := by decide +kernel
theorem dX9_simulate_24 : decode cX9_simulate 24 = .ok (.aload_n 0, 1) := by decide +kernel
theorem dX9_simulate_25 : decode cX9_simulate 25 = .ok (.getfield 35, 3) := by decide +kernel
theorem dX9_simulate_28 : decode cX9_simulate 28 = .ok (.invokevirtual 94, 3) := by decide +kernel
theorem dX9_simulate_31 : decode cX9_simulate 31 = .ok (.lload_n 1, 1) := by decide +kernel
theorem dX9_simulate_32 : decode cX9_simulate 32 = .ok (.lstore 4, 2) := by decide +kernel
theorem dX9_simulate_34 : decode cX9_simulate 34 = .ok (.iconst 0, 1) := by decide +kernel
theorem dX9_simulate_35 : decode cX9_simulate 35 = .ok (.istore 6, 2) := by decide +kernel
theorem dX9_simulate_37 : decode cX9_simulate 37 = .ok (.iconst 0, 1) := by decide +kernel
theorem dX9_simulate_38 : decode cX9_simulate 38 = .ok (.istore 7, 2) := by decide +kernel
theorem dX9_simulate_40 : decode cX9_simulate 40 = .ok (.iconst 0, 1) := by decide +kernel
theorem dX9_simulate_41 : decode cX9_simulate 41 = .ok (.istore 8, 2) := by decide +kernel
theorem dX9_simulate_43 : decode cX9_simulate 43 = .ok (.iload 8, 2) := by decide +kernel
theorem dX9_simulate_45 : decode cX9_simulate 45 = .ok (.iload_n 3, 1) := by decide +kernel
theorem dX9_simulate_46 : decode cX9_simulate 46 = .ok (.if_icmp .ge 143, 3) := by decide +kernel
theorem dX9_simulate_49 : decode cX9_simulate 49 = .ok (.iconst 0, 1) := by decide +kernel
theorem dX9_simulate_50 : decode cX9_simulate 50 = .ok (.istore 9, 2) := by decide +kernel
theorem dX9_simulate_52 : decode cX9_simulate 52 = .ok (.iconst 0, 1) := by decide +kernel
theorem dX9_simulate_53 : decode cX9_simulate 53 = .ok (.istore 10, 2) := by decide +kernel
theorem dX9_simulate_55 : decode cX9_simulate 55 = .ok (.iload 10, 2) := by decide +kernel
theorem dX9_simulate_57 : decode cX9_simulate 57 = .ok (.aload_n 0, 1) := by decide +kernel
theorem dX9_simulate_58 : decode cX9_simulate 58 = .ok (.getfield 39, 3) := by decide +kernel
theorem dX9_simulate_61 : decode cX9_simulate 61 = .ok (.getfield 101, 3) := by decide +kernel
theorem dX9_simulate_64 : decode cX9_simulate 64 = .ok (.if_icmp .ge 66, 3) := by decide +kernel
theorem dX9_simulate_67 : decode cX9_simulate 67 = .ok (.lload 4, 2) := by decide +kernel
theorem dX9_simulate_69 : decode cX9_simulate 69 = .ok (.ldc2_w 268, 3) := by decide +kernel
theorem dX9_simulate_72 : decode cX9_simulate 72 = .ok (.lmul, 1) := by decide +kernel
theorem dX9_simulate_73 : decode cX9_simulate 73 = .ok (.ldc2_w 270, 3) := by decide +kernel
theorem dX9_simulate_76 : decode cX9_simulate 76 = .ok (.ladd, 1) := by decide +kernel
theorem dX9_simulate_77 : decode cX9_simulate 77 = .ok (.lstore 4, 2) := by decide +kernel
theorem dX9_simulate_79 : decode cX9_simulate 79 = .ok (.lload 4, 2) := by decide +kernel
theorem dX9_simulate_81 : decode cX9_simulate 81 = .ok (.bipush 33, 2) := by decide +kernel
theorem dX9_simulate_83 : decode cX9_simulate 83 = .ok (.lushr, 1) := by decide +kernel
theorem dX9_simulate_84 : decode cX9_simulate 84 = .ok (.l2i, 1) := by decide +kernel
theorem dX9_simulate_85 : decode cX9_simulate 85 = .ok (.istore 11, 2) := by decide +kernel
theorem dX9_simulate_87 : decode cX9_simulate 87 = .ok (.aload_n 0, 1) := by decide +kernel
theorem dX9_simulate_88 : decode cX9_simulate 88 = .ok (.getfield 39, 3) := by decide +kernel
theorem dX9_simulate_91 : decode cX9_simulate 91 = .ok (.getfield 144, 3) := by decide +kernel
theorem dX9_simulate_94 : decode cX9_simulate 94 = .ok (.iload 10, 2) := by decide +kernel
theorem dX9_simulate_96 : decode cX9_simulate 96 = .ok (.iconst 1, 1) := by decide +kernel
theorem dX9_simulate_97 : decode cX9_simulate 97 = .ok (.iload 11, 2) := by decide +kernel
theorem dX9_simulate_99 : decode cX9_simulate 99 = .ok (.bipush 9, 2) := by decide +kernel
theorem dX9_simulate_101 : decode cX9_simulate 101 = .ok (.irem, 1) := by decide +kernel
theorem dX9_simulate_102 : decode cX9_simulate 102 = .ok (.iadd, 1) := by decide +kernel
theorem dX9_simulate_103 : decode cX9_simulate 103 = .ok (.iastore, 1) := by decide +kernel
theorem dX9_simulate_104 : decode cX9_simulate 104 = .ok (.iload 11, 2) := by decide +kernel
theorem dX9_simulate_106 : decode cX9_simulate 106 = .ok (.bipush 16, 2) := by decide +kernel
theorem dX9_simulate_108 : decode cX9_simulate 108 = .ok (.idiv, 1) := by decide +kernel
theorem dX9_simulate_109 : decode cX9_simulate 109 = .ok (.bipush 8, 2) := by decide +kernel
theorem dX9_simulate_111 : decode cX9_simulate 111 = .ok (.irem, 1) := by decide +kernel
theorem dX9_simulate_112 : decode cX9_simulate 112 = .ok (.ifCond .ne 12, 3) := by decide +kernel
theorem dX9_simulate_115 : decode cX9_simulate 115 = .ok (.iload 9, 2) := by decide +kernel
theorem dX9_simulate_117 : decode cX9_simulate 117 = .ok (.iconst 1, 1) := by decide +kernel
theorem dX9_simulate_118 : decode cX9_simulate 118 = .ok (.iload 10, 2) := by decide +kernel
theorem dX9_simulate_120 : decode cX9_simulate 120 = .ok (.ishl, 1) := by decide +kernel
theorem dX9_simulate_121 : decode cX9_simulate 121 = .ok (.ior, 1) := by decide +kernel
theorem dX9_simulate_122 : decode cX9_simulate 122 = .ok (.istore 9, 2) := by decide +kernel
theorem dX9_simulate_124 : decode cX9_simulate 124 = .ok (.iinc 10 1, 3) := by decide +kernel
theorem dX9_simulate_127 : decode cX9_simulate 127 = .ok (.goto (-72), 3) := by decide +kernel
theorem dX9_simulate_130 : decode cX9_simulate 130 = .ok (.aload_n 0, 1) := by decide +kernel
theorem dX9_simulate_131 : decode cX9_simulate 131 = .ok (.getfield 60, 3) := by decide +kernel
theorem dX9_simulate_134 : decode cX9_simulate 134 = .ok (.aload_n 0, 1) := by decide +kernel
theorem dX9_simulate_135 : decode cX9_simulate 135 = .ok (.getfield 39, 3) := by decide +kernel
theorem dX9_simulate_138 : decode cX9_simulate 138 = .ok (.iload 9, 2) := by decide +kernel
theorem dX9_simulate_140 : decode cX9_simulate 140 = .ok (.invokevirtual 118, 3) := by decide +kernel
theorem dX9_simulate_143 : decode cX9_simulate 143 = .ok (.iload 6, 2) := by decide +kernel
theorem dX9_simulate_145 : decode cX9_simulate 145 = .ok (.aload_n 0, 1) := by decide +kernel
theorem dX9_simulate_146 : decode cX9_simulate 146 = .ok (.getfield 60, 3) := by decide +kernel
theorem dX9_simulate_149 : decode cX9_simulate 149 = .ok (.getfield 122, 3) := by decide +kernel
theorem dX9_simulate_152 : decode cX9_simulate 152 = .ok (.iadd, 1) := by decide +kernel
theorem dX9_simulate_153 : decode cX9_simulate 153 = .ok (.istore 6, 2) := by decide +kernel
theorem dX9_simulate_155 : decode cX9_simulate 155 = .ok (.iload 7, 2) := by decide +kernel
theorem dX9_simulate_157 : decode cX9_simulate 157 = .ok (.aload_n 0, 1) := by decide +kernel
theorem dX9_simulate_158 : decode cX9_simulate 158 = .ok (.getfield 60, 3) := by decide +kernel
theorem dX9_simulate_161 : decode cX9_simulate 161 = .ok (.getfield 128, 3) := by decide +kernel
theorem dX9_simulate_164 : decode cX9_simulate 164 = .ok (.bipush (-9), 2) := by decide +kernel
theorem dX9_simulate_166 : decode cX9_simulate 166 = .ok (.if_icmp .ne 7, 3) := by decide +kernel
theorem dX9_simulate_169 : decode cX9_simulate 169 = .ok (.iconst 0, 1) := by decide +kernel
theorem dX9_simulate_170 : decode cX9_simulate 170 = .ok (.goto 10, 3) := by decide +kernel
theorem dX9_simulate_173 : decode cX9_simulate 173 = .ok (.aload_n 0, 1) := by decide +kernel
theorem dX9_simulate_174 : decode cX9_simulate 174 = .ok (.getfield 60, 3) := by decide +kernel
theorem dX9_simulate_177 : decode cX9_simulate 177 = .ok (.getfield 128, 3) := by decide +kernel
theorem dX9_simulate_180 : decode cX9_simulate 180 = .ok (.iadd, 1) := by decide +kernel
theorem dX9_simulate_181 : decode cX9_simulate 181 = .ok (.istore 7, 2) := by decide +kernel
theorem dX9_simulate_183 : decode cX9_simulate 183 = .ok (.iinc 8 1, 3) := by decide +kernel
theorem dX9_simulate_186 : decode cX9_simulate 186 = .ok (.goto (-143), 3) := by decide +kernel
theorem dX9_simulate_189 : decode cX9_simulate 189 = .ok (.ldc_w 272, 3) := by decide +kernel
theorem dX9_simulate_192 : decode cX9_simulate 192 = .ok (.iload 6, 2) := by decide +kernel
theorem dX9_simulate_194 : decode cX9_simulate 194 = .ok (.imul, 1) := by decide +kernel
theorem dX9_simulate_195 : decode cX9_simulate 195 = .ok (.iload 7, 2) := by decide +kernel
theorem dX9_simulate_197 : decode cX9_simulate 197 = .ok (.iadd, 1) := by decide +kernel
theorem dX9_simulate_198 : decode cX9_simulate 198 = .ok (.ireturn, 1) := by decide +kernel
theorem dX9_save_0 : decode cX9_save 0 = .ok (.iload_n 1, 1) := by decide +kernel
theorem dX9_save_1 : decode cX9_save 1 = .ok (.invokestatic 273, 3) := by decide +kernel
theorem dX9_save_4 : decode cX9_save 4 = .ok (.iconst 1, 1) := by decide +kernel
theorem dX9_save_5 : decode cX9_save 5 = .ok (.invokestatic 74, 3) := by decide +kernel
theorem dX9_save_8 : decode cX9_save 8 = .ok (.aload_n 0, 1) := by decide +kernel
theorem dX9_save_9 : decode cX9_save 9 = .ok (.getfield 49, 3) := by decide +kernel
theorem dX9_save_12 : decode cX9_save 12 = .ok (.iload_n 1, 1) := by decide +kernel
theorem dX9_save_13 : decode cX9_save 13 = .ok (.aaload, 1) := by decide +kernel
theorem dX9_save_14 : decode cX9_save 14 = .ok (.aload_n 0, 1) := by decide +kernel
theorem dX9_save_15 : decode cX9_save 15 = .ok (.getfield 35, 3) := by decide +kernel
theorem dX9_save_18 : decode cX9_save 18 = .ok (.invokevirtual 94, 3) := by decide +kernel
theorem dX9_save_21 : decode cX9_save 21 = .ok (.aload_n 0, 1) := by decide +kernel
theorem dX9_save_22 : decode cX9_save 22 = .ok (.getfield 53, 3) := by decide +kernel
theorem dX9_save_25 : decode cX9_save 25 = .ok (.iload_n 1, 1) := by decide +kernel
theorem dX9_save_26 : decode cX9_save 26 = .ok (.iconst 1, 1) := by decide +kernel
theorem dX9_save_27 : decode cX9_save 27 = .ok (.bastore, 1) := by decide +kernel
theorem dX9_save_28 : decode cX9_save 28 = .ok (.aload_n 0, 1) := by decide +kernel
theorem dX9_save_29 : decode cX9_save 29 = .ok (.getfield 35, 3) := by decide +kernel
theorem dX9_save_32 : decode cX9_save 32 = .ok (.getfield 101, 3) := by decide +kernel
theorem dX9_save_35 : decode cX9_save 35 = .ok (.ireturn, 1) := by decide +kernel
theorem dX9_restore_0 : decode cX9_restore 0 = .ok (.iload_n 1, 1) := by decide +kernel
theorem dX9_restore_1 : decode cX9_restore 1 = .ok (.invokestatic 273, 3) := by decide +kernel
theorem dX9_restore_4 : decode cX9_restore 4 = .ok (.iconst 1, 1) := by decide +kernel
theorem dX9_restore_5 : decode cX9_restore 5 = .ok (.invokestatic 74, 3) := by decide +kernel
theorem dX9_restore_8 : decode cX9_restore 8 = .ok (.aload_n 0, 1) := by decide +kernel
theorem dX9_restore_9 : decode cX9_restore 9 = .ok (.getfield 53, 3) := by decide +kernel
theorem dX9_restore_12 : decode cX9_restore 12 = .ok (.iload_n 1, 1) := by decide +kernel
theorem dX9_restore_13 : decode cX9_restore 13 = .ok (.baload, 1) := by decide +kernel
theorem dX9_restore_14 : decode cX9_restore 14 = .ok (.iconst 3, 1) := by decide +kernel
theorem dX9_restore_15 : decode cX9_restore 15 = .ok (.invokestatic 74, 3) := by decide +kernel
theorem dX9_restore_18 : decode cX9_restore 18 = .ok (.aload_n 0, 1) := by decide +kernel
theorem dX9_restore_19 : decode cX9_restore 19 = .ok (.getfield 35, 3) := by decide +kernel
theorem dX9_restore_22 : decode cX9_restore 22 = .ok (.aload_n 0, 1) := by decide +kernel
theorem dX9_restore_23 : decode cX9_restore 23 = .ok (.getfield 49, 3) := by decide +kernel
theorem dX9_restore_26 : decode cX9_restore 26 = .ok (.iload_n 1, 1) := by decide +kernel
theorem dX9_restore_27 : decode cX9_restore 27 = .ok (.aaload, 1) := by decide +kernel
theorem dX9_restore_28 : decode cX9_restore 28 = .ok (.invokevirtual 94, 3) := by decide +kernel
theorem dX9_restore_31 : decode cX9_restore 31 = .ok (.aload_n 0, 1) := by decide +kernel
theorem dX9_restore_32 : decode cX9_restore 32 = .ok (.getfield 45, 3) := by decide +kernel
theorem dX9_restore_35 : decode cX9_restore 35 = .ok (.invokevirtual 98, 3) := by decide +kernel
theorem dX9_restore_38 : decode cX9_restore 38 = .ok (.aload_n 0, 1) := by decide +kernel
theorem dX9_restore_39 : decode cX9_restore 39 = .ok (.getfield 35, 3) := by decide +kernel
theorem dX9_restore_42 : decode cX9_restore 42 = .ok (.getfield 101, 3) := by decide +kernel
theorem dX9_restore_45 : decode cX9_restore 45 = .ok (.ireturn, 1) := by decide +kernel
theorem dX9_require_0 : decode cX9_require 0 = .ok (.iload_n 0, 1) := by decide +kernel
theorem dX9_require_1 : decode cX9_require 1 = .ok (.ifCond .eq 7, 3) := by decide +kernel
theorem dX9_require_4 : decode cX9_require 4 = .ok (.iconst 0, 1) := by decide +kernel
theorem dX9_require_5 : decode cX9_require 5 = .ok (.goto 4, 3) := by decide +kernel
theorem dX9_require_8 : decode cX9_require 8 = .ok (.iload_n 1, 1) := by decide +kernel
theorem dX9_require_9 : decode cX9_require 9 = .ok (.invokestatic 180, 3) := by decide +kernel
theorem dX9_require_12 : decode cX9_require 12 = .ok (.return_, 1) := by decide +kernel
theorem dX9_refuse_0 : decode cX9_refuse 0 = .ok (.iload_n 0, 1) := by decide +kernel
theorem dX9_refuse_1 : decode cX9_refuse 1 = .ok (.iconst 1, 1) := by decide +kernel
theorem dX9_refuse_2 : decode cX9_refuse 2 = .ok (.if_icmp .ne 14, 3) := by decide +kernel
theorem dX9_refuse_5 : decode cX9_refuse 5 = .ok (.new 276, 3) := by decide +kernel
theorem dX9_refuse_8 : decode cX9_refuse 8 = .ok (.dup, 1) := by decide +kernel
theorem dX9_refuse_9 : decode cX9_refuse 9 = .ok (.ldc_w 278, 3) := by decide +kernel
theorem dX9_refuse_12 : decode cX9_refuse 12 = .ok (.invokespecial 280, 3) := by decide +kernel
theorem dX9_refuse_15 : decode cX9_refuse 15 = .ok (.athrow, 1) := by decide +kernel
theorem dX9_refuse_16 : decode cX9_refuse 16 = .ok (.iload_n 0, 1) := by decide +kernel
theorem dX9_refuse_17 : decode cX9_refuse 17 = .ok (.iconst 2, 1) := by decide +kernel
theorem dX9_refuse_18 : decode cX9_refuse 18 = .ok (.if_icmp .ne 14, 3) := by decide +kernel
theorem dX9_refuse_21 : decode cX9_refuse 21 = .ok (.new 283, 3) := by decide +kernel
theorem dX9_refuse_24 : decode cX9_refuse 24 = .ok (.dup, 1) := by decide +kernel
theorem dX9_refuse_25 : decode cX9_refuse 25 = .ok (.ldc_w 285, 3) := by decide +kernel
theorem dX9_refuse_28 : decode cX9_refuse 28 = .ok (.invokespecial 287, 3) := by decide +kernel
theorem dX9_refuse_31 : decode cX9_refuse 31 = .ok (.athrow, 1) := by decide +kernel
theorem dX9_refuse_32 : decode cX9_refuse 32 = .ok (.iload_n 0, 1) := by decide +kernel
theorem dX9_refuse_33 : decode cX9_refuse 33 = .ok (.iconst 3, 1) := by decide +kernel
theorem dX9_refuse_34 : decode cX9_refuse 34 = .ok (.if_icmp .ne 14, 3) := by decide +kernel
theorem dX9_refuse_37 : decode cX9_refuse 37 = .ok (.new 288, 3) := by decide +kernel
theorem dX9_refuse_40 : decode cX9_refuse 40 = .ok (.dup, 1) := by decide +kernel
theorem dX9_refuse_41 : decode cX9_refuse 41 = .ok (.ldc_w 290, 3) := by decide +kernel
theorem dX9_refuse_44 : decode cX9_refuse 44 = .ok (.invokespecial 292, 3) := by decide +kernel
theorem dX9_refuse_47 : decode cX9_refuse 47 = .ok (.athrow, 1) := by decide +kernel
theorem dX9_refuse_48 : decode cX9_refuse 48 = .ok (.return_, 1) := by decide +kernel
theorem dX9_isKind_0 : decode cX9_isKind 0 = .ok (.iload_n 0, 1) := by decide +kernel
theorem dX9_isKind_1 : decode cX9_isKind 1 = .ok (.ifCond .lt 12, 3) := by decide +kernel
theorem dX9_isKind_4 : decode cX9_isKind 4 = .ok (.iload_n 0, 1) := by decide +kernel
theorem dX9_isKind_5 : decode cX9_isKind 5 = .ok (.iconst 4, 1) := by decide +kernel
theorem dX9_isKind_6 : decode cX9_isKind 6 = .ok (.if_icmp .ge 7, 3) := by decide +kernel
theorem dX9_isKind_9 : decode cX9_isKind 9 = .ok (.iconst 1, 1) := by decide +kernel
theorem dX9_isKind_10 : decode cX9_isKind 10 = .ok (.goto 4, 3) := by decide +kernel
theorem dX9_isKind_13 : decode cX9_isKind 13 = .ok (.iconst 0, 1) := by decide +kernel
theorem dX9_isKind_14 : decode cX9_isKind 14 = .ok (.ireturn, 1) := by decide +kernel
theorem dX9_isCost_0 : decode cX9_isCost 0 = .ok (.iload_n 0, 1) := by decide +kernel
theorem dX9_isCost_1 : decode cX9_isCost 1 = .ok (.iconst 1, 1) := by decide +kernel
theorem dX9_isCost_2 : decode cX9_isCost 2 = .ok (.if_icmp .lt 13, 3) := by decide +kernel
theorem dX9_isCost_5 : decode cX9_isCost 5 = .ok (.iload_n 0, 1) := by decide +kernel
theorem dX9_isCost_6 : decode cX9_isCost 6 = .ok (.bipush 9, 2) := by decide +kernel
theorem dX9_isCost_8 : decode cX9_isCost 8 = .ok (.if_icmp .gt 7, 3) := by decide +kernel
theorem dX9_isCost_11 : decode cX9_isCost 11 = .ok (.iconst 1, 1) := by decide +kernel
theorem dX9_isCost_12 : decode cX9_isCost 12 = .ok (.goto 4, 3) := by decide +kernel
theorem dX9_isCost_15 : decode cX9_isCost 15 = .ok (.iconst 0, 1) := by decide +kernel
theorem dX9_isCost_16 : decode cX9_isCost 16 = .ok (.ireturn, 1) := by decide +kernel
theorem dX9_isSlot_0 : decode cX9_isSlot 0 = .ok (.iload_n 0, 1) := by decide +kernel
theorem dX9_isSlot_1 : decode cX9_isSlot 1 = .ok (.ifCond .lt 12, 3) := by decide +kernel
theorem dX9_isSlot_4 : decode cX9_isSlot 4 = .ok (.iload_n 0, 1) := by decide +kernel
theorem dX9_isSlot_5 : decode cX9_isSlot 5 = .ok (.iconst 2, 1) := by decide +kernel
theorem dX9_isSlot_6 : decode cX9_isSlot 6 = .ok (.if_icmp .ge 7, 3) := by decide +kernel
theorem dX9_isSlot_9 : decode cX9_isSlot 9 = .ok (.iconst 1, 1) := by decide +kernel
theorem dX9_isSlot_10 : decode cX9_isSlot 10 = .ok (.goto 4, 3) := by decide +kernel
theorem dX9_isSlot_13 : decode cX9_isSlot 13 = .ok (.iconst 0, 1) := by decide +kernel
theorem dX9_isSlot_14 : decode cX9_isSlot 14 = .ok (.ireturn, 1) := by decide +kernel
theorem dX9_without_0 : decode cX9_without 0 = .ok (.lload_n 0, 1) := by decide +kernel
theorem dX9_without_1 : decode cX9_without 1 = .ok (.lstore_n 3, 1) := by decide +kernel
theorem dX9_without_2 : decode cX9_without 2 = .ok (.iconst 0, 1) := by decide +kernel
theorem dX9_without_3 : decode cX9_without 3 = .ok (.istore 5, 2) := by decide +kernel
theorem dX9_without_5 : decode cX9_without 5 = .ok (.iload 5, 2) := by decide +kernel
theorem dX9_without_7 : decode cX9_without 7 = .ok (.iload_n 2, 1) := by decide +kernel
theorem dX9_without_8 : decode cX9_without 8 = .ok (.if_icmp .ge 15, 3) := by decide +kernel
theorem dX9_without_11 : decode cX9_without 11 = .ok (.lload_n 3, 1) := by decide +kernel
theorem dX9_without_12 : decode cX9_without 12 = .ok (.ldc2_w 293, 3) := by decide +kernel
theorem dX9_without_15 : decode cX9_without 15 = .ok (.ldiv, 1) := by decide +kernel
theorem dX9_without_16 : decode cX9_without 16 = .ok (.lstore_n 3, 1) := by decide +kernel
theorem dX9_without_17 : decode cX9_without 17 = .ok (.iinc 5 1, 3) := by decide +kernel
theorem dX9_without_20 : decode cX9_without 20 = .ok (.goto (-15), 3) := by decide +kernel
theorem dX9_without_23 : decode cX9_without 23 = .ok (.lload_n 3, 1) := by decide +kernel
theorem dX9_without_24 : decode cX9_without 24 = .ok (.lreturn, 1) := by decide +kernel
theorem dX9_countFitting_0 : decode cX9_countFitting 0 = .ok (.iload_n 1, 1) := by decide +kernel
theorem dX9_countFitting_1 : decode cX9_countFitting 1 = .ok (.iload_n 3, 1) := by decide +kernel
theorem dX9_countFitting_2 : decode cX9_countFitting 2 = .ok (.if_icmp .ne 18, 3) := by decide +kernel
theorem dX9_countFitting_5 : decode cX9_countFitting 5 = .ok (.aload_n 0, 1) := by decide +kernel
theorem dX9_countFitting_6 : decode cX9_countFitting 6 = .ok (.getfield 107, 3) := by decide +kernel
theorem dX9_countFitting_9 : decode cX9_countFitting 9 = .ok (.iload_n 2, 1) := by decide +kernel
theorem dX9_countFitting_10 : decode cX9_countFitting 10 = .ok (.invokevirtual 114, 3) := by decide +kernel
theorem dX9_countFitting_13 : decode cX9_countFitting 13 = .ok (.ifCond .eq 7, 3) := by decide +kernel
theorem dX9_countFitting_16 : decode cX9_countFitting 16 = .ok (.iconst 1, 1) := by decide +kernel
theorem dX9_countFitting_17 : decode cX9_countFitting 17 = .ok (.goto 4, 3) := by decide +kernel
theorem dX9_countFitting_20 : decode cX9_countFitting 20 = .ok (.iconst 0, 1) := by decide +kernel
theorem dX9_countFitting_21 : decode cX9_countFitting 21 = .ok (.istore 5, 2) := by decide +kernel
theorem dX9_countFitting_23 : decode cX9_countFitting 23 = .ok (.iload 4, 2) := by decide +kernel
theorem dX9_countFitting_25 : decode cX9_countFitting 25 = .ok (.ifCond .gt 6, 3) := by decide +kernel
theorem dX9_countFitting_28 : decode cX9_countFitting 28 = .ok (.iload 5, 2) := by decide +kernel
theorem dX9_countFitting_30 : decode cX9_countFitting 30 = .ok (.ireturn, 1) := by decide +kernel
theorem dX9_countFitting_31 : decode cX9_countFitting 31 = .ok (.aload_n 0, 1) := by decide +kernel
theorem dX9_countFitting_32 : decode cX9_countFitting 32 = .ok (.getfield 107, 3) := by decide +kernel
theorem dX9_countFitting_35 : decode cX9_countFitting 35 = .ok (.iload_n 2, 1) := by decide +kernel
theorem dX9_countFitting_36 : decode cX9_countFitting 36 = .ok (.invokevirtual 254, 3) := by decide +kernel
theorem dX9_countFitting_39 : decode cX9_countFitting 39 = .ok (.istore 6, 2) := by decide +kernel
theorem dX9_countFitting_41 : decode cX9_countFitting 41 = .ok (.iconst 0, 1) := by decide +kernel
theorem dX9_countFitting_42 : decode cX9_countFitting 42 = .ok (.istore 7, 2) := by decide +kernel
theorem dX9_countFitting_44 : decode cX9_countFitting 44 = .ok (.iload 7, 2) := by decide +kernel
theorem dX9_countFitting_46 : decode cX9_countFitting 46 = .ok (.aload_n 0, 1) := by decide +kernel
theorem dX9_countFitting_47 : decode cX9_countFitting 47 = .ok (.getfield 101, 3) := by decide +kernel
theorem dX9_countFitting_50 : decode cX9_countFitting 50 = .ok (.if_icmp .ge 81, 3) := by decide +kernel
theorem dX9_countFitting_53 : decode cX9_countFitting 53 = .ok (.iconst 0, 1) := by decide +kernel
theorem dX9_countFitting_54 : decode cX9_countFitting 54 = .ok (.istore 8, 2) := by decide +kernel
theorem dX9_countFitting_56 : decode cX9_countFitting 56 = .ok (.iload 8, 2) := by decide +kernel
theorem dX9_countFitting_58 : decode cX9_countFitting 58 = .ok (.iconst 2, 1) := by decide +kernel
theorem dX9_countFitting_59 : decode cX9_countFitting 59 = .ok (.if_icmp .ge 66, 3) := by decide +kernel
theorem dX9_countFitting_62 : decode cX9_countFitting 62 = .ok (.aload_n 0, 1) := by decide +kernel
theorem dX9_countFitting_63 : decode cX9_countFitting 63 = .ok (.iload 7, 2) := by decide +kernel
theorem dX9_countFitting_65 : decode cX9_countFitting 65 = .ok (.iload 8, 2) := by decide +kernel
theorem dX9_countFitting_67 : decode cX9_countFitting 67 = .ok (.invokevirtual 251, 3) := by decide +kernel
theorem dX9_countFitting_70 : decode cX9_countFitting 70 = .ok (.iload_n 1, 1) := by decide +kernel
theorem dX9_countFitting_71 : decode cX9_countFitting 71 = .ok (.if_icmp .ne 16, 3) := by decide +kernel
theorem dX9_countFitting_74 : decode cX9_countFitting 74 = .ok (.aload_n 0, 1) := by decide +kernel
theorem dX9_countFitting_75 : decode cX9_countFitting 75 = .ok (.iload 6, 2) := by decide +kernel
theorem dX9_countFitting_77 : decode cX9_countFitting 77 = .ok (.iload 7, 2) := by decide +kernel
theorem dX9_countFitting_79 : decode cX9_countFitting 79 = .ok (.iload 8, 2) := by decide +kernel
theorem dX9_countFitting_81 : decode cX9_countFitting 81 = .ok (.invokevirtual 257, 3) := by decide +kernel
theorem dX9_countFitting_84 : decode cX9_countFitting 84 = .ok (.goto 4, 3) := by decide +kernel
theorem dX9_countFitting_87 : decode cX9_countFitting 87 = .ok (.iconst 0, 1) := by decide +kernel
theorem dX9_countFitting_88 : decode cX9_countFitting 88 = .ok (.istore 9, 2) := by decide +kernel
theorem dX9_countFitting_90 : decode cX9_countFitting 90 = .ok (.iload 9, 2) := by decide +kernel
theorem dX9_countFitting_92 : decode cX9_countFitting 92 = .ok (.ifCond .eq 27, 3) := by decide +kernel
theorem dX9_countFitting_95 : decode cX9_countFitting 95 = .ok (.iload 5, 2) := by decide +kernel
theorem dX9_countFitting_97 : decode cX9_countFitting 97 = .ok (.aload_n 0, 1) := by decide +kernel
theorem dX9_countFitting_98 : decode cX9_countFitting 98 = .ok (.aload_n 0, 1) := by decide +kernel
theorem dX9_countFitting_99 : decode cX9_countFitting 99 = .ok (.iload 7, 2) := by decide +kernel
theorem dX9_countFitting_101 : decode cX9_countFitting 101 = .ok (.iload 8, 2) := by decide +kernel
theorem dX9_countFitting_103 : decode cX9_countFitting 103 = .ok (.invokevirtual 260, 3) := by decide +kernel
theorem dX9_countFitting_106 : decode cX9_countFitting 106 = .ok (.iload 9, 2) := by decide +kernel
theorem dX9_countFitting_108 : decode cX9_countFitting 108 = .ok (.iload_n 3, 1) := by decide +kernel
theorem dX9_countFitting_109 : decode cX9_countFitting 109 = .ok (.iload 4, 2) := by decide +kernel
theorem dX9_countFitting_111 : decode cX9_countFitting 111 = .ok (.iconst 1, 1) := by decide +kernel
theorem dX9_countFitting_112 : decode cX9_countFitting 112 = .ok (.isub, 1) := by decide +kernel
theorem dX9_countFitting_113 : decode cX9_countFitting 113 = .ok (.invokestatic 228, 3) := by decide +kernel
theorem dX9_countFitting_116 : decode cX9_countFitting 116 = .ok (.iadd, 1) := by decide +kernel
theorem dX9_countFitting_117 : decode cX9_countFitting 117 = .ok (.istore 5, 2) := by decide +kernel
theorem dX9_countFitting_119 : decode cX9_countFitting 119 = .ok (.iinc 8 1, 3) := by decide +kernel
theorem dX9_countFitting_122 : decode cX9_countFitting 122 = .ok (.goto (-66), 3) := by decide +kernel
theorem dX9_countFitting_125 : decode cX9_countFitting 125 = .ok (.iinc 7 1, 3) := by decide +kernel
theorem dX9_countFitting_128 : decode cX9_countFitting 128 = .ok (.goto (-84), 3) := by decide +kernel
theorem dX9_countFitting_131 : decode cX9_countFitting 131 = .ok (.iload 5, 2) := by decide +kernel
theorem dX9_countFitting_133 : decode cX9_countFitting 133 = .ok (.ireturn, 1) := by decide +kernel
theorem dX9_isNew_0 : decode cX9_isNew 0 = .ok (.iload_n 1, 1) := by decide +kernel
theorem dX9_isNew_1 : decode cX9_isNew 1 = .ok (.bipush 100, 2) := by decide +kernel
theorem dX9_isNew_3 : decode cX9_isNew 3 = .ok (.idiv, 1) := by decide +kernel
theorem dX9_isNew_4 : decode cX9_isNew 4 = .ok (.istore_n 2, 1) := by decide +kernel
theorem dX9_isNew_5 : decode cX9_isNew 5 = .ok (.iload_n 1, 1) := by decide +kernel
theorem dX9_isNew_6 : decode cX9_isNew 6 = .ok (.bipush 10, 2) := by decide +kernel
theorem dX9_isNew_8 : decode cX9_isNew 8 = .ok (.idiv, 1) := by decide +kernel
theorem dX9_isNew_9 : decode cX9_isNew 9 = .ok (.bipush 10, 2) := by decide +kernel
theorem dX9_isNew_11 : decode cX9_isNew 11 = .ok (.irem, 1) := by decide +kernel
theorem dX9_isNew_12 : decode cX9_isNew 12 = .ok (.istore_n 3, 1) := by decide +kernel
theorem dX9_isNew_13 : decode cX9_isNew 13 = .ok (.iload_n 1, 1) := by decide +kernel
theorem dX9_isNew_14 : decode cX9_isNew 14 = .ok (.bipush 10, 2) := by decide +kernel
theorem dX9_isNew_16 : decode cX9_isNew 16 = .ok (.irem, 1) := by decide +kernel
theorem dX9_isNew_17 : decode cX9_isNew 17 = .ok (.istore 4, 2) := by decide +kernel
theorem dX9_isNew_19 : decode cX9_isNew 19 = .ok (.aload_n 0, 1) := by decide +kernel
theorem dX9_isNew_20 : decode cX9_isNew 20 = .ok (.getfield 35, 3) := by decide +kernel
theorem dX9_isNew_23 : decode cX9_isNew 23 = .ok (.iload_n 2, 1) := by decide +kernel
theorem dX9_isNew_24 : decode cX9_isNew 24 = .ok (.iload 4, 2) := by decide +kernel
theorem dX9_isNew_26 : decode cX9_isNew 26 = .ok (.invokevirtual 161, 3) := by decide +kernel
theorem dX9_isNew_29 : decode cX9_isNew 29 = .ok (.ifCond .eq 36, 3) := by decide +kernel
theorem dX9_isNew_32 : decode cX9_isNew 32 = .ok (.iload_n 2, 1) := by decide +kernel
theorem dX9_isNew_33 : decode cX9_isNew 33 = .ok (.iload 4, 2) := by decide +kernel
theorem dX9_isNew_35 : decode cX9_isNew 35 = .ok (.if_icmp .eq 30, 3) := by decide +kernel
theorem dX9_isNew_38 : decode cX9_isNew 38 = .ok (.iload_n 3, 1) := by decide +kernel
theorem dX9_isNew_39 : decode cX9_isNew 39 = .ok (.invokestatic 165, 3) := by decide +kernel
theorem dX9_isNew_42 : decode cX9_isNew 42 = .ok (.ifCond .eq 23, 3) := by decide +kernel
theorem dX9_isNew_45 : decode cX9_isNew 45 = .ok (.aload_n 0, 1) := by decide +kernel
theorem dX9_isNew_46 : decode cX9_isNew 46 = .ok (.getfield 35, 3) := by decide +kernel
theorem dX9_isNew_49 : decode cX9_isNew 49 = .ok (.iload_n 2, 1) := by decide +kernel
theorem dX9_isNew_50 : decode cX9_isNew 50 = .ok (.iload_n 3, 1) := by decide +kernel
theorem dX9_isNew_51 : decode cX9_isNew 51 = .ok (.iload 4, 2) := by decide +kernel
theorem dX9_isNew_53 : decode cX9_isNew 53 = .ok (.invokevirtual 168, 3) := by decide +kernel
theorem dX9_isNew_56 : decode cX9_isNew 56 = .ok (.bipush (-9), 2) := by decide +kernel
theorem dX9_isNew_58 : decode cX9_isNew 58 = .ok (.if_icmp .ne 7, 3) := by decide +kernel
theorem dX9_isNew_61 : decode cX9_isNew 61 = .ok (.iconst 1, 1) := by decide +kernel
theorem dX9_isNew_62 : decode cX9_isNew 62 = .ok (.goto 4, 3) := by decide +kernel
theorem dX9_isNew_65 : decode cX9_isNew 65 = .ok (.iconst 0, 1) := by decide +kernel
theorem dX9_isNew_66 : decode cX9_isNew 66 = .ok (.ireturn, 1) := by decide +kernel
theorem dX9_costWith_0 : decode cX9_costWith 0 = .ok (.iload_n 1, 1) := by decide +kernel
theorem dX9_costWith_1 : decode cX9_costWith 1 = .ok (.bipush 100, 2) := by decide +kernel
theorem dX9_costWith_3 : decode cX9_costWith 3 = .ok (.idiv, 1) := by decide +kernel
theorem dX9_costWith_4 : decode cX9_costWith 4 = .ok (.istore 5, 2) := by decide +kernel
theorem dX9_costWith_6 : decode cX9_costWith 6 = .ok (.iload_n 1, 1) := by decide +kernel
theorem dX9_costWith_7 : decode cX9_costWith 7 = .ok (.bipush 10, 2) := by decide +kernel
theorem dX9_costWith_9 : decode cX9_costWith 9 = .ok (.idiv, 1) := by decide +kernel
theorem dX9_costWith_10 : decode cX9_costWith 10 = .ok (.bipush 10, 2) := by decide +kernel
theorem dX9_costWith_12 : decode cX9_costWith 12 = .ok (.irem, 1) := by decide +kernel
theorem dX9_costWith_13 : decode cX9_costWith 13 = .ok (.istore 6, 2) := by decide +kernel
theorem dX9_costWith_15 : decode cX9_costWith 15 = .ok (.iload_n 1, 1) := by decide +kernel
theorem dX9_costWith_16 : decode cX9_costWith 16 = .ok (.bipush 10, 2) := by decide +kernel
theorem dX9_costWith_18 : decode cX9_costWith 18 = .ok (.irem, 1) := by decide +kernel
theorem dX9_costWith_19 : decode cX9_costWith 19 = .ok (.istore 7, 2) := by decide +kernel
theorem dX9_costWith_21 : decode cX9_costWith 21 = .ok (.aload_n 0, 1) := by decide +kernel
theorem dX9_costWith_22 : decode cX9_costWith 22 = .ok (.getfield 60, 3) := by decide +kernel
theorem dX9_costWith_25 : decode cX9_costWith 25 = .ok (.aload_n 0, 1) := by decide +kernel
theorem dX9_costWith_26 : decode cX9_costWith 26 = .ok (.getfield 35, 3) := by decide +kernel
theorem dX9_costWith_29 : decode cX9_costWith 29 = .ok (.iload 5, 2) := by decide +kernel
theorem dX9_costWith_31 : decode cX9_costWith 31 = .ok (.iload 6, 2) := by decide +kernel
theorem dX9_costWith_33 : decode cX9_costWith 33 = .ok (.invokevirtual 295, 3) := by decide +kernel
theorem dX9_costWith_36 : decode cX9_costWith 36 = .ok (.ifCond .ne 33, 3) := by decide +kernel
theorem dX9_costWith_39 : decode cX9_costWith 39 = .ok (.aload_n 0, 1) := by decide +kernel
theorem dX9_costWith_40 : decode cX9_costWith 40 = .ok (.getfield 60, 3) := by decide +kernel
theorem dX9_costWith_43 : decode cX9_costWith 43 = .ok (.aload_n 0, 1) := by decide +kernel
theorem dX9_costWith_44 : decode cX9_costWith 44 = .ok (.getfield 35, 3) := by decide +kernel
theorem dX9_costWith_47 : decode cX9_costWith 47 = .ok (.iload 7, 2) := by decide +kernel
theorem dX9_costWith_49 : decode cX9_costWith 49 = .ok (.iconst 4, 1) := by decide +kernel
theorem dX9_costWith_50 : decode cX9_costWith 50 = .ok (.iload 6, 2) := by decide +kernel
theorem dX9_costWith_52 : decode cX9_costWith 52 = .ok (.iadd, 1) := by decide +kernel
theorem dX9_costWith_53 : decode cX9_costWith 53 = .ok (.invokevirtual 295, 3) := by decide +kernel
theorem dX9_costWith_56 : decode cX9_costWith 56 = .ok (.ifCond .ne 13, 3) := by decide +kernel
theorem dX9_costWith_59 : decode cX9_costWith 59 = .ok (.aload_n 0, 1) := by decide +kernel
theorem dX9_costWith_60 : decode cX9_costWith 60 = .ok (.getfield 60, 3) := by decide +kernel
theorem dX9_costWith_63 : decode cX9_costWith 63 = .ok (.getfield 299, 3) := by decide +kernel
theorem dX9_costWith_66 : decode cX9_costWith 66 = .ok (.iload_n 3, 1) := by decide +kernel
theorem dX9_costWith_67 : decode cX9_costWith 67 = .ok (.iaload, 1) := by decide +kernel
theorem dX9_costWith_68 : decode cX9_costWith 68 = .ok (.ireturn, 1) := by decide +kernel
theorem dX9_costWith_69 : decode cX9_costWith 69 = .ok (.aload_n 0, 1) := by decide +kernel
theorem dX9_costWith_70 : decode cX9_costWith 70 = .ok (.getfield 39, 3) := by decide +kernel
theorem dX9_costWith_73 : decode cX9_costWith 73 = .ok (.aload_n 0, 1) := by decide +kernel
theorem dX9_costWith_74 : decode cX9_costWith 74 = .ok (.getfield 35, 3) := by decide +kernel
theorem dX9_costWith_77 : decode cX9_costWith 77 = .ok (.getfield 101, 3) := by decide +kernel
theorem dX9_costWith_80 : decode cX9_costWith 80 = .ok (.putfield 101, 3) := by decide +kernel
theorem dX9_costWith_83 : decode cX9_costWith 83 = .ok (.aload_n 0, 1) := by decide +kernel
theorem dX9_costWith_84 : decode cX9_costWith 84 = .ok (.getfield 39, 3) := by decide +kernel
theorem dX9_costWith_87 : decode cX9_costWith 87 = .ok (.iload 5, 2) := by decide +kernel
theorem dX9_costWith_89 : decode cX9_costWith 89 = .ok (.iload 6, 2) := by decide +kernel
theorem dX9_costWith_91 : decode cX9_costWith 91 = .ok (.iload 7, 2) := by decide +kernel
theorem dX9_costWith_93 : decode cX9_costWith 93 = .ok (.iconst 1, 1) := by decide +kernel
theorem dX9_costWith_94 : decode cX9_costWith 94 = .ok (.invokevirtual 184, 3) := by decide +kernel
theorem dX9_costWith_97 : decode cX9_costWith 97 = .ok (.pop, 1) := by decide +kernel
theorem dX9_costWith_98 : decode cX9_costWith 98 = .ok (.aload_n 0, 1) := by decide +kernel
theorem dX9_costWith_99 : decode cX9_costWith 99 = .ok (.getfield 64, 3) := by decide +kernel
theorem dX9_costWith_102 : decode cX9_costWith 102 = .ok (.aload_n 0, 1) := by decide +kernel
theorem dX9_costWith_103 : decode cX9_costWith 103 = .ok (.getfield 39, 3) := by decide +kernel
theorem dX9_costWith_106 : decode cX9_costWith 106 = .ok (.iload_n 2, 1) := by decide +kernel
theorem dX9_costWith_107 : decode cX9_costWith 107 = .ok (.iload_n 3, 1) := by decide +kernel
theorem dX9_costWith_108 : decode cX9_costWith 108 = .ok (.iconst 0, 1) := by decide +kernel
theorem dX9_costWith_109 : decode cX9_costWith 109 = .ok (.iload 4, 2) := by decide +kernel
theorem dX9_costWith_111 : decode cX9_costWith 111 = .ok (.invokevirtual 214, 3) := by decide +kernel
theorem dX9_costWith_114 : decode cX9_costWith 114 = .ok (.ireturn, 1) := by decide +kernel
theorem dX9_succeeds_0 : decode cX9_succeeds 0 = .ok (.iload_n 1, 1) := by decide +kernel
theorem dX9_succeeds_1 : decode cX9_succeeds 1 = .ok (.sipush 1000, 3) := by decide +kernel
theorem dX9_succeeds_4 : decode cX9_succeeds 4 = .ok (.idiv, 1) := by decide +kernel
theorem dX9_succeeds_5 : decode cX9_succeeds 5 = .ok (.bipush 10, 2) := by decide +kernel
theorem dX9_succeeds_7 : decode cX9_succeeds 7 = .ok (.irem, 1) := by decide +kernel
theorem dX9_succeeds_8 : decode cX9_succeeds 8 = .ok (.istore_n 2, 1) := by decide +kernel
theorem dX9_succeeds_9 : decode cX9_succeeds 9 = .ok (.iload_n 1, 1) := by decide +kernel
theorem dX9_succeeds_10 : decode cX9_succeeds 10 = .ok (.bipush 100, 2) := by decide +kernel
theorem dX9_succeeds_12 : decode cX9_succeeds 12 = .ok (.idiv, 1) := by decide +kernel
theorem dX9_succeeds_13 : decode cX9_succeeds 13 = .ok (.bipush 10, 2) := by decide +kernel
theorem dX9_succeeds_15 : decode cX9_succeeds 15 = .ok (.irem, 1) := by decide +kernel
theorem dX9_succeeds_16 : decode cX9_succeeds 16 = .ok (.istore_n 3, 1) := by decide +kernel
theorem dX9_succeeds_17 : decode cX9_succeeds 17 = .ok (.iload_n 1, 1) := by decide +kernel
theorem dX9_succeeds_18 : decode cX9_succeeds 18 = .ok (.bipush 10, 2) := by decide +kernel
theorem dX9_succeeds_20 : decode cX9_succeeds 20 = .ok (.idiv, 1) := by decide +kernel
theorem dX9_succeeds_21 : decode cX9_succeeds 21 = .ok (.bipush 10, 2) := by decide +kernel
theorem dX9_succeeds_23 : decode cX9_succeeds 23 = .ok (.irem, 1) := by decide +kernel
theorem dX9_succeeds_24 : decode cX9_succeeds 24 = .ok (.istore 4, 2) := by decide +kernel
theorem dX9_succeeds_26 : decode cX9_succeeds 26 = .ok (.iload_n 1, 1) := by decide +kernel
theorem dX9_succeeds_27 : decode cX9_succeeds 27 = .ok (.bipush 10, 2) := by decide +kernel
theorem dX9_succeeds_29 : decode cX9_succeeds 29 = .ok (.irem, 1) := by decide +kernel
theorem dX9_succeeds_30 : decode cX9_succeeds 30 = .ok (.istore 5, 2) := by decide +kernel
theorem dX9_succeeds_32 : decode cX9_succeeds 32 = .ok (.bipush 10, 2) := by decide +kernel
theorem dX9_succeeds_34 : decode cX9_succeeds 34 = .ok (.iload_n 2, 1) := by decide +kernel
theorem dX9_succeeds_35 : decode cX9_succeeds 35 = .ok (.imul, 1) := by decide +kernel
theorem dX9_succeeds_36 : decode cX9_succeeds 36 = .ok (.iload_n 3, 1) := by decide +kernel
theorem dX9_succeeds_37 : decode cX9_succeeds 37 = .ok (.iadd, 1) := by decide +kernel
theorem dX9_succeeds_38 : decode cX9_succeeds 38 = .ok (.istore 6, 2) := by decide +kernel
theorem dX9_succeeds_40 : decode cX9_succeeds 40 = .ok (.iload_n 1, 1) := by decide +kernel
theorem dX9_succeeds_41 : decode cX9_succeeds 41 = .ok (.sipush 10000, 3) := by decide +kernel
theorem dX9_succeeds_44 : decode cX9_succeeds 44 = .ok (.idiv, 1) := by decide +kernel
theorem dX9_succeeds_45 : decode cX9_succeeds 45 = .ok (.tableswitch 232 1 9 #[51, 62, 87, 109, 134, 159, 174, 196, 221], 51) := by decide +kernel
theorem dX9_succeeds_96 : decode cX9_succeeds 96 = .ok (.aload_n 0, 1) := by decide +kernel
theorem dX9_succeeds_97 : decode cX9_succeeds 97 = .ok (.iload_n 2, 1) := by decide +kernel
theorem dX9_succeeds_98 : decode cX9_succeeds 98 = .ok (.iload_n 3, 1) := by decide +kernel
theorem dX9_succeeds_99 : decode cX9_succeeds 99 = .ok (.iload 4, 2) := by decide +kernel
theorem dX9_succeeds_101 : decode cX9_succeeds 101 = .ok (.iload 5, 2) := by decide +kernel
theorem dX9_succeeds_103 : decode cX9_succeeds 103 = .ok (.invokevirtual 302, 3) := by decide +kernel
theorem dX9_succeeds_106 : decode cX9_succeeds 106 = .ok (.ireturn, 1) := by decide +kernel
theorem dX9_succeeds_107 : decode cX9_succeeds 107 = .ok (.iload 4, 2) := by decide +kernel
theorem dX9_succeeds_109 : decode cX9_succeeds 109 = .ok (.ifCond .ne 21, 3) := by decide +kernel
theorem dX9_succeeds_112 : decode cX9_succeeds 112 = .ok (.iload 5, 2) := by decide +kernel
theorem dX9_succeeds_114 : decode cX9_succeeds 114 = .ok (.ifCond .ne 16, 3) := by decide +kernel
theorem dX9_succeeds_117 : decode cX9_succeeds 117 = .ok (.aload_n 0, 1) := by decide +kernel
theorem dX9_succeeds_118 : decode cX9_succeeds 118 = .ok (.iload 6, 2) := by decide +kernel
theorem dX9_succeeds_120 : decode cX9_succeeds 120 = .ok (.invokevirtual 306, 3) := by decide +kernel
theorem dX9_succeeds_123 : decode cX9_succeeds 123 = .ok (.ifCond .eq 7, 3) := by decide +kernel
theorem dX9_succeeds_126 : decode cX9_succeeds 126 = .ok (.iconst 1, 1) := by decide +kernel
theorem dX9_succeeds_127 : decode cX9_succeeds 127 = .ok (.goto 4, 3) := by decide +kernel
theorem dX9_succeeds_130 : decode cX9_succeeds 130 = .ok (.iconst 0, 1) := by decide +kernel
theorem dX9_succeeds_131 : decode cX9_succeeds 131 = .ok (.ireturn, 1) := by decide +kernel
theorem dX9_succeeds_132 : decode cX9_succeeds 132 = .ok (.iload 4, 2) := by decide +kernel
theorem dX9_succeeds_134 : decode cX9_succeeds 134 = .ok (.ifCond .ne 18, 3) := by decide +kernel
theorem dX9_succeeds_137 : decode cX9_succeeds 137 = .ok (.aload_n 0, 1) := by decide +kernel
theorem dX9_succeeds_138 : decode cX9_succeeds 138 = .ok (.iload 6, 2) := by decide +kernel
theorem dX9_succeeds_140 : decode cX9_succeeds 140 = .ok (.iload 5, 2) := by decide +kernel
theorem dX9_succeeds_142 : decode cX9_succeeds 142 = .ok (.invokevirtual 309, 3) := by decide +kernel
theorem dX9_succeeds_145 : decode cX9_succeeds 145 = .ok (.ifCond .eq 7, 3) := by decide +kernel
theorem dX9_succeeds_148 : decode cX9_succeeds 148 = .ok (.iconst 1, 1) := by decide +kernel
theorem dX9_succeeds_149 : decode cX9_succeeds 149 = .ok (.goto 4, 3) := by decide +kernel
theorem dX9_succeeds_152 : decode cX9_succeeds 152 = .ok (.iconst 0, 1) := by decide +kernel
theorem dX9_succeeds_153 : decode cX9_succeeds 153 = .ok (.ireturn, 1) := by decide +kernel
theorem dX9_succeeds_154 : decode cX9_succeeds 154 = .ok (.iload 4, 2) := by decide +kernel
theorem dX9_succeeds_156 : decode cX9_succeeds 156 = .ok (.ifCond .ne 21, 3) := by decide +kernel
theorem dX9_succeeds_159 : decode cX9_succeeds 159 = .ok (.iload 5, 2) := by decide +kernel
theorem dX9_succeeds_161 : decode cX9_succeeds 161 = .ok (.ifCond .ne 16, 3) := by decide +kernel
theorem dX9_succeeds_164 : decode cX9_succeeds 164 = .ok (.aload_n 0, 1) := by decide +kernel
theorem dX9_succeeds_165 : decode cX9_succeeds 165 = .ok (.iload 6, 2) := by decide +kernel
theorem dX9_succeeds_167 : decode cX9_succeeds 167 = .ok (.invokevirtual 312, 3) := by decide +kernel
theorem dX9_succeeds_170 : decode cX9_succeeds 170 = .ok (.ifCond .eq 7, 3) := by decide +kernel
theorem dX9_succeeds_173 : decode cX9_succeeds 173 = .ok (.iconst 1, 1) := by decide +kernel
theorem dX9_succeeds_174 : decode cX9_succeeds 174 = .ok (.goto 4, 3) := by decide +kernel
theorem dX9_succeeds_177 : decode cX9_succeeds 177 = .ok (.iconst 0, 1) := by decide +kernel
theorem dX9_succeeds_178 : decode cX9_succeeds 178 = .ok (.ireturn, 1) := by decide +kernel
theorem dX9_succeeds_179 : decode cX9_succeeds 179 = .ok (.iload 4, 2) := by decide +kernel
theorem dX9_succeeds_181 : decode cX9_succeeds 181 = .ok (.ifCond .ne 21, 3) := by decide +kernel
theorem dX9_succeeds_184 : decode cX9_succeeds 184 = .ok (.iload 5, 2) := by decide +kernel
theorem dX9_succeeds_186 : decode cX9_succeeds 186 = .ok (.ifCond .ne 16, 3) := by decide +kernel
theorem dX9_succeeds_189 : decode cX9_succeeds 189 = .ok (.aload_n 0, 1) := by decide +kernel
theorem dX9_succeeds_190 : decode cX9_succeeds 190 = .ok (.iload_n 2, 1) := by decide +kernel
theorem dX9_succeeds_191 : decode cX9_succeeds 191 = .ok (.iload_n 3, 1) := by decide +kernel
theorem dX9_succeeds_192 : decode cX9_succeeds 192 = .ok (.invokevirtual 315, 3) := by decide +kernel
theorem dX9_succeeds_195 : decode cX9_succeeds 195 = .ok (.ifCond .eq 7, 3) := by decide +kernel
theorem dX9_succeeds_198 : decode cX9_succeeds 198 = .ok (.iconst 1, 1) := by decide +kernel
theorem dX9_succeeds_199 : decode cX9_succeeds 199 = .ok (.goto 4, 3) := by decide +kernel
theorem dX9_succeeds_202 : decode cX9_succeeds 202 = .ok (.iconst 0, 1) := by decide +kernel
theorem dX9_succeeds_203 : decode cX9_succeeds 203 = .ok (.ireturn, 1) := by decide +kernel
theorem dX9_succeeds_204 : decode cX9_succeeds 204 = .ok (.aload_n 0, 1) := by decide +kernel
theorem dX9_succeeds_205 : decode cX9_succeeds 205 = .ok (.iload_n 2, 1) := by decide +kernel
theorem dX9_succeeds_206 : decode cX9_succeeds 206 = .ok (.iload_n 3, 1) := by decide +kernel
theorem dX9_succeeds_207 : decode cX9_succeeds 207 = .ok (.bipush 10, 2) := by decide +kernel
theorem dX9_succeeds_209 : decode cX9_succeeds 209 = .ok (.iload 4, 2) := by decide +kernel
theorem dX9_succeeds_211 : decode cX9_succeeds 211 = .ok (.imul, 1) := by decide +kernel
theorem dX9_succeeds_212 : decode cX9_succeeds 212 = .ok (.iload 5, 2) := by decide +kernel
theorem dX9_succeeds_214 : decode cX9_succeeds 214 = .ok (.iadd, 1) := by decide +kernel
theorem dX9_succeeds_215 : decode cX9_succeeds 215 = .ok (.invokevirtual 318, 3) := by decide +kernel
theorem dX9_succeeds_218 : decode cX9_succeeds 218 = .ok (.ireturn, 1) := by decide +kernel
theorem dX9_succeeds_219 : decode cX9_succeeds 219 = .ok (.iload 4, 2) := by decide +kernel
theorem dX9_succeeds_221 : decode cX9_succeeds 221 = .ok (.ifCond .ne 18, 3) := by decide +kernel
theorem dX9_succeeds_224 : decode cX9_succeeds 224 = .ok (.aload_n 0, 1) := by decide +kernel
theorem dX9_succeeds_225 : decode cX9_succeeds 225 = .ok (.iload_n 2, 1) := by decide +kernel
theorem dX9_succeeds_226 : decode cX9_succeeds 226 = .ok (.iload_n 3, 1) := by decide +kernel
theorem dX9_succeeds_227 : decode cX9_succeeds 227 = .ok (.iload 5, 2) := by decide +kernel
theorem dX9_succeeds_229 : decode cX9_succeeds 229 = .ok (.invokevirtual 322, 3) := by decide +kernel
theorem dX9_succeeds_232 : decode cX9_succeeds 232 = .ok (.ifCond .eq 7, 3) := by decide +kernel
theorem dX9_succeeds_235 : decode cX9_succeeds 235 = .ok (.iconst 1, 1) := by decide +kernel
theorem dX9_succeeds_236 : decode cX9_succeeds 236 = .ok (.goto 4, 3) := by decide +kernel
theorem dX9_succeeds_239 : decode cX9_succeeds 239 = .ok (.iconst 0, 1) := by decide +kernel
theorem dX9_succeeds_240 : decode cX9_succeeds 240 = .ok (.ireturn, 1) := by decide +kernel
theorem dX9_succeeds_241 : decode cX9_succeeds 241 = .ok (.iload_n 3, 1) := by decide +kernel
theorem dX9_succeeds_242 : decode cX9_succeeds 242 = .ok (.ifCond .ne 22, 3) := by decide +kernel
theorem dX9_succeeds_245 : decode cX9_succeeds 245 = .ok (.iload 4, 2) := by decide +kernel
theorem dX9_succeeds_247 : decode cX9_succeeds 247 = .ok (.ifCond .ne 17, 3) := by decide +kernel
theorem dX9_succeeds_250 : decode cX9_succeeds 250 = .ok (.aload_n 0, 1) := by decide +kernel
theorem dX9_succeeds_251 : decode cX9_succeeds 251 = .ok (.iload_n 2, 1) := by decide +kernel
theorem dX9_succeeds_252 : decode cX9_succeeds 252 = .ok (.iload 5, 2) := by decide +kernel
theorem dX9_succeeds_254 : decode cX9_succeeds 254 = .ok (.invokevirtual 325, 3) := by decide +kernel
theorem dX9_succeeds_257 : decode cX9_succeeds 257 = .ok (.ifCond .eq 7, 3) := by decide +kernel
theorem dX9_succeeds_260 : decode cX9_succeeds 260 = .ok (.iconst 1, 1) := by decide +kernel
theorem dX9_succeeds_261 : decode cX9_succeeds 261 = .ok (.goto 4, 3) := by decide +kernel
theorem dX9_succeeds_264 : decode cX9_succeeds 264 = .ok (.iconst 0, 1) := by decide +kernel
theorem dX9_succeeds_265 : decode cX9_succeeds 265 = .ok (.ireturn, 1) := by decide +kernel
theorem dX9_succeeds_266 : decode cX9_succeeds 266 = .ok (.aload_n 0, 1) := by decide +kernel
theorem dX9_succeeds_267 : decode cX9_succeeds 267 = .ok (.iload 6, 2) := by decide +kernel
theorem dX9_succeeds_269 : decode cX9_succeeds 269 = .ok (.iload 4, 2) := by decide +kernel
theorem dX9_succeeds_271 : decode cX9_succeeds 271 = .ok (.iload 5, 2) := by decide +kernel
theorem dX9_succeeds_273 : decode cX9_succeeds 273 = .ok (.invokevirtual 328, 3) := by decide +kernel
theorem dX9_succeeds_276 : decode cX9_succeeds 276 = .ok (.ireturn, 1) := by decide +kernel
theorem dX9_succeeds_277 : decode cX9_succeeds 277 = .ok (.iconst 0, 1) := by decide +kernel
theorem dX9_succeeds_278 : decode cX9_succeeds 278 = .ok (.ireturn, 1) := by decide +kernel
theorem dX9_adds_0 : decode cX9_adds 0 = .ok (.aload_n 0, 1) := by decide +kernel
theorem dX9_adds_1 : decode cX9_adds 1 = .ok (.getfield 39, 3) := by decide +kernel
theorem dX9_adds_4 : decode cX9_adds 4 = .ok (.iload_n 1, 1) := by decide +kernel
theorem dX9_adds_5 : decode cX9_adds 5 = .ok (.iload_n 2, 1) := by decide +kernel
theorem dX9_adds_6 : decode cX9_adds 6 = .ok (.iload_n 3, 1) := by decide +kernel
theorem dX9_adds_7 : decode cX9_adds 7 = .ok (.iload 4, 2) := by decide +kernel
theorem dX9_adds_9 : decode cX9_adds 9 = .ok (.invokevirtual 176, 3) := by decide +kernel
theorem dX9_adds_12 : decode cX9_adds 12 = .ok (.ifCond .eq 5, 3) := by decide +kernel
theorem dX9_adds_15 : decode cX9_adds 15 = .ok (.iconst 0, 1) := by decide +kernel
theorem dX9_adds_16 : decode cX9_adds 16 = .ok (.ireturn, 1) := by decide +kernel
theorem dX9_adds_17 : decode cX9_adds 17 = .ok (.aload_n 0, 1) := by decide +kernel
theorem dX9_adds_18 : decode cX9_adds 18 = .ok (.getfield 39, 3) := by decide +kernel
theorem dX9_adds_21 : decode cX9_adds 21 = .ok (.iload_n 1, 1) := by decide +kernel
theorem dX9_adds_22 : decode cX9_adds 22 = .ok (.iload_n 2, 1) := by decide +kernel
theorem dX9_adds_23 : decode cX9_adds 23 = .ok (.iload_n 3, 1) := by decide +kernel
theorem dX9_adds_24 : decode cX9_adds 24 = .ok (.iload 4, 2) := by decide +kernel
theorem dX9_adds_26 : decode cX9_adds 26 = .ok (.invokevirtual 184, 3) := by decide +kernel
theorem dX9_adds_29 : decode cX9_adds 29 = .ok (.pop, 1) := by decide +kernel
theorem dX9_adds_30 : decode cX9_adds 30 = .ok (.iconst 1, 1) := by decide +kernel
theorem dX9_adds_31 : decode cX9_adds 31 = .ok (.ireturn, 1) := by decide +kernel
theorem dX9_removes_0 : decode cX9_removes 0 = .ok (.aload_n 0, 1) := by decide +kernel
theorem dX9_removes_1 : decode cX9_removes 1 = .ok (.getfield 39, 3) := by decide +kernel
theorem dX9_removes_4 : decode cX9_removes 4 = .ok (.iload_n 1, 1) := by decide +kernel
theorem dX9_removes_5 : decode cX9_removes 5 = .ok (.invokevirtual 131, 3) := by decide +kernel
theorem dX9_removes_8 : decode cX9_removes 8 = .ok (.ifCond .ne 5, 3) := by decide +kernel
theorem dX9_removes_11 : decode cX9_removes 11 = .ok (.iconst 0, 1) := by decide +kernel
theorem dX9_removes_12 : decode cX9_removes 12 = .ok (.ireturn, 1) := by decide +kernel
theorem dX9_removes_13 : decode cX9_removes 13 = .ok (.aload_n 0, 1) := by decide +kernel
theorem dX9_removes_14 : decode cX9_removes 14 = .ok (.getfield 39, 3) := by decide +kernel
theorem dX9_removes_17 : decode cX9_removes 17 = .ok (.iload_n 1, 1) := by decide +kernel
theorem dX9_removes_18 : decode cX9_removes 18 = .ok (.invokevirtual 187, 3) := by decide +kernel
theorem dX9_removes_21 : decode cX9_removes 21 = .ok (.iconst 1, 1) := by decide +kernel
theorem dX9_removes_22 : decode cX9_removes 22 = .ok (.ireturn, 1) := by decide +kernel
theorem dX9_setsCost_0 : decode cX9_setsCost 0 = .ok (.aload_n 0, 1) := by decide +kernel
theorem dX9_setsCost_1 : decode cX9_setsCost 1 = .ok (.getfield 39, 3) := by decide +kernel
theorem dX9_setsCost_4 : decode cX9_setsCost 4 = .ok (.iload_n 1, 1) := by decide +kernel
theorem dX9_setsCost_5 : decode cX9_setsCost 5 = .ok (.iload_n 2, 1) := by decide +kernel
theorem dX9_setsCost_6 : decode cX9_setsCost 6 = .ok (.invokevirtual 190, 3) := by decide +kernel
theorem dX9_setsCost_9 : decode cX9_setsCost 9 = .ok (.ifCond .eq 5, 3) := by decide +kernel
theorem dX9_setsCost_12 : decode cX9_setsCost 12 = .ok (.iconst 0, 1) := by decide +kernel
theorem dX9_setsCost_13 : decode cX9_setsCost 13 = .ok (.ireturn, 1) := by decide +kernel
theorem dX9_setsCost_14 : decode cX9_setsCost 14 = .ok (.aload_n 0, 1) := by decide +kernel
theorem dX9_setsCost_15 : decode cX9_setsCost 15 = .ok (.getfield 39, 3) := by decide +kernel
theorem dX9_setsCost_18 : decode cX9_setsCost 18 = .ok (.getfield 144, 3) := by decide +kernel
theorem dX9_setsCost_21 : decode cX9_setsCost 21 = .ok (.iload_n 1, 1) := by decide +kernel
theorem dX9_setsCost_22 : decode cX9_setsCost 22 = .ok (.iload_n 2, 1) := by decide +kernel
theorem dX9_setsCost_23 : decode cX9_setsCost 23 = .ok (.iastore, 1) := by decide +kernel
theorem dX9_setsCost_24 : decode cX9_setsCost 24 = .ok (.iconst 1, 1) := by decide +kernel
theorem dX9_setsCost_25 : decode cX9_setsCost 25 = .ok (.ireturn, 1) := by decide +kernel
theorem dX9_turns_0 : decode cX9_turns 0 = .ok (.aload_n 0, 1) := by decide +kernel
theorem dX9_turns_1 : decode cX9_turns 1 = .ok (.getfield 39, 3) := by decide +kernel
theorem dX9_turns_4 : decode cX9_turns 4 = .ok (.iload_n 1, 1) := by decide +kernel
theorem dX9_turns_5 : decode cX9_turns 5 = .ok (.invokevirtual 194, 3) := by decide +kernel
theorem dX9_turns_8 : decode cX9_turns 8 = .ok (.ifCond .eq 5, 3) := by decide +kernel
theorem dX9_turns_11 : decode cX9_turns 11 = .ok (.iconst 0, 1) := by decide +kernel
theorem dX9_turns_12 : decode cX9_turns 12 = .ok (.ireturn, 1) := by decide +kernel
theorem dX9_turns_13 : decode cX9_turns 13 = .ok (.aload_n 0, 1) := by decide +kernel
theorem dX9_turns_14 : decode cX9_turns 14 = .ok (.getfield 39, 3) := by decide +kernel
theorem dX9_turns_17 : decode cX9_turns 17 = .ok (.iload_n 1, 1) := by decide +kernel
theorem dX9_turns_18 : decode cX9_turns 18 = .ok (.invokevirtual 198, 3) := by decide +kernel
theorem dX9_turns_21 : decode cX9_turns 21 = .ok (.iconst 1, 1) := by decide +kernel
theorem dX9_turns_22 : decode cX9_turns 22 = .ok (.ireturn, 1) := by decide +kernel
theorem dX9_exchanges_0 : decode cX9_exchanges 0 = .ok (.iload_n 1, 1) := by decide +kernel
theorem dX9_exchanges_1 : decode cX9_exchanges 1 = .ok (.invokestatic 165, 3) := by decide +kernel
theorem dX9_exchanges_4 : decode cX9_exchanges 4 = .ok (.ifCond .eq 10, 3) := by decide +kernel
theorem dX9_exchanges_7 : decode cX9_exchanges 7 = .ok (.iload_n 2, 1) := by decide +kernel
theorem dX9_exchanges_8 : decode cX9_exchanges 8 = .ok (.invokestatic 165, 3) := by decide +kernel
theorem dX9_exchanges_11 : decode cX9_exchanges 11 = .ok (.ifCond .ne 5, 3) := by decide +kernel
theorem dX9_exchanges_14 : decode cX9_exchanges 14 = .ok (.iconst 0, 1) := by decide +kernel
theorem dX9_exchanges_15 : decode cX9_exchanges 15 = .ok (.ireturn, 1) := by decide +kernel
theorem dX9_exchanges_16 : decode cX9_exchanges 16 = .ok (.aload_n 0, 1) := by decide +kernel
theorem dX9_exchanges_17 : decode cX9_exchanges 17 = .ok (.getfield 39, 3) := by decide +kernel
theorem dX9_exchanges_20 : decode cX9_exchanges 20 = .ok (.iload_n 1, 1) := by decide +kernel
theorem dX9_exchanges_21 : decode cX9_exchanges 21 = .ok (.iload_n 2, 1) := by decide +kernel
theorem dX9_exchanges_22 : decode cX9_exchanges 22 = .ok (.invokevirtual 201, 3) := by decide +kernel
theorem dX9_exchanges_25 : decode cX9_exchanges 25 = .ok (.pop, 1) := by decide +kernel
theorem dX9_exchanges_26 : decode cX9_exchanges 26 = .ok (.iconst 1, 1) := by decide +kernel
theorem dX9_exchanges_27 : decode cX9_exchanges 27 = .ok (.ireturn, 1) := by decide +kernel
theorem dX9_costsAtMost_0 : decode cX9_costsAtMost 0 = .ok (.aload_n 0, 1) := by decide +kernel
theorem dX9_costsAtMost_1 : decode cX9_costsAtMost 1 = .ok (.getfield 39, 3) := by decide +kernel
theorem dX9_costsAtMost_4 : decode cX9_costsAtMost 4 = .ok (.iload_n 1, 1) := by decide +kernel
theorem dX9_costsAtMost_5 : decode cX9_costsAtMost 5 = .ok (.iload_n 2, 1) := by decide +kernel
theorem dX9_costsAtMost_6 : decode cX9_costsAtMost 6 = .ok (.invokevirtual 161, 3) := by decide +kernel
theorem dX9_costsAtMost_9 : decode cX9_costsAtMost 9 = .ok (.ifCond .eq 29, 3) := by decide +kernel
theorem dX9_costsAtMost_12 : decode cX9_costsAtMost 12 = .ok (.aload_n 0, 1) := by decide +kernel
theorem dX9_costsAtMost_13 : decode cX9_costsAtMost 13 = .ok (.getfield 60, 3) := by decide +kernel
theorem dX9_costsAtMost_16 : decode cX9_costsAtMost 16 = .ok (.aload_n 0, 1) := by decide +kernel
theorem dX9_costsAtMost_17 : decode cX9_costsAtMost 17 = .ok (.getfield 39, 3) := by decide +kernel
theorem dX9_costsAtMost_20 : decode cX9_costsAtMost 20 = .ok (.iload_n 1, 1) := by decide +kernel
theorem dX9_costsAtMost_21 : decode cX9_costsAtMost 21 = .ok (.iload_n 2, 1) := by decide +kernel
theorem dX9_costsAtMost_22 : decode cX9_costsAtMost 22 = .ok (.iconst 0, 1) := by decide +kernel
theorem dX9_costsAtMost_23 : decode cX9_costsAtMost 23 = .ok (.iload_n 3, 1) := by decide +kernel
theorem dX9_costsAtMost_24 : decode cX9_costsAtMost 24 = .ok (.iconst 1, 1) := by decide +kernel
theorem dX9_costsAtMost_25 : decode cX9_costsAtMost 25 = .ok (.iadd, 1) := by decide +kernel
theorem dX9_costsAtMost_26 : decode cX9_costsAtMost 26 = .ok (.invokevirtual 214, 3) := by decide +kernel
theorem dX9_costsAtMost_29 : decode cX9_costsAtMost 29 = .ok (.bipush (-9), 2) := by decide +kernel
theorem dX9_costsAtMost_31 : decode cX9_costsAtMost 31 = .ok (.if_icmp .eq 7, 3) := by decide +kernel
theorem dX9_costsAtMost_34 : decode cX9_costsAtMost 34 = .ok (.iconst 1, 1) := by decide +kernel
theorem dX9_costsAtMost_35 : decode cX9_costsAtMost 35 = .ok (.goto 4, 3) := by decide +kernel
theorem dX9_costsAtMost_38 : decode cX9_costsAtMost 38 = .ok (.iconst 0, 1) := by decide +kernel
theorem dX9_costsAtMost_39 : decode cX9_costsAtMost 39 = .ok (.ireturn, 1) := by decide +kernel
theorem dX9_goesAtMost_0 : decode cX9_goesAtMost 0 = .ok (.aload_n 0, 1) := by decide +kernel
theorem dX9_goesAtMost_1 : decode cX9_goesAtMost 1 = .ok (.getfield 39, 3) := by decide +kernel
theorem dX9_goesAtMost_4 : decode cX9_goesAtMost 4 = .ok (.iload_n 1, 1) := by decide +kernel
theorem dX9_goesAtMost_5 : decode cX9_goesAtMost 5 = .ok (.iload_n 2, 1) := by decide +kernel
theorem dX9_goesAtMost_6 : decode cX9_goesAtMost 6 = .ok (.invokevirtual 161, 3) := by decide +kernel
theorem dX9_goesAtMost_9 : decode cX9_goesAtMost 9 = .ok (.ifCond .ne 5, 3) := by decide +kernel
theorem dX9_goesAtMost_12 : decode cX9_goesAtMost 12 = .ok (.iconst 0, 1) := by decide +kernel
theorem dX9_goesAtMost_13 : decode cX9_goesAtMost 13 = .ok (.ireturn, 1) := by decide +kernel
theorem dX9_goesAtMost_14 : decode cX9_goesAtMost 14 = .ok (.aload_n 0, 1) := by decide +kernel
theorem dX9_goesAtMost_15 : decode cX9_goesAtMost 15 = .ok (.getfield 70, 3) := by decide +kernel
theorem dX9_goesAtMost_18 : decode cX9_goesAtMost 18 = .ok (.aload_n 0, 1) := by decide +kernel
theorem dX9_goesAtMost_19 : decode cX9_goesAtMost 19 = .ok (.getfield 39, 3) := by decide +kernel
theorem dX9_goesAtMost_22 : decode cX9_goesAtMost 22 = .ok (.iload_n 2, 1) := by decide +kernel
theorem dX9_goesAtMost_23 : decode cX9_goesAtMost 23 = .ok (.invokevirtual 218, 3) := by decide +kernel
theorem dX9_goesAtMost_26 : decode cX9_goesAtMost 26 = .ok (.aload_n 0, 1) := by decide +kernel
theorem dX9_goesAtMost_27 : decode cX9_goesAtMost 27 = .ok (.getfield 70, 3) := by decide +kernel
theorem dX9_goesAtMost_30 : decode cX9_goesAtMost 30 = .ok (.iload_n 1, 1) := by decide +kernel
theorem dX9_goesAtMost_31 : decode cX9_goesAtMost 31 = .ok (.invokevirtual 221, 3) := by decide +kernel
theorem dX9_goesAtMost_34 : decode cX9_goesAtMost 34 = .ok (.istore 4, 2) := by decide +kernel
theorem dX9_goesAtMost_36 : decode cX9_goesAtMost 36 = .ok (.iload 4, 2) := by decide +kernel
theorem dX9_goesAtMost_38 : decode cX9_goesAtMost 38 = .ok (.bipush (-9), 2) := by decide +kernel
theorem dX9_goesAtMost_40 : decode cX9_goesAtMost 40 = .ok (.if_icmp .eq 13, 3) := by decide +kernel
theorem dX9_goesAtMost_43 : decode cX9_goesAtMost 43 = .ok (.iload 4, 2) := by decide +kernel
theorem dX9_goesAtMost_45 : decode cX9_goesAtMost 45 = .ok (.iload_n 3, 1) := by decide +kernel
theorem dX9_goesAtMost_46 : decode cX9_goesAtMost 46 = .ok (.if_icmp .gt 7, 3) := by decide +kernel
theorem dX9_goesAtMost_49 : decode cX9_goesAtMost 49 = .ok (.iconst 1, 1) := by decide +kernel
theorem dX9_goesAtMost_50 : decode cX9_goesAtMost 50 = .ok (.goto 4, 3) := by decide +kernel
theorem dX9_goesAtMost_53 : decode cX9_goesAtMost 53 = .ok (.iconst 0, 1) := by decide +kernel
theorem dX9_goesAtMost_54 : decode cX9_goesAtMost 54 = .ok (.ireturn, 1) := by decide +kernel
theorem dX9_reachesAtLeast_0 : decode cX9_reachesAtLeast 0 = .ok (.aload_n 0, 1) := by decide +kernel
theorem dX9_reachesAtLeast_1 : decode cX9_reachesAtLeast 1 = .ok (.getfield 39, 3) := by decide +kernel
theorem dX9_reachesAtLeast_4 : decode cX9_reachesAtLeast 4 = .ok (.iload_n 1, 1) := by decide +kernel
theorem dX9_reachesAtLeast_5 : decode cX9_reachesAtLeast 5 = .ok (.invokevirtual 147, 3) := by decide +kernel
theorem dX9_reachesAtLeast_8 : decode cX9_reachesAtLeast 8 = .ok (.ifCond .eq 26, 3) := by decide +kernel
theorem dX9_reachesAtLeast_11 : decode cX9_reachesAtLeast 11 = .ok (.aload_n 0, 1) := by decide +kernel
theorem dX9_reachesAtLeast_12 : decode cX9_reachesAtLeast 12 = .ok (.getfield 60, 3) := by decide +kernel
theorem dX9_reachesAtLeast_15 : decode cX9_reachesAtLeast 15 = .ok (.aload_n 0, 1) := by decide +kernel
theorem dX9_reachesAtLeast_16 : decode cX9_reachesAtLeast 16 = .ok (.getfield 39, 3) := by decide +kernel
theorem dX9_reachesAtLeast_19 : decode cX9_reachesAtLeast 19 = .ok (.iload_n 1, 1) := by decide +kernel
theorem dX9_reachesAtLeast_20 : decode cX9_reachesAtLeast 20 = .ok (.invokevirtual 154, 3) := by decide +kernel
theorem dX9_reachesAtLeast_23 : decode cX9_reachesAtLeast 23 = .ok (.invokestatic 331, 3) := by decide +kernel
theorem dX9_reachesAtLeast_26 : decode cX9_reachesAtLeast 26 = .ok (.iload_n 2, 1) := by decide +kernel
theorem dX9_reachesAtLeast_27 : decode cX9_reachesAtLeast 27 = .ok (.if_icmp .lt 7, 3) := by decide +kernel
theorem dX9_reachesAtLeast_30 : decode cX9_reachesAtLeast 30 = .ok (.iconst 1, 1) := by decide +kernel
theorem dX9_reachesAtLeast_31 : decode cX9_reachesAtLeast 31 = .ok (.goto 4, 3) := by decide +kernel
theorem dX9_reachesAtLeast_34 : decode cX9_reachesAtLeast 34 = .ok (.iconst 0, 1) := by decide +kernel
theorem dX9_reachesAtLeast_35 : decode cX9_reachesAtLeast 35 = .ok (.ireturn, 1) := by decide +kernel
theorem dX9_needsStep_0 : decode cX9_needsStep 0 = .ok (.aload_n 0, 1) := by decide +kernel
theorem dX9_needsStep_1 : decode cX9_needsStep 1 = .ok (.getfield 39, 3) := by decide +kernel
theorem dX9_needsStep_4 : decode cX9_needsStep 4 = .ok (.iload_n 1, 1) := by decide +kernel
theorem dX9_needsStep_5 : decode cX9_needsStep 5 = .ok (.invokevirtual 131, 3) := by decide +kernel
theorem dX9_needsStep_8 : decode cX9_needsStep 8 = .ok (.ifCond .eq 55, 3) := by decide +kernel
theorem dX9_needsStep_11 : decode cX9_needsStep 11 = .ok (.aload_n 0, 1) := by decide +kernel
theorem dX9_needsStep_12 : decode cX9_needsStep 12 = .ok (.getfield 39, 3) := by decide +kernel
theorem dX9_needsStep_15 : decode cX9_needsStep 15 = .ok (.iload_n 2, 1) := by decide +kernel
theorem dX9_needsStep_16 : decode cX9_needsStep 16 = .ok (.iload_n 3, 1) := by decide +kernel
theorem dX9_needsStep_17 : decode cX9_needsStep 17 = .ok (.invokevirtual 161, 3) := by decide +kernel
theorem dX9_needsStep_20 : decode cX9_needsStep 20 = .ok (.ifCond .eq 43, 3) := by decide +kernel
theorem dX9_needsStep_23 : decode cX9_needsStep 23 = .ok (.aload_n 0, 1) := by decide +kernel
theorem dX9_needsStep_24 : decode cX9_needsStep 24 = .ok (.getfield 60, 3) := by decide +kernel
theorem dX9_needsStep_27 : decode cX9_needsStep 27 = .ok (.aload_n 0, 1) := by decide +kernel
theorem dX9_needsStep_28 : decode cX9_needsStep 28 = .ok (.getfield 39, 3) := by decide +kernel
theorem dX9_needsStep_31 : decode cX9_needsStep 31 = .ok (.iload_n 2, 1) := by decide +kernel
theorem dX9_needsStep_32 : decode cX9_needsStep 32 = .ok (.iload_n 3, 1) := by decide +kernel
theorem dX9_needsStep_33 : decode cX9_needsStep 33 = .ok (.iconst 0, 1) := by decide +kernel
theorem dX9_needsStep_34 : decode cX9_needsStep 34 = .ok (.invokevirtual 231, 3) := by decide +kernel
theorem dX9_needsStep_37 : decode cX9_needsStep 37 = .ok (.ifCond .eq 26, 3) := by decide +kernel
theorem dX9_needsStep_40 : decode cX9_needsStep 40 = .ok (.aload_n 0, 1) := by decide +kernel
theorem dX9_needsStep_41 : decode cX9_needsStep 41 = .ok (.getfield 60, 3) := by decide +kernel
theorem dX9_needsStep_44 : decode cX9_needsStep 44 = .ok (.aload_n 0, 1) := by decide +kernel
theorem dX9_needsStep_45 : decode cX9_needsStep 45 = .ok (.getfield 39, 3) := by decide +kernel
theorem dX9_needsStep_48 : decode cX9_needsStep 48 = .ok (.iload_n 2, 1) := by decide +kernel
theorem dX9_needsStep_49 : decode cX9_needsStep 49 = .ok (.iload_n 3, 1) := by decide +kernel
theorem dX9_needsStep_50 : decode cX9_needsStep 50 = .ok (.iconst 1, 1) := by decide +kernel
theorem dX9_needsStep_51 : decode cX9_needsStep 51 = .ok (.iload_n 1, 1) := by decide +kernel
theorem dX9_needsStep_52 : decode cX9_needsStep 52 = .ok (.ishl, 1) := by decide +kernel
theorem dX9_needsStep_53 : decode cX9_needsStep 53 = .ok (.invokevirtual 231, 3) := by decide +kernel
theorem dX9_needsStep_56 : decode cX9_needsStep 56 = .ok (.ifCond .ne 7, 3) := by decide +kernel
theorem dX9_needsStep_59 : decode cX9_needsStep 59 = .ok (.iconst 1, 1) := by decide +kernel
theorem dX9_needsStep_60 : decode cX9_needsStep 60 = .ok (.goto 4, 3) := by decide +kernel
theorem dX9_needsStep_63 : decode cX9_needsStep 63 = .ok (.iconst 0, 1) := by decide +kernel
theorem dX9_needsStep_64 : decode cX9_needsStep 64 = .ok (.ireturn, 1) := by decide +kernel
theorem dJ6_bitCount_0f7a4_0 : decode cJ6_bitCount_0f7a4 0 = .ok (.iload_n 0, 1) := by decide +kernel
theorem dJ6_bitCount_0f7a4_1 : decode cJ6_bitCount_0f7a4 1 = .ok (.iload_n 0, 1) := by decide +kernel
theorem dJ6_bitCount_0f7a4_2 : decode cJ6_bitCount_0f7a4 2 = .ok (.iconst 1, 1) := by decide +kernel
theorem dJ6_bitCount_0f7a4_3 : decode cJ6_bitCount_0f7a4 3 = .ok (.iushr, 1) := by decide +kernel
theorem dJ6_bitCount_0f7a4_4 : decode cJ6_bitCount_0f7a4 4 = .ok (.ldc_w 265, 3) := by decide +kernel
theorem dJ6_bitCount_0f7a4_7 : decode cJ6_bitCount_0f7a4 7 = .ok (.iand, 1) := by decide +kernel
theorem dJ6_bitCount_0f7a4_8 : decode cJ6_bitCount_0f7a4 8 = .ok (.isub, 1) := by decide +kernel
theorem dJ6_bitCount_0f7a4_9 : decode cJ6_bitCount_0f7a4 9 = .ok (.istore_n 0, 1) := by decide +kernel
theorem dJ6_bitCount_0f7a4_10 : decode cJ6_bitCount_0f7a4 10 = .ok (.iload_n 0, 1) := by decide +kernel
theorem dJ6_bitCount_0f7a4_11 : decode cJ6_bitCount_0f7a4 11 = .ok (.ldc_w 266, 3) := by decide +kernel
theorem dJ6_bitCount_0f7a4_14 : decode cJ6_bitCount_0f7a4 14 = .ok (.iand, 1) := by decide +kernel
theorem dJ6_bitCount_0f7a4_15 : decode cJ6_bitCount_0f7a4 15 = .ok (.iload_n 0, 1) := by decide +kernel
theorem dJ6_bitCount_0f7a4_16 : decode cJ6_bitCount_0f7a4 16 = .ok (.iconst 2, 1) := by decide +kernel
theorem dJ6_bitCount_0f7a4_17 : decode cJ6_bitCount_0f7a4 17 = .ok (.iushr, 1) := by decide +kernel
theorem dJ6_bitCount_0f7a4_18 : decode cJ6_bitCount_0f7a4 18 = .ok (.ldc_w 266, 3) := by decide +kernel
theorem dJ6_bitCount_0f7a4_21 : decode cJ6_bitCount_0f7a4 21 = .ok (.iand, 1) := by decide +kernel
theorem dJ6_bitCount_0f7a4_22 : decode cJ6_bitCount_0f7a4 22 = .ok (.iadd, 1) := by decide +kernel
theorem dJ6_bitCount_0f7a4_23 : decode cJ6_bitCount_0f7a4 23 = .ok (.istore_n 0, 1) := by decide +kernel
theorem dJ6_bitCount_0f7a4_24 : decode cJ6_bitCount_0f7a4 24 = .ok (.iload_n 0, 1) := by decide +kernel
theorem dJ6_bitCount_0f7a4_25 : decode cJ6_bitCount_0f7a4 25 = .ok (.iload_n 0, 1) := by decide +kernel
theorem dJ6_bitCount_0f7a4_26 : decode cJ6_bitCount_0f7a4 26 = .ok (.iconst 4, 1) := by decide +kernel
theorem dJ6_bitCount_0f7a4_27 : decode cJ6_bitCount_0f7a4 27 = .ok (.iushr, 1) := by decide +kernel
theorem dJ6_bitCount_0f7a4_28 : decode cJ6_bitCount_0f7a4 28 = .ok (.iadd, 1) := by decide +kernel
theorem dJ6_bitCount_0f7a4_29 : decode cJ6_bitCount_0f7a4 29 = .ok (.ldc_w 267, 3) := by decide +kernel
theorem dJ6_bitCount_0f7a4_32 : decode cJ6_bitCount_0f7a4 32 = .ok (.iand, 1) := by decide +kernel
theorem dJ6_bitCount_0f7a4_33 : decode cJ6_bitCount_0f7a4 33 = .ok (.istore_n 0, 1) := by decide +kernel
theorem dJ6_bitCount_0f7a4_34 : decode cJ6_bitCount_0f7a4 34 = .ok (.iload_n 0, 1) := by decide +kernel
theorem dJ6_bitCount_0f7a4_35 : decode cJ6_bitCount_0f7a4 35 = .ok (.iload_n 0, 1) := by decide +kernel
theorem dJ6_bitCount_0f7a4_36 : decode cJ6_bitCount_0f7a4 36 = .ok (.bipush 8, 2) := by decide +kernel
theorem dJ6_bitCount_0f7a4_38 : decode cJ6_bitCount_0f7a4 38 = .ok (.iushr, 1) := by decide +kernel
theorem dJ6_bitCount_0f7a4_39 : decode cJ6_bitCount_0f7a4 39 = .ok (.iadd, 1) := by decide +kernel
theorem dJ6_bitCount_0f7a4_40 : decode cJ6_bitCount_0f7a4 40 = .ok (.istore_n 0, 1) := by decide +kernel
theorem dJ6_bitCount_0f7a4_41 : decode cJ6_bitCount_0f7a4 41 = .ok (.iload_n 0, 1) := by decide +kernel
theorem dJ6_bitCount_0f7a4_42 : decode cJ6_bitCount_0f7a4 42 = .ok (.iload_n 0, 1) := by decide +kernel
theorem dJ6_bitCount_0f7a4_43 : decode cJ6_bitCount_0f7a4 43 = .ok (.bipush 16, 2) := by decide +kernel
theorem dJ6_bitCount_0f7a4_45 : decode cJ6_bitCount_0f7a4 45 = .ok (.iushr, 1) := by decide +kernel
theorem dJ6_bitCount_0f7a4_46 : decode cJ6_bitCount_0f7a4 46 = .ok (.iadd, 1) := by decide +kernel
theorem dJ6_bitCount_0f7a4_47 : decode cJ6_bitCount_0f7a4 47 = .ok (.istore_n 0, 1) := by decide +kernel
theorem dJ6_bitCount_0f7a4_48 : decode cJ6_bitCount_0f7a4 48 = .ok (.iload_n 0, 1) := by decide +kernel
theorem dJ6_bitCount_0f7a4_49 : decode cJ6_bitCount_0f7a4 49 = .ok (.bipush 63, 2) := by decide +kernel
theorem dJ6_bitCount_0f7a4_51 : decode cJ6_bitCount_0f7a4 51 = .ok (.iand, 1) := by decide +kernel
theorem dJ6_bitCount_0f7a4_52 : decode cJ6_bitCount_0f7a4 52 = .ok (.ireturn, 1) := by decide +kernel
theorem dJ9_max_7cf53_0 : decode cJ9_max_7cf53 0 = .ok (.iload_n 0, 1) := by decide +kernel
theorem dJ9_max_7cf53_1 : decode cJ9_max_7cf53 1 = .ok (.iload_n 1, 1) := by decide +kernel
theorem dJ9_max_7cf53_2 : decode cJ9_max_7cf53 2 = .ok (.if_icmp .lt 7, 3) := by decide +kernel
theorem dJ9_max_7cf53_5 : decode cJ9_max_7cf53 5 = .ok (.iload_n 0, 1) := by decide +kernel
theorem dJ9_max_7cf53_6 : decode cJ9_max_7cf53 6 = .ok (.goto 4, 3) := by decide +kernel
theorem dJ9_max_7cf53_9 : decode cJ9_max_7cf53 9 = .ok (.iload_n 1, 1) := by decide +kernel
theorem dJ9_max_7cf53_10 : decode cJ9_max_7cf53 10 = .ok (.ireturn, 1) := by decide +kernel
theorem dJ9_min_7cf53_0 : decode cJ9_min_7cf53 0 = .ok (.iload_n 0, 1) := by decide +kernel
theorem dJ9_min_7cf53_1 : decode cJ9_min_7cf53 1 = .ok (.iload_n 1, 1) := by decide +kernel
theorem dJ9_min_7cf53_2 : decode cJ9_min_7cf53 2 = .ok (.if_icmp .gt 7, 3) := by decide +kernel
theorem dJ9_min_7cf53_5 : decode cJ9_min_7cf53 5 = .ok (.iload_n 0, 1) := by decide +kernel
theorem dJ9_min_7cf53_6 : decode cJ9_min_7cf53 6 = .ok (.goto 4, 3) := by decide +kernel
theorem dJ9_min_7cf53_9 : decode cJ9_min_7cf53 9 = .ok (.iload_n 1, 1) := by decide +kernel
theorem dJ9_min_7cf53_10 : decode cJ9_min_7cf53 10 = .ok (.ireturn, 1) := by decide +kernel
