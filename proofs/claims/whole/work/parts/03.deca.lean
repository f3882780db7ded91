theorem dX0_init_0 : decode cX0_init 0 = .ok (.aload_n 0, 1) := by decide +kernel
theorem dX0_init_1 : decode cX0_init 1 = .ok (.invokespecial 3, 3) := by decide +kernel
theorem dX0_init_4 : decode cX0_init 4 = .ok (.aload_n 0, 1) := by decide +kernel
theorem dX0_init_5 : decode cX0_init 5 = .ok (.sipush 4096, 3) := by decide +kernel
theorem dX0_init_8 : decode cX0_init 8 = .ok (.newarray .int, 2) := by decide +kernel
theorem dX0_init_10 : decode cX0_init 10 = .ok (.putfield 9, 3) := by decide +kernel
theorem dX0_init_13 : decode cX0_init 13 = .ok (.aload_n 0, 1) := by decide +kernel
theorem dX0_init_14 : decode cX0_init 14 = .ok (.bipush 13, 2) := by decide +kernel
theorem dX0_init_16 : decode cX0_init 16 = .ok (.newarray .int, 2) := by decide +kernel
theorem dX0_init_18 : decode cX0_init 18 = .ok (.putfield 15, 3) := by decide +kernel
theorem dX0_init_21 : decode cX0_init 21 = .ok (.return_, 1) := by decide +kernel
theorem dX0_leastFrom_0 : decode cX0_leastFrom 0 = .ok (.aload_n 0, 1) := by decide +kernel
theorem dX0_leastFrom_1 : decode cX0_leastFrom 1 = .ok (.getfield 9, 3) := by decide +kernel
theorem dX0_leastFrom_4 : decode cX0_leastFrom 4 = .ok (.bipush (-2), 2) := by decide +kernel
theorem dX0_leastFrom_6 : decode cX0_leastFrom 6 = .ok (.invokestatic 18, 3) := by decide +kernel
theorem dX0_leastFrom_9 : decode cX0_leastFrom 9 = .ok (.aload_n 0, 1) := by decide +kernel
theorem dX0_leastFrom_10 : decode cX0_leastFrom 10 = .ok (.getfield 15, 3) := by decide +kernel
theorem dX0_leastFrom_13 : decode cX0_leastFrom 13 = .ok (.iconst (-1), 1) := by decide +kernel
theorem dX0_leastFrom_14 : decode cX0_leastFrom 14 = .ok (.invokestatic 18, 3) := by decide +kernel
theorem dX0_leastFrom_17 : decode cX0_leastFrom 17 = .ok (.aload_n 0, 1) := by decide +kernel
theorem dX0_leastFrom_18 : decode cX0_leastFrom 18 = .ok (.iload_n 2, 1) := by decide +kernel
theorem dX0_leastFrom_19 : decode cX0_leastFrom 19 = .ok (.iconst 0, 1) := by decide +kernel
theorem dX0_leastFrom_20 : decode cX0_leastFrom 20 = .ok (.invokevirtual 24, 3) := by decide +kernel
theorem dX0_leastFrom_23 : decode cX0_leastFrom 23 = .ok (.iconst 0, 1) := by decide +kernel
theorem dX0_leastFrom_24 : decode cX0_leastFrom 24 = .ok (.istore_n 3, 1) := by decide +kernel
theorem dX0_leastFrom_25 : decode cX0_leastFrom 25 = .ok (.iload_n 3, 1) := by decide +kernel
theorem dX0_leastFrom_26 : decode cX0_leastFrom 26 = .ok (.aload_n 0, 1) := by decide +kernel
theorem dX0_leastFrom_27 : decode cX0_leastFrom 27 = .ok (.getfield 15, 3) := by decide +kernel
theorem dX0_leastFrom_30 : decode cX0_leastFrom 30 = .ok (.arraylength, 1) := by decide +kernel
theorem dX0_leastFrom_31 : decode cX0_leastFrom 31 = .ok (.if_icmp .ge 53, 3) := by decide +kernel
theorem dX0_leastFrom_34 : decode cX0_leastFrom 34 = .ok (.iconst 0, 1) := by decide +kernel
theorem dX0_leastFrom_35 : decode cX0_leastFrom 35 = .ok (.istore 4, 2) := by decide +kernel
theorem dX0_leastFrom_37 : decode cX0_leastFrom 37 = .ok (.iload 4, 2) := by decide +kernel
theorem dX0_leastFrom_39 : decode cX0_leastFrom 39 = .ok (.sipush 4096, 3) := by decide +kernel
theorem dX0_leastFrom_42 : decode cX0_leastFrom 42 = .ok (.if_icmp .ge 36, 3) := by decide +kernel
theorem dX0_leastFrom_45 : decode cX0_leastFrom 45 = .ok (.aload_n 0, 1) := by decide +kernel
theorem dX0_leastFrom_46 : decode cX0_leastFrom 46 = .ok (.getfield 15, 3) := by decide +kernel
theorem dX0_leastFrom_49 : decode cX0_leastFrom 49 = .ok (.iload_n 3, 1) := by decide +kernel
theorem dX0_leastFrom_50 : decode cX0_leastFrom 50 = .ok (.iaload, 1) := by decide +kernel
theorem dX0_leastFrom_51 : decode cX0_leastFrom 51 = .ok (.iconst (-1), 1) := by decide +kernel
theorem dX0_leastFrom_52 : decode cX0_leastFrom 52 = .ok (.if_icmp .eq 26, 3) := by decide +kernel
theorem dX0_leastFrom_55 : decode cX0_leastFrom 55 = .ok (.aload_n 0, 1) := by decide +kernel
theorem dX0_leastFrom_56 : decode cX0_leastFrom 56 = .ok (.getfield 15, 3) := by decide +kernel
theorem dX0_leastFrom_59 : decode cX0_leastFrom 59 = .ok (.iload_n 3, 1) := by decide +kernel
theorem dX0_leastFrom_60 : decode cX0_leastFrom 60 = .ok (.iaload, 1) := by decide +kernel
theorem dX0_leastFrom_61 : decode cX0_leastFrom 61 = .ok (.ifCond .ne 5, 3) := by decide +kernel
theorem dX0_leastFrom_64 : decode cX0_leastFrom 64 = .ok (.iload_n 3, 1) := by decide +kernel
theorem dX0_leastFrom_65 : decode cX0_leastFrom 65 = .ok (.ireturn, 1) := by decide +kernel
theorem dX0_leastFrom_66 : decode cX0_leastFrom 66 = .ok (.aload_n 0, 1) := by decide +kernel
theorem dX0_leastFrom_67 : decode cX0_leastFrom 67 = .ok (.aload_n 1, 1) := by decide +kernel
theorem dX0_leastFrom_68 : decode cX0_leastFrom 68 = .ok (.iload_n 3, 1) := by decide +kernel
theorem dX0_leastFrom_69 : decode cX0_leastFrom 69 = .ok (.invokevirtual 28, 3) := by decide +kernel
theorem dX0_leastFrom_72 : decode cX0_leastFrom 72 = .ok (.iinc 4 1, 3) := by decide +kernel
theorem dX0_leastFrom_75 : decode cX0_leastFrom 75 = .ok (.goto (-38), 3) := by decide +kernel
theorem dX0_leastFrom_78 : decode cX0_leastFrom 78 = .ok (.iinc 3 1, 3) := by decide +kernel
theorem dX0_leastFrom_81 : decode cX0_leastFrom 81 = .ok (.goto (-56), 3) := by decide +kernel
theorem dX0_leastFrom_84 : decode cX0_leastFrom 84 = .ok (.iconst (-1), 1) := by decide +kernel
theorem dX0_leastFrom_85 : decode cX0_leastFrom 85 = .ok (.ireturn, 1) := by decide +kernel
theorem dX0_leaveHead_0 : decode cX0_leaveHead 0 = .ok (.iload_n 2, 1) := by decide +kernel
theorem dX0_leaveHead_1 : decode cX0_leaveHead 1 = .ok (.ifCond .lt 21, 3) := by decide +kernel
theorem dX0_leaveHead_4 : decode cX0_leaveHead 4 = .ok (.iload_n 2, 1) := by decide +kernel
theorem dX0_leaveHead_5 : decode cX0_leaveHead 5 = .ok (.aload_n 0, 1) := by decide +kernel
theorem dX0_leaveHead_6 : decode cX0_leaveHead 6 = .ok (.getfield 15, 3) := by decide +kernel
theorem dX0_leaveHead_9 : decode cX0_leaveHead 9 = .ok (.arraylength, 1) := by decide +kernel
theorem dX0_leaveHead_10 : decode cX0_leaveHead 10 = .ok (.if_icmp .ge 12, 3) := by decide +kernel
theorem dX0_leaveHead_13 : decode cX0_leaveHead 13 = .ok (.aload_n 0, 1) := by decide +kernel
theorem dX0_leaveHead_14 : decode cX0_leaveHead 14 = .ok (.getfield 15, 3) := by decide +kernel
theorem dX0_leaveHead_17 : decode cX0_leaveHead 17 = .ok (.iload_n 2, 1) := by decide +kernel
theorem dX0_leaveHead_18 : decode cX0_leaveHead 18 = .ok (.iaload, 1) := by decide +kernel
theorem dX0_leaveHead_19 : decode cX0_leaveHead 19 = .ok (.goto 4, 3) := by decide +kernel
theorem dX0_leaveHead_22 : decode cX0_leaveHead 22 = .ok (.iconst (-1), 1) := by decide +kernel
theorem dX0_leaveHead_23 : decode cX0_leaveHead 23 = .ok (.istore_n 3, 1) := by decide +kernel
theorem dX0_leaveHead_24 : decode cX0_leaveHead 24 = .ok (.iload_n 3, 1) := by decide +kernel
theorem dX0_leaveHead_25 : decode cX0_leaveHead 25 = .ok (.ifCond .lt 10, 3) := by decide +kernel
theorem dX0_leaveHead_28 : decode cX0_leaveHead 28 = .ok (.iload_n 3, 1) := by decide +kernel
theorem dX0_leaveHead_29 : decode cX0_leaveHead 29 = .ok (.sipush 4096, 3) := by decide +kernel
theorem dX0_leaveHead_32 : decode cX0_leaveHead 32 = .ok (.if_icmp .lt 4, 3) := by decide +kernel
theorem dX0_leaveHead_35 : decode cX0_leaveHead 35 = .ok (.return_, 1) := by decide +kernel
theorem dX0_leaveHead_36 : decode cX0_leaveHead 36 = .ok (.aload_n 0, 1) := by decide +kernel
theorem dX0_leaveHead_37 : decode cX0_leaveHead 37 = .ok (.getfield 15, 3) := by decide +kernel
theorem dX0_leaveHead_40 : decode cX0_leaveHead 40 = .ok (.iload_n 2, 1) := by decide +kernel
theorem dX0_leaveHead_41 : decode cX0_leaveHead 41 = .ok (.aload_n 0, 1) := by decide +kernel
theorem dX0_leaveHead_42 : decode cX0_leaveHead 42 = .ok (.getfield 9, 3) := by decide +kernel
theorem dX0_leaveHead_45 : decode cX0_leaveHead 45 = .ok (.iload_n 3, 1) := by decide +kernel
theorem dX0_leaveHead_46 : decode cX0_leaveHead 46 = .ok (.iaload, 1) := by decide +kernel
theorem dX0_leaveHead_47 : decode cX0_leaveHead 47 = .ok (.iastore, 1) := by decide +kernel
theorem dX0_leaveHead_48 : decode cX0_leaveHead 48 = .ok (.getstatic 32, 3) := by decide +kernel
theorem dX0_leaveHead_51 : decode cX0_leaveHead 51 = .ok (.astore 4, 2) := by decide +kernel
theorem dX0_leaveHead_53 : decode cX0_leaveHead 53 = .ok (.aload 4, 2) := by decide +kernel
theorem dX0_leaveHead_55 : decode cX0_leaveHead 55 = .ok (.arraylength, 1) := by decide +kernel
theorem dX0_leaveHead_56 : decode cX0_leaveHead 56 = .ok (.istore 5, 2) := by decide +kernel
theorem dX0_leaveHead_58 : decode cX0_leaveHead 58 = .ok (.iconst 0, 1) := by decide +kernel
theorem dX0_leaveHead_59 : decode cX0_leaveHead 59 = .ok (.istore 6, 2) := by decide +kernel
theorem dX0_leaveHead_61 : decode cX0_leaveHead 61 = .ok (.iload 6, 2) := by decide +kernel
theorem dX0_leaveHead_63 : decode cX0_leaveHead 63 = .ok (.iload 5, 2) := by decide +kernel
theorem dX0_leaveHead_65 : decode cX0_leaveHead 65 = .ok (.if_icmp .ge 58, 3) := by decide +kernel
theorem dX0_leaveHead_68 : decode cX0_leaveHead 68 = .ok (.aload 4, 2) := by decide +kernel
theorem dX0_leaveHead_70 : decode cX0_leaveHead 70 = .ok (.iload 6, 2) := by decide +kernel
theorem dX0_leaveHead_72 : decode cX0_leaveHead 72 = .ok (.iaload, 1) := by decide +kernel
theorem dX0_leaveHead_73 : decode cX0_leaveHead 73 = .ok (.istore 7, 2) := by decide +kernel
theorem dX0_leaveHead_75 : decode cX0_leaveHead 75 = .ok (.aload_n 1, 1) := by decide +kernel
theorem dX0_leaveHead_76 : decode cX0_leaveHead 76 = .ok (.iload_n 3, 1) := by decide +kernel
theorem dX0_leaveHead_77 : decode cX0_leaveHead 77 = .ok (.iload 7, 2) := by decide +kernel
theorem dX0_leaveHead_79 : decode cX0_leaveHead 79 = .ok (.invokevirtual 35, 3) := by decide +kernel
theorem dX0_leaveHead_82 : decode cX0_leaveHead 82 = .ok (.istore 8, 2) := by decide +kernel
theorem dX0_leaveHead_84 : decode cX0_leaveHead 84 = .ok (.iload 8, 2) := by decide +kernel
theorem dX0_leaveHead_86 : decode cX0_leaveHead 86 = .ok (.iconst (-1), 1) := by decide +kernel
theorem dX0_leaveHead_87 : decode cX0_leaveHead 87 = .ok (.if_icmp .eq 30, 3) := by decide +kernel
theorem dX0_leaveHead_90 : decode cX0_leaveHead 90 = .ok (.iload 8, 2) := by decide +kernel
theorem dX0_leaveHead_92 : decode cX0_leaveHead 92 = .ok (.invokestatic 41, 3) := by decide +kernel
theorem dX0_leaveHead_95 : decode cX0_leaveHead 95 = .ok (.aload_n 1, 1) := by decide +kernel
theorem dX0_leaveHead_96 : decode cX0_leaveHead 96 = .ok (.getfield 45, 3) := by decide +kernel
theorem dX0_leaveHead_99 : decode cX0_leaveHead 99 = .ok (.if_icmp .gt 18, 3) := by decide +kernel
theorem dX0_leaveHead_102 : decode cX0_leaveHead 102 = .ok (.aload_n 0, 1) := by decide +kernel
theorem dX0_leaveHead_103 : decode cX0_leaveHead 103 = .ok (.iload 8, 2) := by decide +kernel
theorem dX0_leaveHead_105 : decode cX0_leaveHead 105 = .ok (.iload_n 2, 1) := by decide +kernel
theorem dX0_leaveHead_106 : decode cX0_leaveHead 106 = .ok (.iload 8, 2) := by decide +kernel
theorem dX0_leaveHead_108 : decode cX0_leaveHead 108 = .ok (.invokestatic 49, 3) := by decide +kernel
theorem dX0_leaveHead_111 : decode cX0_leaveHead 111 = .ok (.invokestatic 52, 3) := by decide +kernel
theorem dX0_leaveHead_114 : decode cX0_leaveHead 114 = .ok (.invokevirtual 24, 3) := by decide +kernel
theorem dX0_leaveHead_117 : decode cX0_leaveHead 117 = .ok (.iinc 6 1, 3) := by decide +kernel
theorem dX0_leaveHead_120 : decode cX0_leaveHead 120 = .ok (.goto (-59), 3) := by decide +kernel
theorem dX0_leaveHead_123 : decode cX0_leaveHead 123 = .ok (.return_, 1) := by decide +kernel
theorem dX0_put_0 : decode cX0_put 0 = .ok (.iload_n 1, 1) := by decide +kernel
theorem dX0_put_1 : decode cX0_put 1 = .ok (.ifCond .lt 23, 3) := by decide +kernel
theorem dX0_put_4 : decode cX0_put 4 = .ok (.iload_n 1, 1) := by decide +kernel
theorem dX0_put_5 : decode cX0_put 5 = .ok (.sipush 4096, 3) := by decide +kernel
theorem dX0_put_8 : decode cX0_put 8 = .ok (.if_icmp .ge 16, 3) := by decide +kernel
theorem dX0_put_11 : decode cX0_put 11 = .ok (.iload_n 2, 1) := by decide +kernel
theorem dX0_put_12 : decode cX0_put 12 = .ok (.ifCond .lt 12, 3) := by decide +kernel
theorem dX0_put_15 : decode cX0_put 15 = .ok (.iload_n 2, 1) := by decide +kernel
theorem dX0_put_16 : decode cX0_put 16 = .ok (.aload_n 0, 1) := by decide +kernel
theorem dX0_put_17 : decode cX0_put 17 = .ok (.getfield 15, 3) := by decide +kernel
theorem dX0_put_20 : decode cX0_put 20 = .ok (.arraylength, 1) := by decide +kernel
theorem dX0_put_21 : decode cX0_put 21 = .ok (.if_icmp .lt 4, 3) := by decide +kernel
theorem dX0_put_24 : decode cX0_put 24 = .ok (.return_, 1) := by decide +kernel
theorem dX0_put_25 : decode cX0_put 25 = .ok (.aload_n 0, 1) := by decide +kernel
theorem dX0_put_26 : decode cX0_put 26 = .ok (.getfield 9, 3) := by decide +kernel
theorem dX0_put_29 : decode cX0_put 29 = .ok (.iload_n 1, 1) := by decide +kernel
theorem dX0_put_30 : decode cX0_put 30 = .ok (.iaload, 1) := by decide +kernel
theorem dX0_put_31 : decode cX0_put 31 = .ok (.bipush (-2), 2) := by decide +kernel
theorem dX0_put_33 : decode cX0_put 33 = .ok (.if_icmp .ne 22, 3) := by decide +kernel
theorem dX0_put_36 : decode cX0_put 36 = .ok (.aload_n 0, 1) := by decide +kernel
theorem dX0_put_37 : decode cX0_put 37 = .ok (.getfield 9, 3) := by decide +kernel
theorem dX0_put_40 : decode cX0_put 40 = .ok (.iload_n 1, 1) := by decide +kernel
theorem dX0_put_41 : decode cX0_put 41 = .ok (.aload_n 0, 1) := by decide +kernel
theorem dX0_put_42 : decode cX0_put 42 = .ok (.getfield 15, 3) := by decide +kernel
theorem dX0_put_45 : decode cX0_put 45 = .ok (.iload_n 2, 1) := by decide +kernel
theorem dX0_put_46 : decode cX0_put 46 = .ok (.iaload, 1) := by decide +kernel
theorem dX0_put_47 : decode cX0_put 47 = .ok (.iastore, 1) := by decide +kernel
theorem dX0_put_48 : decode cX0_put 48 = .ok (.aload_n 0, 1) := by decide +kernel
theorem dX0_put_49 : decode cX0_put 49 = .ok (.getfield 15, 3) := by decide +kernel
theorem dX0_put_52 : decode cX0_put 52 = .ok (.iload_n 2, 1) := by decide +kernel
theorem dX0_put_53 : decode cX0_put 53 = .ok (.iload_n 1, 1) := by decide +kernel
theorem dX0_put_54 : decode cX0_put 54 = .ok (.iastore, 1) := by decide +kernel
theorem dX0_put_55 : decode cX0_put 55 = .ok (.return_, 1) := by decide +kernel
theorem dX1_init_0 : decode cX1_init 0 = .ok (.aload_n 0, 1) := by decide +kernel
theorem dX1_init_1 : decode cX1_init 1 = .ok (.invokespecial 3, 3) := by decide +kernel
theorem dX1_init_4 : decode cX1_init 4 = .ok (.aload_n 0, 1) := by decide +kernel
theorem dX1_init_5 : decode cX1_init 5 = .ok (.iconst 0, 1) := by decide +kernel
theorem dX1_init_6 : decode cX1_init 6 = .ok (.putfield 9, 3) := by decide +kernel
theorem dX1_init_9 : decode cX1_init 9 = .ok (.aload_n 0, 1) := by decide +kernel
theorem dX1_init_10 : decode cX1_init 10 = .ok (.iconst 0, 1) := by decide +kernel
theorem dX1_init_11 : decode cX1_init 11 = .ok (.putfield 15, 3) := by decide +kernel
theorem dX1_init_14 : decode cX1_init 14 = .ok (.aload_n 0, 1) := by decide +kernel
theorem dX1_init_15 : decode cX1_init 15 = .ok (.iconst (-1), 1) := by decide +kernel
theorem dX1_init_16 : decode cX1_init 16 = .ok (.putfield 18, 3) := by decide +kernel
theorem dX1_init_19 : decode cX1_init 19 = .ok (.return_, 1) := by decide +kernel
theorem dX1_tellOf_0 : decode cX1_tellOf 0 = .ok (.aload_n 0, 1) := by decide +kernel
theorem dX1_tellOf_1 : decode cX1_tellOf 1 = .ok (.aload_n 2, 1) := by decide +kernel
theorem dX1_tellOf_2 : decode cX1_tellOf 2 = .ok (.getfield 21, 3) := by decide +kernel
theorem dX1_tellOf_5 : decode cX1_tellOf 5 = .ok (.ifCond .ne 7, 3) := by decide +kernel
theorem dX1_tellOf_8 : decode cX1_tellOf 8 = .ok (.iconst 1, 1) := by decide +kernel
theorem dX1_tellOf_9 : decode cX1_tellOf 9 = .ok (.goto 4, 3) := by decide +kernel
theorem dX1_tellOf_12 : decode cX1_tellOf 12 = .ok (.iconst 0, 1) := by decide +kernel
theorem dX1_tellOf_13 : decode cX1_tellOf 13 = .ok (.putfield 9, 3) := by decide +kernel
theorem dX1_tellOf_16 : decode cX1_tellOf 16 = .ok (.aload_n 0, 1) := by decide +kernel
theorem dX1_tellOf_17 : decode cX1_tellOf 17 = .ok (.iconst 0, 1) := by decide +kernel
theorem dX1_tellOf_18 : decode cX1_tellOf 18 = .ok (.putfield 15, 3) := by decide +kernel
theorem dX1_tellOf_21 : decode cX1_tellOf 21 = .ok (.aload_n 0, 1) := by decide +kernel
theorem dX1_tellOf_22 : decode cX1_tellOf 22 = .ok (.iconst (-1), 1) := by decide +kernel
theorem dX1_tellOf_23 : decode cX1_tellOf 23 = .ok (.putfield 18, 3) := by decide +kernel
theorem dX1_tellOf_26 : decode cX1_tellOf 26 = .ok (.aload_n 2, 1) := by decide +kernel
theorem dX1_tellOf_27 : decode cX1_tellOf 27 = .ok (.getfield 21, 3) := by decide +kernel
theorem dX1_tellOf_30 : decode cX1_tellOf 30 = .ok (.ifCond .ne 4, 3) := by decide +kernel
theorem dX1_tellOf_33 : decode cX1_tellOf 33 = .ok (.return_, 1) := by decide +kernel
theorem dX1_tellOf_34 : decode cX1_tellOf 34 = .ok (.getstatic 26, 3) := by decide +kernel
theorem dX1_tellOf_37 : decode cX1_tellOf 37 = .ok (.astore 4, 2) := by decide +kernel
theorem dX1_tellOf_39 : decode cX1_tellOf 39 = .ok (.aload 4, 2) := by decide +kernel
theorem dX1_tellOf_41 : decode cX1_tellOf 41 = .ok (.arraylength, 1) := by decide +kernel
theorem dX1_tellOf_42 : decode cX1_tellOf 42 = .ok (.istore 5, 2) := by decide +kernel
theorem dX1_tellOf_44 : decode cX1_tellOf 44 = .ok (.iconst 0, 1) := by decide +kernel
theorem dX1_tellOf_45 : decode cX1_tellOf 45 = .ok (.istore 6, 2) := by decide +kernel
theorem dX1_tellOf_47 : decode cX1_tellOf 47 = .ok (.iload 6, 2) := by decide +kernel
theorem dX1_tellOf_49 : decode cX1_tellOf 49 = .ok (.iload 5, 2) := by decide +kernel
theorem dX1_tellOf_51 : decode cX1_tellOf 51 = .ok (.if_icmp .ge 83, 3) := by decide +kernel
theorem dX1_tellOf_54 : decode cX1_tellOf 54 = .ok (.aload 4, 2) := by decide +kernel
theorem dX1_tellOf_56 : decode cX1_tellOf 56 = .ok (.iload 6, 2) := by decide +kernel
theorem dX1_tellOf_58 : decode cX1_tellOf 58 = .ok (.iaload, 1) := by decide +kernel
theorem dX1_tellOf_59 : decode cX1_tellOf 59 = .ok (.istore 7, 2) := by decide +kernel
theorem dX1_tellOf_61 : decode cX1_tellOf 61 = .ok (.aload_n 1, 1) := by decide +kernel
theorem dX1_tellOf_62 : decode cX1_tellOf 62 = .ok (.aload_n 2, 1) := by decide +kernel
theorem dX1_tellOf_63 : decode cX1_tellOf 63 = .ok (.iload_n 3, 1) := by decide +kernel
theorem dX1_tellOf_64 : decode cX1_tellOf 64 = .ok (.aload_n 1, 1) := by decide +kernel
theorem dX1_tellOf_65 : decode cX1_tellOf 65 = .ok (.aload_n 2, 1) := by decide +kernel
theorem dX1_tellOf_66 : decode cX1_tellOf 66 = .ok (.getfield 30, 3) := by decide +kernel
theorem dX1_tellOf_69 : decode cX1_tellOf 69 = .ok (.iload 7, 2) := by decide +kernel
theorem dX1_tellOf_71 : decode cX1_tellOf 71 = .ok (.iload_n 3, 1) := by decide +kernel
theorem dX1_tellOf_72 : decode cX1_tellOf 72 = .ok (.invokevirtual 33, 3) := by decide +kernel
theorem dX1_tellOf_75 : decode cX1_tellOf 75 = .ok (.iconst 0, 1) := by decide +kernel
theorem dX1_tellOf_76 : decode cX1_tellOf 76 = .ok (.invokestatic 39, 3) := by decide +kernel
theorem dX1_tellOf_79 : decode cX1_tellOf 79 = .ok (.istore 8, 2) := by decide +kernel
theorem dX1_tellOf_81 : decode cX1_tellOf 81 = .ok (.iload 8, 2) := by decide +kernel
theorem dX1_tellOf_83 : decode cX1_tellOf 83 = .ok (.ifCond .le 45, 3) := by decide +kernel
theorem dX1_tellOf_86 : decode cX1_tellOf 86 = .ok (.aload_n 0, 1) := by decide +kernel
theorem dX1_tellOf_87 : decode cX1_tellOf 87 = .ok (.dup, 1) := by decide +kernel
theorem dX1_tellOf_88 : decode cX1_tellOf 88 = .ok (.getfield 9, 3) := by decide +kernel
theorem dX1_tellOf_91 : decode cX1_tellOf 91 = .ok (.iload 8, 2) := by decide +kernel
theorem dX1_tellOf_93 : decode cX1_tellOf 93 = .ok (.iadd, 1) := by decide +kernel
theorem dX1_tellOf_94 : decode cX1_tellOf 94 = .ok (.putfield 9, 3) := by decide +kernel
theorem dX1_tellOf_97 : decode cX1_tellOf 97 = .ok (.aload_n 0, 1) := by decide +kernel
theorem dX1_tellOf_98 : decode cX1_tellOf 98 = .ok (.dup, 1) := by decide +kernel
theorem dX1_tellOf_99 : decode cX1_tellOf 99 = .ok (.getfield 15, 3) := by decide +kernel
theorem dX1_tellOf_102 : decode cX1_tellOf 102 = .ok (.iconst 1, 1) := by decide +kernel
theorem dX1_tellOf_103 : decode cX1_tellOf 103 = .ok (.iadd, 1) := by decide +kernel
theorem dX1_tellOf_104 : decode cX1_tellOf 104 = .ok (.putfield 15, 3) := by decide +kernel
theorem dX1_tellOf_107 : decode cX1_tellOf 107 = .ok (.aload_n 0, 1) := by decide +kernel
theorem dX1_tellOf_108 : decode cX1_tellOf 108 = .ok (.aload_n 0, 1) := by decide +kernel
theorem dX1_tellOf_109 : decode cX1_tellOf 109 = .ok (.getfield 18, 3) := by decide +kernel
theorem dX1_tellOf_112 : decode cX1_tellOf 112 = .ok (.iconst (-1), 1) := by decide +kernel
theorem dX1_tellOf_113 : decode cX1_tellOf 113 = .ok (.if_icmp .ne 8, 3) := by decide +kernel
theorem dX1_tellOf_116 : decode cX1_tellOf 116 = .ok (.iload 7, 2) := by decide +kernel
theorem dX1_tellOf_118 : decode cX1_tellOf 118 = .ok (.goto 7, 3) := by decide +kernel
theorem dX1_tellOf_121 : decode cX1_tellOf 121 = .ok (.aload_n 0, 1) := by decide +kernel
theorem dX1_tellOf_122 : decode cX1_tellOf 122 = .ok (.getfield 18, 3) := by decide +kernel
theorem dX1_tellOf_125 : decode cX1_tellOf 125 = .ok (.putfield 18, 3) := by decide +kernel
theorem dX1_tellOf_128 : decode cX1_tellOf 128 = .ok (.iinc 6 1, 3) := by decide +kernel
theorem dX1_tellOf_131 : decode cX1_tellOf 131 = .ok (.goto (-84), 3) := by decide +kernel
theorem dX1_tellOf_134 : decode cX1_tellOf 134 = .ok (.return_, 1) := by decide +kernel
theorem dX1_rowsBehind_0 : decode cX1_rowsBehind 0 = .ok (.iload_n 3, 1) := by decide +kernel
theorem dX1_rowsBehind_1 : decode cX1_rowsBehind 1 = .ok (.iconst (-1), 1) := by decide +kernel
theorem dX1_rowsBehind_2 : decode cX1_rowsBehind 2 = .ok (.if_icmp .eq 27, 3) := by decide +kernel
theorem dX1_rowsBehind_5 : decode cX1_rowsBehind 5 = .ok (.iload 4, 2) := by decide +kernel
theorem dX1_rowsBehind_7 : decode cX1_rowsBehind 7 = .ok (.ifCond .lt 22, 3) := by decide +kernel
theorem dX1_rowsBehind_10 : decode cX1_rowsBehind 10 = .ok (.iload 4, 2) := by decide +kernel
theorem dX1_rowsBehind_12 : decode cX1_rowsBehind 12 = .ok (.aload_n 1, 1) := by decide +kernel
theorem dX1_rowsBehind_13 : decode cX1_rowsBehind 13 = .ok (.getfield 21, 3) := by decide +kernel
theorem dX1_rowsBehind_16 : decode cX1_rowsBehind 16 = .ok (.if_icmp .ge 13, 3) := by decide +kernel
theorem dX1_rowsBehind_19 : decode cX1_rowsBehind 19 = .ok (.iload 4, 2) := by decide +kernel
theorem dX1_rowsBehind_21 : decode cX1_rowsBehind 21 = .ok (.aload_n 1, 1) := by decide +kernel
theorem dX1_rowsBehind_22 : decode cX1_rowsBehind 22 = .ok (.getfield 43, 3) := by decide +kernel
theorem dX1_rowsBehind_25 : decode cX1_rowsBehind 25 = .ok (.arraylength, 1) := by decide +kernel
theorem dX1_rowsBehind_26 : decode cX1_rowsBehind 26 = .ok (.if_icmp .lt 5, 3) := by decide +kernel
theorem dX1_rowsBehind_29 : decode cX1_rowsBehind 29 = .ok (.iconst 0, 1) := by decide +kernel
theorem dX1_rowsBehind_30 : decode cX1_rowsBehind 30 = .ok (.ireturn, 1) := by decide +kernel
theorem dX1_rowsBehind_31 : decode cX1_rowsBehind 31 = .ok (.iload_n 3, 1) := by decide +kernel
theorem dX1_rowsBehind_32 : decode cX1_rowsBehind 32 = .ok (.invokestatic 46, 3) := by decide +kernel
theorem dX1_rowsBehind_35 : decode cX1_rowsBehind 35 = .ok (.aload_n 1, 1) := by decide +kernel
theorem dX1_rowsBehind_36 : decode cX1_rowsBehind 36 = .ok (.getfield 43, 3) := by decide +kernel
theorem dX1_rowsBehind_39 : decode cX1_rowsBehind 39 = .ok (.iload 4, 2) := by decide +kernel
theorem dX1_rowsBehind_41 : decode cX1_rowsBehind 41 = .ok (.iaload, 1) := by decide +kernel
theorem dX1_rowsBehind_42 : decode cX1_rowsBehind 42 = .ok (.if_icmp .eq 5, 3) := by decide +kernel
theorem dX1_rowsBehind_45 : decode cX1_rowsBehind 45 = .ok (.iconst 0, 1) := by decide +kernel
theorem dX1_rowsBehind_46 : decode cX1_rowsBehind 46 = .ok (.ireturn, 1) := by decide +kernel
theorem dX1_rowsBehind_47 : decode cX1_rowsBehind 47 = .ok (.iload 4, 2) := by decide +kernel
theorem dX1_rowsBehind_49 : decode cX1_rowsBehind 49 = .ok (.iconst 1, 1) := by decide +kernel
theorem dX1_rowsBehind_50 : decode cX1_rowsBehind 50 = .ok (.iadd, 1) := by decide +kernel
theorem dX1_rowsBehind_51 : decode cX1_rowsBehind 51 = .ok (.aload_n 1, 1) := by decide +kernel
theorem dX1_rowsBehind_52 : decode cX1_rowsBehind 52 = .ok (.getfield 21, 3) := by decide +kernel
theorem dX1_rowsBehind_55 : decode cX1_rowsBehind 55 = .ok (.if_icmp .ne 5, 3) := by decide +kernel
theorem dX1_rowsBehind_58 : decode cX1_rowsBehind 58 = .ok (.iconst 1, 1) := by decide +kernel
theorem dX1_rowsBehind_59 : decode cX1_rowsBehind 59 = .ok (.ireturn, 1) := by decide +kernel
theorem dX1_rowsBehind_60 : decode cX1_rowsBehind 60 = .ok (.iconst 0, 1) := by decide +kernel
theorem dX1_rowsBehind_61 : decode cX1_rowsBehind 61 = .ok (.istore 5, 2) := by decide +kernel
theorem dX1_rowsBehind_63 : decode cX1_rowsBehind 63 = .ok (.getstatic 26, 3) := by decide +kernel
theorem dX1_rowsBehind_66 : decode cX1_rowsBehind 66 = .ok (.astore 6, 2) := by decide +kernel
theorem dX1_rowsBehind_68 : decode cX1_rowsBehind 68 = .ok (.aload 6, 2) := by decide +kernel
theorem dX1_rowsBehind_70 : decode cX1_rowsBehind 70 = .ok (.arraylength, 1) := by decide +kernel
theorem dX1_rowsBehind_71 : decode cX1_rowsBehind 71 = .ok (.istore 7, 2) := by decide +kernel
theorem dX1_rowsBehind_73 : decode cX1_rowsBehind 73 = .ok (.iconst 0, 1) := by decide +kernel
theorem dX1_rowsBehind_74 : decode cX1_rowsBehind 74 = .ok (.istore 8, 2) := by decide +kernel
theorem dX1_rowsBehind_76 : decode cX1_rowsBehind 76 = .ok (.iload 8, 2) := by decide +kernel
theorem dX1_rowsBehind_78 : decode cX1_rowsBehind 78 = .ok (.iload 7, 2) := by decide +kernel
theorem dX1_rowsBehind_80 : decode cX1_rowsBehind 80 = .ok (.if_icmp .ge 39, 3) := by decide +kernel
theorem dX1_rowsBehind_83 : decode cX1_rowsBehind 83 = .ok (.aload 6, 2) := by decide +kernel
theorem dX1_rowsBehind_85 : decode cX1_rowsBehind 85 = .ok (.iload 8, 2) := by decide +kernel
theorem dX1_rowsBehind_87 : decode cX1_rowsBehind 87 = .ok (.iaload, 1) := by decide +kernel
theorem dX1_rowsBehind_88 : decode cX1_rowsBehind 88 = .ok (.istore 9, 2) := by decide +kernel
theorem dX1_rowsBehind_90 : decode cX1_rowsBehind 90 = .ok (.iload 5, 2) := by decide +kernel
theorem dX1_rowsBehind_92 : decode cX1_rowsBehind 92 = .ok (.aload_n 0, 1) := by decide +kernel
theorem dX1_rowsBehind_93 : decode cX1_rowsBehind 93 = .ok (.aload_n 1, 1) := by decide +kernel
theorem dX1_rowsBehind_94 : decode cX1_rowsBehind 94 = .ok (.iload_n 2, 1) := by decide +kernel
theorem dX1_rowsBehind_95 : decode cX1_rowsBehind 95 = .ok (.aload_n 0, 1) := by decide +kernel
theorem dX1_rowsBehind_96 : decode cX1_rowsBehind 96 = .ok (.iload_n 3, 1) := by decide +kernel
theorem dX1_rowsBehind_97 : decode cX1_rowsBehind 97 = .ok (.iload 9, 2) := by decide +kernel
theorem dX1_rowsBehind_99 : decode cX1_rowsBehind 99 = .ok (.iload_n 2, 1) := by decide +kernel
theorem dX1_rowsBehind_100 : decode cX1_rowsBehind 100 = .ok (.invokevirtual 33, 3) := by decide +kernel
theorem dX1_rowsBehind_103 : decode cX1_rowsBehind 103 = .ok (.iload 4, 2) := by decide +kernel
theorem dX1_rowsBehind_105 : decode cX1_rowsBehind 105 = .ok (.iconst 1, 1) := by decide +kernel
theorem dX1_rowsBehind_106 : decode cX1_rowsBehind 106 = .ok (.iadd, 1) := by decide +kernel
theorem dX1_rowsBehind_107 : decode cX1_rowsBehind 107 = .ok (.invokestatic 39, 3) := by decide +kernel
theorem dX1_rowsBehind_110 : decode cX1_rowsBehind 110 = .ok (.iadd, 1) := by decide +kernel
theorem dX1_rowsBehind_111 : decode cX1_rowsBehind 111 = .ok (.istore 5, 2) := by decide +kernel
theorem dX1_rowsBehind_113 : decode cX1_rowsBehind 113 = .ok (.iinc 8 1, 3) := by decide +kernel
theorem dX1_rowsBehind_116 : decode cX1_rowsBehind 116 = .ok (.goto (-40), 3) := by decide +kernel
theorem dX1_rowsBehind_119 : decode cX1_rowsBehind 119 = .ok (.iload 5, 2) := by decide +kernel
theorem dX1_rowsBehind_121 : decode cX1_rowsBehind 121 = .ok (.ireturn, 1) := by decide +kernel
theorem dX2_init_0 : decode cX2_init 0 = .ok (.aload_n 0, 1) := by decide +kernel
theorem dX2_init_1 : decode cX2_init 1 = .ok (.invokespecial 3, 3) := by decide +kernel
theorem dX2_init_4 : decode cX2_init 4 = .ok (.aload_n 0, 1) := by decide +kernel
theorem dX2_init_5 : decode cX2_init 5 = .ok (.iconst 3, 1) := by decide +kernel
theorem dX2_init_6 : decode cX2_init 6 = .ok (.newarray .int, 2) := by decide +kernel
theorem dX2_init_8 : decode cX2_init 8 = .ok (.putfield 9, 3) := by decide +kernel
theorem dX2_init_11 : decode cX2_init 11 = .ok (.aload_n 0, 1) := by decide +kernel
theorem dX2_init_12 : decode cX2_init 12 = .ok (.iconst 3, 1) := by decide +kernel
theorem dX2_init_13 : decode cX2_init 13 = .ok (.newarray .int, 2) := by decide +kernel
theorem dX2_init_15 : decode cX2_init 15 = .ok (.putfield 15, 3) := by decide +kernel
theorem dX2_init_18 : decode cX2_init 18 = .ok (.aload_n 0, 1) := by decide +kernel
theorem dX2_init_19 : decode cX2_init 19 = .ok (.iconst 3, 1) := by decide +kernel
theorem dX2_init_20 : decode cX2_init 20 = .ok (.newarray .int, 2) := by decide +kernel
theorem dX2_init_22 : decode cX2_init 22 = .ok (.putfield 18, 3) := by decide +kernel
theorem dX2_init_25 : decode cX2_init 25 = .ok (.aload_n 0, 1) := by decide +kernel
theorem dX2_init_26 : decode cX2_init 26 = .ok (.iconst 0, 1) := by decide +kernel
theorem dX2_init_27 : decode cX2_init 27 = .ok (.putfield 21, 3) := by decide +kernel
theorem dX2_init_30 : decode cX2_init 30 = .ok (.aload_n 0, 1) := by decide +kernel
theorem dX2_init_31 : decode cX2_init 31 = .ok (.iconst 0, 1) := by decide +kernel
theorem dX2_init_32 : decode cX2_init 32 = .ok (.putfield 25, 3) := by decide +kernel
theorem dX2_init_35 : decode cX2_init 35 = .ok (.return_, 1) := by decide +kernel
theorem dX2_setKind_0 : decode cX2_setKind 0 = .ok (.iload_n 1, 1) := by decide +kernel
theorem dX2_setKind_1 : decode cX2_setKind 1 = .ok (.ifCond .lt 12, 3) := by decide +kernel
theorem dX2_setKind_4 : decode cX2_setKind 4 = .ok (.iload_n 1, 1) := by decide +kernel
theorem dX2_setKind_5 : decode cX2_setKind 5 = .ok (.aload_n 0, 1) := by decide +kernel
theorem dX2_setKind_6 : decode cX2_setKind 6 = .ok (.getfield 9, 3) := by decide +kernel
theorem dX2_setKind_9 : decode cX2_setKind 9 = .ok (.arraylength, 1) := by decide +kernel
theorem dX2_setKind_10 : decode cX2_setKind 10 = .ok (.if_icmp .lt 4, 3) := by decide +kernel
theorem dX2_setKind_13 : decode cX2_setKind 13 = .ok (.return_, 1) := by decide +kernel
theorem dX2_setKind_14 : decode cX2_setKind 14 = .ok (.aload_n 0, 1) := by decide +kernel
theorem dX2_setKind_15 : decode cX2_setKind 15 = .ok (.getfield 9, 3) := by decide +kernel
theorem dX2_setKind_18 : decode cX2_setKind 18 = .ok (.iload_n 1, 1) := by decide +kernel
theorem dX2_setKind_19 : decode cX2_setKind 19 = .ok (.iload_n 2, 1) := by decide +kernel
theorem dX2_setKind_20 : decode cX2_setKind 20 = .ok (.iastore, 1) := by decide +kernel
theorem dX2_setKind_21 : decode cX2_setKind 21 = .ok (.aload_n 0, 1) := by decide +kernel
theorem dX2_setKind_22 : decode cX2_setKind 22 = .ok (.getfield 15, 3) := by decide +kernel
theorem dX2_setKind_25 : decode cX2_setKind 25 = .ok (.iload_n 1, 1) := by decide +kernel
theorem dX2_setKind_26 : decode cX2_setKind 26 = .ok (.getstatic 28, 3) := by decide +kernel
theorem dX2_setKind_29 : decode cX2_setKind 29 = .ok (.iload_n 2, 1) := by decide +kernel
theorem dX2_setKind_30 : decode cX2_setKind 30 = .ok (.invokestatic 31, 3) := by decide +kernel
theorem dX2_setKind_33 : decode cX2_setKind 33 = .ok (.iastore, 1) := by decide +kernel
theorem dX2_setKind_34 : decode cX2_setKind 34 = .ok (.aload_n 0, 1) := by decide +kernel
theorem dX2_setKind_35 : decode cX2_setKind 35 = .ok (.getfield 18, 3) := by decide +kernel
theorem dX2_setKind_38 : decode cX2_setKind 38 = .ok (.iload_n 1, 1) := by decide +kernel
theorem dX2_setKind_39 : decode cX2_setKind 39 = .ok (.getstatic 35, 3) := by decide +kernel
theorem dX2_setKind_42 : decode cX2_setKind 42 = .ok (.iload_n 2, 1) := by decide +kernel
theorem dX2_setKind_43 : decode cX2_setKind 43 = .ok (.invokestatic 31, 3) := by decide +kernel
theorem dX2_setKind_46 : decode cX2_setKind 46 = .ok (.iastore, 1) := by decide +kernel
theorem dX2_setKind_47 : decode cX2_setKind 47 = .ok (.return_, 1) := by decide +kernel
theorem dX2_bears_0 : decode cX2_bears 0 = .ok (.iload_n 1, 1) := by decide +kernel
theorem dX2_bears_1 : decode cX2_bears 1 = .ok (.invokestatic 38, 3) := by decide +kernel
theorem dX2_bears_4 : decode cX2_bears 4 = .ok (.iload_n 2, 1) := by decide +kernel
theorem dX2_bears_5 : decode cX2_bears 5 = .ok (.if_icmp .gt 18, 3) := by decide +kernel
theorem dX2_bears_8 : decode cX2_bears 8 = .ok (.iload_n 1, 1) := by decide +kernel
theorem dX2_bears_9 : decode cX2_bears 9 = .ok (.invokestatic 42, 3) := by decide +kernel
theorem dX2_bears_12 : decode cX2_bears 12 = .ok (.aload_n 0, 1) := by decide +kernel
theorem dX2_bears_13 : decode cX2_bears 13 = .ok (.getfield 25, 3) := by decide +kernel
theorem dX2_bears_16 : decode cX2_bears 16 = .ok (.if_icmp .gt 7, 3) := by decide +kernel
theorem dX2_bears_19 : decode cX2_bears 19 = .ok (.iconst 1, 1) := by decide +kernel
theorem dX2_bears_20 : decode cX2_bears 20 = .ok (.goto 4, 3) := by decide +kernel
theorem dX2_bears_23 : decode cX2_bears 23 = .ok (.iconst 0, 1) := by decide +kernel
theorem dX2_bears_24 : decode cX2_bears 24 = .ok (.ireturn, 1) := by decide +kernel
theorem dX2_minutesOf_0 : decode cX2_minutesOf 0 = .ok (.iload_n 1, 1) := by decide +kernel
theorem dX2_minutesOf_1 : decode cX2_minutesOf 1 = .ok (.bipush 6, 2) := by decide +kernel
theorem dX2_minutesOf_3 : decode cX2_minutesOf 3 = .ok (.if_icmp .ge 10, 3) := by decide +kernel
theorem dX2_minutesOf_6 : decode cX2_minutesOf 6 = .ok (.aload_n 0, 1) := by decide +kernel
theorem dX2_minutesOf_7 : decode cX2_minutesOf 7 = .ok (.getfield 15, 3) := by decide +kernel
theorem dX2_minutesOf_10 : decode cX2_minutesOf 10 = .ok (.goto 7, 3) := by decide +kernel
theorem dX2_minutesOf_13 : decode cX2_minutesOf 13 = .ok (.aload_n 0, 1) := by decide +kernel
theorem dX2_minutesOf_14 : decode cX2_minutesOf 14 = .ok (.getfield 18, 3) := by decide +kernel
theorem dX2_minutesOf_17 : decode cX2_minutesOf 17 = .ok (.iload_n 1, 1) := by decide +kernel
theorem dX2_minutesOf_18 : decode cX2_minutesOf 18 = .ok (.invokestatic 45, 3) := by decide +kernel
theorem dX2_minutesOf_21 : decode cX2_minutesOf 21 = .ok (.iconst 2, 1) := by decide +kernel
theorem dX2_minutesOf_22 : decode cX2_minutesOf 22 = .ok (.idiv, 1) := by decide +kernel
theorem dX2_minutesOf_23 : decode cX2_minutesOf 23 = .ok (.invokestatic 31, 3) := by decide +kernel
theorem dX2_minutesOf_26 : decode cX2_minutesOf 26 = .ok (.ireturn, 1) := by decide +kernel
theorem dX2_behind_0 : decode cX2_behind 0 = .ok (.aload_n 0, 1) := by decide +kernel
theorem dX2_behind_1 : decode cX2_behind 1 = .ok (.iload_n 1, 1) := by decide +kernel
theorem dX2_behind_2 : decode cX2_behind 2 = .ok (.iload_n 2, 1) := by decide +kernel
theorem dX2_behind_3 : decode cX2_behind 3 = .ok (.invokevirtual 48, 3) := by decide +kernel
theorem dX2_behind_6 : decode cX2_behind 6 = .ok (.istore 4, 2) := by decide +kernel
theorem dX2_behind_8 : decode cX2_behind 8 = .ok (.iload 4, 2) := by decide +kernel
theorem dX2_behind_10 : decode cX2_behind 10 = .ok (.iconst (-1), 1) := by decide +kernel
theorem dX2_behind_11 : decode cX2_behind 11 = .ok (.if_icmp .eq 18, 3) := by decide +kernel
theorem dX2_behind_14 : decode cX2_behind 14 = .ok (.aload_n 0, 1) := by decide +kernel
theorem dX2_behind_15 : decode cX2_behind 15 = .ok (.iload 4, 2) := by decide +kernel
theorem dX2_behind_17 : decode cX2_behind 17 = .ok (.iload_n 3, 1) := by decide +kernel
theorem dX2_behind_18 : decode cX2_behind 18 = .ok (.invokevirtual 52, 3) := by decide +kernel
theorem dX2_behind_21 : decode cX2_behind 21 = .ok (.ifCond .eq 8, 3) := by decide +kernel
theorem dX2_behind_24 : decode cX2_behind 24 = .ok (.iload 4, 2) := by decide +kernel
theorem dX2_behind_26 : decode cX2_behind 26 = .ok (.goto 4, 3) := by decide +kernel
theorem dX2_behind_29 : decode cX2_behind 29 = .ok (.iconst (-1), 1) := by decide +kernel
theorem dX2_behind_30 : decode cX2_behind 30 = .ok (.ireturn, 1) := by decide +kernel
theorem dX2_moved_0 : decode cX2_moved 0 = .ok (.iload_n 2, 1) := by decide +kernel
theorem dX2_moved_1 : decode cX2_moved 1 = .ok (.invokestatic 45, 3) := by decide +kernel
theorem dX2_moved_4 : decode cX2_moved 4 = .ok (.istore_n 3, 1) := by decide +kernel
theorem dX2_moved_5 : decode cX2_moved 5 = .ok (.iload_n 2, 1) := by decide +kernel
theorem dX2_moved_6 : decode cX2_moved 6 = .ok (.invokestatic 56, 3) := by decide +kernel
theorem dX2_moved_9 : decode cX2_moved 9 = .ok (.istore 4, 2) := by decide +kernel
theorem dX2_moved_11 : decode cX2_moved 11 = .ok (.iload_n 1, 1) := by decide +kernel
theorem dX2_moved_12 : decode cX2_moved 12 = .ok (.iconst 2, 1) := by decide +kernel
theorem dX2_moved_13 : decode cX2_moved 13 = .ok (.iload_n 3, 1) := by decide +kernel
theorem dX2_moved_14 : decode cX2_moved 14 = .ok (.imul, 1) := by decide +kernel
theorem dX2_moved_15 : decode cX2_moved 15 = .ok (.ishr, 1) := by decide +kernel
theorem dX2_moved_16 : decode cX2_moved 16 = .ok (.iconst 3, 1) := by decide +kernel
theorem dX2_moved_17 : decode cX2_moved 17 = .ok (.iand, 1) := by decide +kernel
theorem dX2_moved_18 : decode cX2_moved 18 = .ok (.ifCond .ne 5, 3) := by decide +kernel
theorem dX2_moved_21 : decode cX2_moved 21 = .ok (.iconst (-1), 1) := by decide +kernel
theorem dX2_moved_22 : decode cX2_moved 22 = .ok (.ireturn, 1) := by decide +kernel
theorem dX2_moved_23 : decode cX2_moved 23 = .ok (.iload_n 1, 1) := by decide +kernel
theorem dX2_moved_24 : decode cX2_moved 24 = .ok (.iconst 1, 1) := by decide +kernel
theorem dX2_moved_25 : decode cX2_moved 25 = .ok (.iconst 2, 1) := by decide +kernel
theorem dX2_moved_26 : decode cX2_moved 26 = .ok (.iload_n 3, 1) := by decide +kernel
theorem dX2_moved_27 : decode cX2_moved 27 = .ok (.imul, 1) := by decide +kernel
theorem dX2_moved_28 : decode cX2_moved 28 = .ok (.ishl, 1) := by decide +kernel
theorem dX2_moved_29 : decode cX2_moved 29 = .ok (.isub, 1) := by decide +kernel
theorem dX2_moved_30 : decode cX2_moved 30 = .ok (.istore 5, 2) := by decide +kernel
theorem dX2_moved_32 : decode cX2_moved 32 = .ok (.iload 4, 2) := by decide +kernel
theorem dX2_moved_34 : decode cX2_moved 34 = .ok (.iconst (-1), 1) := by decide +kernel
theorem dX2_moved_35 : decode cX2_moved 35 = .ok (.if_icmp .eq 28, 3) := by decide +kernel
theorem dX2_moved_38 : decode cX2_moved 38 = .ok (.iload_n 1, 1) := by decide +kernel
theorem dX2_moved_39 : decode cX2_moved 39 = .ok (.iconst 2, 1) := by decide +kernel
theorem dX2_moved_40 : decode cX2_moved 40 = .ok (.iload 4, 2) := by decide +kernel
theorem dX2_moved_42 : decode cX2_moved 42 = .ok (.imul, 1) := by decide +kernel
theorem dX2_moved_43 : decode cX2_moved 43 = .ok (.ishr, 1) := by decide +kernel
theorem dX2_moved_44 : decode cX2_moved 44 = .ok (.iconst 3, 1) := by decide +kernel
theorem dX2_moved_45 : decode cX2_moved 45 = .ok (.iand, 1) := by decide +kernel
theorem dX2_moved_46 : decode cX2_moved 46 = .ok (.iconst 3, 1) := by decide +kernel
theorem dX2_moved_47 : decode cX2_moved 47 = .ok (.if_icmp .ne 5, 3) := by decide +kernel
theorem dX2_moved_50 : decode cX2_moved 50 = .ok (.iconst (-1), 1) := by decide +kernel
theorem dX2_moved_51 : decode cX2_moved 51 = .ok (.ireturn, 1) := by decide +kernel
theorem dX2_moved_52 : decode cX2_moved 52 = .ok (.iload 5, 2) := by decide +kernel
theorem dX2_moved_54 : decode cX2_moved 54 = .ok (.iconst 1, 1) := by decide +kernel
theorem dX2_moved_55 : decode cX2_moved 55 = .ok (.iconst 2, 1) := by decide +kernel
theorem dX2_moved_56 : decode cX2_moved 56 = .ok (.iload 4, 2) := by decide +kernel
theorem dX2_moved_58 : decode cX2_moved 58 = .ok (.imul, 1) := by decide +kernel
theorem dX2_moved_59 : decode cX2_moved 59 = .ok (.ishl, 1) := by decide +kernel
theorem dX2_moved_60 : decode cX2_moved 60 = .ok (.iadd, 1) := by decide +kernel
theorem dX2_moved_61 : decode cX2_moved 61 = .ok (.istore 5, 2) := by decide +kernel
theorem dX2_moved_63 : decode cX2_moved 63 = .ok (.aload_n 0, 1) := by decide +kernel
theorem dX2_moved_64 : decode cX2_moved 64 = .ok (.iload 5, 2) := by decide +kernel
theorem dX2_moved_66 : decode cX2_moved 66 = .ok (.invokevirtual 59, 3) := by decide +kernel
theorem dX2_moved_69 : decode cX2_moved 69 = .ok (.ireturn, 1) := by decide +kernel
theorem dX2_slid_0 : decode cX2_slid 0 = .ok (.iload_n 1, 1) := by decide +kernel
theorem dX2_slid_1 : decode cX2_slid 1 = .ok (.istore_n 2, 1) := by decide +kernel
theorem dX2_slid_2 : decode cX2_slid 2 = .ok (.iconst 0, 1) := by decide +kernel
theorem dX2_slid_3 : decode cX2_slid 3 = .ok (.istore_n 3, 1) := by decide +kernel
theorem dX2_slid_4 : decode cX2_slid 4 = .ok (.iload_n 3, 1) := by decide +kernel
theorem dX2_slid_5 : decode cX2_slid 5 = .ok (.aload_n 0, 1) := by decide +kernel
theorem dX2_slid_6 : decode cX2_slid 6 = .ok (.getfield 9, 3) := by decide +kernel
theorem dX2_slid_9 : decode cX2_slid 9 = .ok (.arraylength, 1) := by decide +kernel
theorem dX2_slid_10 : decode cX2_slid 10 = .ok (.if_icmp .ge 83, 3) := by decide +kernel
theorem dX2_slid_13 : decode cX2_slid 13 = .ok (.aload_n 0, 1) := by decide +kernel
theorem dX2_slid_14 : decode cX2_slid 14 = .ok (.getfield 9, 3) := by decide +kernel
theorem dX2_slid_17 : decode cX2_slid 17 = .ok (.iload_n 3, 1) := by decide +kernel
theorem dX2_slid_18 : decode cX2_slid 18 = .ok (.iaload, 1) := by decide +kernel
theorem dX2_slid_19 : decode cX2_slid 19 = .ok (.iconst 3, 1) := by decide +kernel
theorem dX2_slid_20 : decode cX2_slid 20 = .ok (.if_icmp .ne 67, 3) := by decide +kernel
theorem dX2_slid_23 : decode cX2_slid 23 = .ok (.iconst 1, 1) := by decide +kernel
theorem dX2_slid_24 : decode cX2_slid 24 = .ok (.iconst 4, 1) := by decide +kernel
theorem dX2_slid_25 : decode cX2_slid 25 = .ok (.iload_n 3, 1) := by decide +kernel
theorem dX2_slid_26 : decode cX2_slid 26 = .ok (.imul, 1) := by decide +kernel
theorem dX2_slid_27 : decode cX2_slid 27 = .ok (.ishl, 1) := by decide +kernel
theorem dX2_slid_28 : decode cX2_slid 28 = .ok (.istore 4, 2) := by decide +kernel
theorem dX2_slid_30 : decode cX2_slid 30 = .ok (.iload 4, 2) := by decide +kernel
theorem dX2_slid_32 : decode cX2_slid 32 = .ok (.iconst 2, 1) := by decide +kernel
theorem dX2_slid_33 : decode cX2_slid 33 = .ok (.ishl, 1) := by decide +kernel
theorem dX2_slid_34 : decode cX2_slid 34 = .ok (.istore 5, 2) := by decide +kernel
theorem dX2_slid_36 : decode cX2_slid 36 = .ok (.iload_n 1, 1) := by decide +kernel
theorem dX2_slid_37 : decode cX2_slid 37 = .ok (.iconst 4, 1) := by decide +kernel
theorem dX2_slid_38 : decode cX2_slid 38 = .ok (.iload_n 3, 1) := by decide +kernel
theorem dX2_slid_39 : decode cX2_slid 39 = .ok (.imul, 1) := by decide +kernel
theorem dX2_slid_40 : decode cX2_slid 40 = .ok (.ishr, 1) := by decide +kernel
theorem dX2_slid_41 : decode cX2_slid 41 = .ok (.iconst 3, 1) := by decide +kernel
theorem dX2_slid_42 : decode cX2_slid 42 = .ok (.iand, 1) := by decide +kernel
theorem dX2_slid_43 : decode cX2_slid 43 = .ok (.iload_n 1, 1) := by decide +kernel
theorem dX2_slid_44 : decode cX2_slid 44 = .ok (.iconst 4, 1) := by decide +kernel
theorem dX2_slid_45 : decode cX2_slid 45 = .ok (.iload_n 3, 1) := by decide +kernel
theorem dX2_slid_46 : decode cX2_slid 46 = .ok (.imul, 1) := by decide +kernel
theorem dX2_slid_47 : decode cX2_slid 47 = .ok (.iconst 2, 1) := by decide +kernel
theorem dX2_slid_48 : decode cX2_slid 48 = .ok (.iadd, 1) := by decide +kernel
theorem dX2_slid_49 : decode cX2_slid 49 = .ok (.ishr, 1) := by decide +kernel
theorem dX2_slid_50 : decode cX2_slid 50 = .ok (.iconst 3, 1) := by decide +kernel
theorem dX2_slid_51 : decode cX2_slid 51 = .ok (.iand, 1) := by decide +kernel
theorem dX2_slid_52 : decode cX2_slid 52 = .ok (.isub, 1) := by decide +kernel
theorem dX2_slid_53 : decode cX2_slid 53 = .ok (.istore 6, 2) := by decide +kernel
theorem dX2_slid_55 : decode cX2_slid 55 = .ok (.iload 6, 2) := by decide +kernel
theorem dX2_slid_57 : decode cX2_slid 57 = .ok (.iconst 2, 1) := by decide +kernel
theorem dX2_slid_58 : decode cX2_slid 58 = .ok (.if_icmp .lt 14, 3) := by decide +kernel
theorem dX2_slid_61 : decode cX2_slid 61 = .ok (.iload_n 2, 1) := by decide +kernel
theorem dX2_slid_62 : decode cX2_slid 62 = .ok (.iload 5, 2) := by decide +kernel
theorem dX2_slid_64 : decode cX2_slid 64 = .ok (.iload 4, 2) := by decide +kernel
theorem dX2_slid_66 : decode cX2_slid 66 = .ok (.isub, 1) := by decide +kernel
theorem dX2_slid_67 : decode cX2_slid 67 = .ok (.iadd, 1) := by decide +kernel
theorem dX2_slid_68 : decode cX2_slid 68 = .ok (.istore_n 2, 1) := by decide +kernel
theorem dX2_slid_69 : decode cX2_slid 69 = .ok (.goto 18, 3) := by decide +kernel
theorem dX2_slid_72 : decode cX2_slid 72 = .ok (.iload 6, 2) := by decide +kernel
theorem dX2_slid_74 : decode cX2_slid 74 = .ok (.bipush (-2), 2) := by decide +kernel
theorem dX2_slid_76 : decode cX2_slid 76 = .ok (.if_icmp .gt 11, 3) := by decide +kernel
theorem dX2_slid_79 : decode cX2_slid 79 = .ok (.iload_n 2, 1) := by decide +kernel
theorem dX2_slid_80 : decode cX2_slid 80 = .ok (.iload 4, 2) := by decide +kernel
theorem dX2_slid_82 : decode cX2_slid 82 = .ok (.iload 5, 2) := by decide +kernel
theorem dX2_slid_84 : decode cX2_slid 84 = .ok (.isub, 1) := by decide +kernel
theorem dX2_slid_85 : decode cX2_slid 85 = .ok (.iadd, 1) := by decide +kernel
theorem dX2_slid_86 : decode cX2_slid 86 = .ok (.istore_n 2, 1) := by decide +kernel
theorem dX2_slid_87 : decode cX2_slid 87 = .ok (.iinc 3 1, 3) := by decide +kernel
theorem dX2_slid_90 : decode cX2_slid 90 = .ok (.goto (-86), 3) := by decide +kernel
theorem dX2_slid_93 : decode cX2_slid 93 = .ok (.iload_n 2, 1) := by decide +kernel
theorem dX2_slid_94 : decode cX2_slid 94 = .ok (.ireturn, 1) := by decide +kernel
theorem dX3_init_0 : decode cX3_init 0 = .ok (.aload_n 0, 1) := by decide +kernel
theorem dX3_init_1 : decode cX3_init 1 = .ok (.invokespecial 3, 3) := by decide +kernel
theorem dX3_init_4 : decode cX3_init 4 = .ok (.aload_n 0, 1) := by decide +kernel
theorem dX3_init_5 : decode cX3_init 5 = .ok (.iconst 0, 1) := by decide +kernel
theorem dX3_init_6 : decode cX3_init 6 = .ok (.putfield 9, 3) := by decide +kernel
theorem dX3_init_9 : decode cX3_init 9 = .ok (.aload_n 0, 1) := by decide +kernel
theorem dX3_init_10 : decode cX3_init 10 = .ok (.iconst 0, 1) := by decide +kernel
theorem dX3_init_11 : decode cX3_init 11 = .ok (.putfield 15, 3) := by decide +kernel
theorem dX3_init_14 : decode cX3_init 14 = .ok (.aload_n 0, 1) := by decide +kernel
theorem dX3_init_15 : decode cX3_init 15 = .ok (.iconst 0, 1) := by decide +kernel
theorem dX3_init_16 : decode cX3_init 16 = .ok (.putfield 19, 3) := by decide +kernel
theorem dX3_init_19 : decode cX3_init 19 = .ok (.aload_n 0, 1) := by decide +kernel
theorem dX3_init_20 : decode cX3_init 20 = .ok (.iconst 0, 1) := by decide +kernel
theorem dX3_init_21 : decode cX3_init 21 = .ok (.putfield 22, 3) := by decide +kernel
theorem dX3_init_24 : decode cX3_init 24 = .ok (.aload_n 0, 1) := by decide +kernel
theorem dX3_init_25 : decode cX3_init 25 = .ok (.iconst 4, 1) := by decide +kernel
theorem dX3_init_26 : decode cX3_init 26 = .ok (.newarray .int, 2) := by decide +kernel
theorem dX3_init_28 : decode cX3_init 28 = .ok (.putfield 25, 3) := by decide +kernel
theorem dX3_init_31 : decode cX3_init 31 = .ok (.aload_n 0, 1) := by decide +kernel
theorem dX3_init_32 : decode cX3_init 32 = .ok (.iconst 0, 1) := by decide +kernel
theorem dX3_init_33 : decode cX3_init 33 = .ok (.putfield 29, 3) := by decide +kernel
theorem dX3_init_36 : decode cX3_init 36 = .ok (.return_, 1) := by decide +kernel
theorem dX3_clear_0 : decode cX3_clear 0 = .ok (.aload_n 0, 1) := by decide +kernel
theorem dX3_clear_1 : decode cX3_clear 1 = .ok (.iconst 0, 1) := by decide +kernel
theorem dX3_clear_2 : decode cX3_clear 2 = .ok (.putfield 9, 3) := by decide +kernel
theorem dX3_clear_5 : decode cX3_clear 5 = .ok (.aload_n 0, 1) := by decide +kernel
theorem dX3_clear_6 : decode cX3_clear 6 = .ok (.iconst 0, 1) := by decide +kernel
theorem dX3_clear_7 : decode cX3_clear 7 = .ok (.putfield 15, 3) := by decide +kernel
theorem dX3_clear_10 : decode cX3_clear 10 = .ok (.aload_n 0, 1) := by decide +kernel
theorem dX3_clear_11 : decode cX3_clear 11 = .ok (.iconst 0, 1) := by decide +kernel
theorem dX3_clear_12 : decode cX3_clear 12 = .ok (.putfield 19, 3) := by decide +kernel
theorem dX3_clear_15 : decode cX3_clear 15 = .ok (.aload_n 0, 1) := by decide +kernel
theorem dX3_clear_16 : decode cX3_clear 16 = .ok (.iconst 0, 1) := by decide +kernel
theorem dX3_clear_17 : decode cX3_clear 17 = .ok (.putfield 22, 3) := by decide +kernel
theorem dX3_clear_20 : decode cX3_clear 20 = .ok (.aload_n 0, 1) := by decide +kernel
theorem dX3_clear_21 : decode cX3_clear 21 = .ok (.iconst 0, 1) := by decide +kernel
theorem dX3_clear_22 : decode cX3_clear 22 = .ok (.putfield 29, 3) := by decide +kernel
theorem dX3_clear_25 : decode cX3_clear 25 = .ok (.return_, 1) := by decide +kernel
theorem dX3_copyOf_0 : decode cX3_copyOf 0 = .ok (.aload_n 0, 1) := by decide +kernel
theorem dX3_copyOf_1 : decode cX3_copyOf 1 = .ok (.aload_n 1, 1) := by decide +kernel
theorem dX3_copyOf_2 : decode cX3_copyOf 2 = .ok (.getfield 9, 3) := by decide +kernel
theorem dX3_copyOf_5 : decode cX3_copyOf 5 = .ok (.putfield 9, 3) := by decide +kernel
theorem dX3_copyOf_8 : decode cX3_copyOf 8 = .ok (.aload_n 0, 1) := by decide +kernel
theorem dX3_copyOf_9 : decode cX3_copyOf 9 = .ok (.aload_n 1, 1) := by decide +kernel
theorem dX3_copyOf_10 : decode cX3_copyOf 10 = .ok (.getfield 15, 3) := by decide +kernel
theorem dX3_copyOf_13 : decode cX3_copyOf 13 = .ok (.putfield 15, 3) := by decide +kernel
theorem dX3_copyOf_16 : decode cX3_copyOf 16 = .ok (.aload_n 0, 1) := by decide +kernel
theorem dX3_copyOf_17 : decode cX3_copyOf 17 = .ok (.aload_n 1, 1) := by decide +kernel
theorem dX3_copyOf_18 : decode cX3_copyOf 18 = .ok (.getfield 19, 3) := by decide +kernel
theorem dX3_copyOf_21 : decode cX3_copyOf 21 = .ok (.putfield 19, 3) := by decide +kernel
theorem dX3_copyOf_24 : decode cX3_copyOf 24 = .ok (.aload_n 0, 1) := by decide +kernel
theorem dX3_copyOf_25 : decode cX3_copyOf 25 = .ok (.aload_n 1, 1) := by decide +kernel
theorem dX3_copyOf_26 : decode cX3_copyOf 26 = .ok (.getfield 22, 3) := by decide +kernel
theorem dX3_copyOf_29 : decode cX3_copyOf 29 = .ok (.putfield 22, 3) := by decide +kernel
theorem dX3_copyOf_32 : decode cX3_copyOf 32 = .ok (.iconst 0, 1) := by decide +kernel
theorem dX3_copyOf_33 : decode cX3_copyOf 33 = .ok (.istore_n 2, 1) := by decide +kernel
theorem dX3_copyOf_34 : decode cX3_copyOf 34 = .ok (.iload_n 2, 1) := by decide +kernel
theorem dX3_copyOf_35 : decode cX3_copyOf 35 = .ok (.aload_n 0, 1) := by decide +kernel
theorem dX3_copyOf_36 : decode cX3_copyOf 36 = .ok (.getfield 25, 3) := by decide +kernel
theorem dX3_copyOf_39 : decode cX3_copyOf 39 = .ok (.arraylength, 1) := by decide +kernel
theorem dX3_copyOf_40 : decode cX3_copyOf 40 = .ok (.if_icmp .ge 30, 3) := by decide +kernel
theorem dX3_copyOf_43 : decode cX3_copyOf 43 = .ok (.iload_n 2, 1) := by decide +kernel
theorem dX3_copyOf_44 : decode cX3_copyOf 44 = .ok (.aload_n 1, 1) := by decide +kernel
theorem dX3_copyOf_45 : decode cX3_copyOf 45 = .ok (.getfield 25, 3) := by decide +kernel
theorem dX3_copyOf_48 : decode cX3_copyOf 48 = .ok (.arraylength, 1) := by decide +kernel
theorem dX3_copyOf_49 : decode cX3_copyOf 49 = .ok (.if_icmp .ge 21, 3) := by decide +kernel
theorem dX3_copyOf_52 : decode cX3_copyOf 52 = .ok (.aload_n 0, 1) := by decide +kernel
theorem dX3_copyOf_53 : decode cX3_copyOf 53 = .ok (.getfield 25, 3) := by decide +kernel
theorem dX3_copyOf_56 : decode cX3_copyOf 56 = .ok (.iload_n 2, 1) := by decide +kernel
theorem dX3_copyOf_57 : decode cX3_copyOf 57 = .ok (.aload_n 1, 1) := by decide +kernel
theorem dX3_copyOf_58 : decode cX3_copyOf 58 = .ok (.getfield 25, 3) := by decide +kernel
theorem dX3_copyOf_61 : decode cX3_copyOf 61 = .ok (.iload_n 2, 1) := by decide +kernel
theorem dX3_copyOf_62 : decode cX3_copyOf 62 = .ok (.iaload, 1) := by decide +kernel
theorem dX3_copyOf_63 : decode cX3_copyOf 63 = .ok (.iastore, 1) := by decide +kernel
theorem dX3_copyOf_64 : decode cX3_copyOf 64 = .ok (.iinc 2 1, 3) := by decide +kernel
theorem dX3_copyOf_67 : decode cX3_copyOf 67 = .ok (.goto (-33), 3) := by decide +kernel
theorem dX3_copyOf_70 : decode cX3_copyOf 70 = .ok (.aload_n 0, 1) := by decide +kernel
theorem dX3_copyOf_71 : decode cX3_copyOf 71 = .ok (.aload_n 1, 1) := by decide +kernel
theorem dX3_copyOf_72 : decode cX3_copyOf 72 = .ok (.getfield 29, 3) := by decide +kernel
theorem dX3_copyOf_75 : decode cX3_copyOf 75 = .ok (.putfield 29, 3) := by decide +kernel
theorem dX3_copyOf_78 : decode cX3_copyOf 78 = .ok (.return_, 1) := by decide +kernel
theorem dX4_init_0 : decode cX4_init 0 = .ok (.aload_n 0, 1) := by decide +kernel
theorem dX4_init_1 : decode cX4_init 1 = .ok (.invokespecial 3, 3) := by decide +kernel
theorem dX4_init_4 : decode cX4_init 4 = .ok (.aload_n 0, 1) := by decide +kernel
theorem dX4_init_5 : decode cX4_init 5 = .ok (.sipush 4096, 3) := by decide +kernel
theorem dX4_init_8 : decode cX4_init 8 = .ok (.newarray .int, 2) := by decide +kernel
theorem dX4_init_10 : decode cX4_init 10 = .ok (.putfield 9, 3) := by decide +kernel
theorem dX4_init_13 : decode cX4_init 13 = .ok (.aload_n 0, 1) := by decide +kernel
theorem dX4_init_14 : decode cX4_init 14 = .ok (.sipush 4096, 3) := by decide +kernel
theorem dX4_init_17 : decode cX4_init 17 = .ok (.newarray .int, 2) := by decide +kernel
theorem dX4_init_19 : decode cX4_init 19 = .ok (.putfield 15, 3) := by decide +kernel
theorem dX4_init_22 : decode cX4_init 22 = .ok (.aload_n 0, 1) := by decide +kernel
theorem dX4_init_23 : decode cX4_init 23 = .ok (.sipush 20480, 3) := by decide +kernel
theorem dX4_init_26 : decode cX4_init 26 = .ok (.newarray .int, 2) := by decide +kernel
theorem dX4_init_28 : decode cX4_init 28 = .ok (.putfield 18, 3) := by decide +kernel
theorem dX4_init_31 : decode cX4_init 31 = .ok (.aload_n 0, 1) := by decide +kernel
theorem dX4_init_32 : decode cX4_init 32 = .ok (.iconst 5, 1) := by decide +kernel
theorem dX4_init_33 : decode cX4_init 33 = .ok (.newarray .int, 2) := by decide +kernel
theorem dX4_init_35 : decode cX4_init 35 = .ok (.putfield 21, 3) := by decide +kernel
theorem dX4_init_38 : decode cX4_init 38 = .ok (.aload_n 0, 1) := by decide +kernel
theorem dX4_init_39 : decode cX4_init 39 = .ok (.iconst 0, 1) := by decide +kernel
theorem dX4_init_40 : decode cX4_init 40 = .ok (.putfield 24, 3) := by decide +kernel
theorem dX4_init_43 : decode cX4_init 43 = .ok (.aload_n 0, 1) := by decide +kernel
theorem dX4_init_44 : decode cX4_init 44 = .ok (.iconst 0, 1) := by decide +kernel
theorem dX4_init_45 : decode cX4_init 45 = .ok (.putfield 28, 3) := by decide +kernel
theorem dX4_init_48 : decode cX4_init 48 = .ok (.aload_n 0, 1) := by decide +kernel
theorem dX4_init_49 : decode cX4_init 49 = .ok (.iconst 0, 1) := by decide +kernel
theorem dX4_init_50 : decode cX4_init 50 = .ok (.putfield 31, 3) := by decide +kernel
theorem dX4_init_53 : decode cX4_init 53 = .ok (.aload_n 0, 1) := by decide +kernel
theorem dX4_init_54 : decode cX4_init 54 = .ok (.iconst 0, 1) := by decide +kernel
theorem dX4_init_55 : decode cX4_init 55 = .ok (.putfield 34, 3) := by decide +kernel
theorem dX4_init_58 : decode cX4_init 58 = .ok (.aload_n 0, 1) := by decide +kernel
theorem dX4_init_59 : decode cX4_init 59 = .ok (.iconst (-1), 1) := by decide +kernel
theorem dX4_init_60 : decode cX4_init 60 = .ok (.putfield 37, 3) := by decide +kernel
theorem dX4_init_63 : decode cX4_init 63 = .ok (.aload_n 0, 1) := by decide +kernel
theorem dX4_init_64 : decode cX4_init 64 = .ok (.iconst 0, 1) := by decide +kernel
theorem dX4_init_65 : decode cX4_init 65 = .ok (.putfield 40, 3) := by decide +kernel
theorem dX4_init_68 : decode cX4_init 68 = .ok (.aload_n 0, 1) := by decide +kernel
theorem dX4_init_69 : decode cX4_init 69 = .ok (.iconst (-1), 1) := by decide +kernel
theorem dX4_init_70 : decode cX4_init 70 = .ok (.putfield 43, 3) := by decide +kernel
theorem dX4_init_73 : decode cX4_init 73 = .ok (.return_, 1) := by decide +kernel
theorem dX4_lookFrom_0 : decode cX4_lookFrom 0 = .ok (.iload 4, 2) := by decide +kernel
theorem dX4_lookFrom_2 : decode cX4_lookFrom 2 = .ok (.aload_n 0, 1) := by decide +kernel
theorem dX4_lookFrom_3 : decode cX4_lookFrom 3 = .ok (.getfield 34, 3) := by decide +kernel
theorem dX4_lookFrom_6 : decode cX4_lookFrom 6 = .ok (.if_icmp .ne 20, 3) := by decide +kernel
theorem dX4_lookFrom_9 : decode cX4_lookFrom 9 = .ok (.iload_n 2, 1) := by decide +kernel
theorem dX4_lookFrom_10 : decode cX4_lookFrom 10 = .ok (.aload_n 0, 1) := by decide +kernel
theorem dX4_lookFrom_11 : decode cX4_lookFrom 11 = .ok (.getfield 37, 3) := by decide +kernel
theorem dX4_lookFrom_14 : decode cX4_lookFrom 14 = .ok (.if_icmp .ne 12, 3) := by decide +kernel
theorem dX4_lookFrom_17 : decode cX4_lookFrom 17 = .ok (.iload_n 3, 1) := by decide +kernel
theorem dX4_lookFrom_18 : decode cX4_lookFrom 18 = .ok (.aload_n 0, 1) := by decide +kernel
theorem dX4_lookFrom_19 : decode cX4_lookFrom 19 = .ok (.getfield 43, 3) := by decide +kernel
theorem dX4_lookFrom_22 : decode cX4_lookFrom 22 = .ok (.if_icmp .ne 4, 3) := by decide +kernel
theorem dX4_lookFrom_25 : decode cX4_lookFrom 25 = .ok (.return_, 1) := by decide +kernel
theorem dX4_lookFrom_26 : decode cX4_lookFrom 26 = .ok (.aload_n 0, 1) := by decide +kernel
theorem dX4_lookFrom_27 : decode cX4_lookFrom 27 = .ok (.iload 4, 2) := by decide +kernel
theorem dX4_lookFrom_29 : decode cX4_lookFrom 29 = .ok (.putfield 34, 3) := by decide +kernel
theorem dX4_lookFrom_32 : decode cX4_lookFrom 32 = .ok (.aload_n 0, 1) := by decide +kernel
theorem dX4_lookFrom_33 : decode cX4_lookFrom 33 = .ok (.iload_n 2, 1) := by decide +kernel
theorem dX4_lookFrom_34 : decode cX4_lookFrom 34 = .ok (.putfield 37, 3) := by decide +kernel
theorem dX4_lookFrom_37 : decode cX4_lookFrom 37 = .ok (.aload_n 0, 1) := by decide +kernel
theorem dX4_lookFrom_38 : decode cX4_lookFrom 38 = .ok (.iload_n 2, 1) := by decide +kernel
theorem dX4_lookFrom_39 : decode cX4_lookFrom 39 = .ok (.invokestatic 46, 3) := by decide +kernel
theorem dX4_lookFrom_42 : decode cX4_lookFrom 42 = .ok (.putfield 40, 3) := by decide +kernel
theorem dX4_lookFrom_45 : decode cX4_lookFrom 45 = .ok (.aload_n 0, 1) := by decide +kernel
theorem dX4_lookFrom_46 : decode cX4_lookFrom 46 = .ok (.iload_n 3, 1) := by decide +kernel
theorem dX4_lookFrom_47 : decode cX4_lookFrom 47 = .ok (.putfield 43, 3) := by decide +kernel
theorem dX4_lookFrom_50 : decode cX4_lookFrom 50 = .ok (.aload_n 0, 1) := by decide +kernel
theorem dX4_lookFrom_51 : decode cX4_lookFrom 51 = .ok (.getfield 9, 3) := by decide +kernel
theorem dX4_lookFrom_54 : decode cX4_lookFrom 54 = .ok (.iconst (-1), 1) := by decide +kernel
theorem dX4_lookFrom_55 : decode cX4_lookFrom 55 = .ok (.invokestatic 50, 3) := by decide +kernel
theorem dX4_lookFrom_58 : decode cX4_lookFrom 58 = .ok (.aload_n 0, 1) := by decide +kernel
theorem dX4_lookFrom_59 : decode cX4_lookFrom 59 = .ok (.getfield 15, 3) := by decide +kernel
theorem dX4_lookFrom_62 : decode cX4_lookFrom 62 = .ok (.iconst (-1), 1) := by decide +kernel
theorem dX4_lookFrom_63 : decode cX4_lookFrom 63 = .ok (.invokestatic 50, 3) := by decide +kernel
theorem dX4_lookFrom_66 : decode cX4_lookFrom 66 = .ok (.aload_n 0, 1) := by decide +kernel
theorem dX4_lookFrom_67 : decode cX4_lookFrom 67 = .ok (.getfield 21, 3) := by decide +kernel
theorem dX4_lookFrom_70 : decode cX4_lookFrom 70 = .ok (.iconst 0, 1) := by decide +kernel
theorem dX4_lookFrom_71 : decode cX4_lookFrom 71 = .ok (.invokestatic 50, 3) := by decide +kernel
theorem dX4_lookFrom_74 : decode cX4_lookFrom 74 = .ok (.aload_n 0, 1) := by decide +kernel
theorem dX4_lookFrom_75 : decode cX4_lookFrom 75 = .ok (.iconst 0, 1) := by decide +kernel
theorem dX4_lookFrom_76 : decode cX4_lookFrom 76 = .ok (.putfield 24, 3) := by decide +kernel
theorem dX4_lookFrom_79 : decode cX4_lookFrom 79 = .ok (.aload_n 0, 1) := by decide +kernel
theorem dX4_lookFrom_80 : decode cX4_lookFrom 80 = .ok (.iconst 0, 1) := by decide +kernel
theorem dX4_lookFrom_81 : decode cX4_lookFrom 81 = .ok (.putfield 28, 3) := by decide +kernel
theorem dX4_lookFrom_84 : decode cX4_lookFrom 84 = .ok (.aload_n 0, 1) := by decide +kernel
theorem dX4_lookFrom_85 : decode cX4_lookFrom 85 = .ok (.iconst 0, 1) := by decide +kernel
theorem dX4_lookFrom_86 : decode cX4_lookFrom 86 = .ok (.putfield 31, 3) := by decide +kernel
theorem dX4_lookFrom_89 : decode cX4_lookFrom 89 = .ok (.aload_n 0, 1) := by decide +kernel
theorem dX4_lookFrom_90 : decode cX4_lookFrom 90 = .ok (.iload_n 2, 1) := by decide +kernel
theorem dX4_lookFrom_91 : decode cX4_lookFrom 91 = .ok (.iconst 0, 1) := by decide +kernel
theorem dX4_lookFrom_92 : decode cX4_lookFrom 92 = .ok (.iconst (-1), 1) := by decide +kernel
theorem dX4_lookFrom_93 : decode cX4_lookFrom 93 = .ok (.invokevirtual 56, 3) := by decide +kernel
theorem dX4_lookFrom_96 : decode cX4_lookFrom 96 = .ok (.iconst 0, 1) := by decide +kernel
theorem dX4_lookFrom_97 : decode cX4_lookFrom 97 = .ok (.istore 5, 2) := by decide +kernel
theorem dX4_lookFrom_99 : decode cX4_lookFrom 99 = .ok (.iload 5, 2) := by decide +kernel
theorem dX4_lookFrom_101 : decode cX4_lookFrom 101 = .ok (.sipush 16384, 3) := by decide +kernel
theorem dX4_lookFrom_104 : decode cX4_lookFrom 104 = .ok (.if_icmp .gt 94, 3) := by decide +kernel
theorem dX4_lookFrom_107 : decode cX4_lookFrom 107 = .ok (.aload_n 0, 1) := by decide +kernel
theorem dX4_lookFrom_108 : decode cX4_lookFrom 108 = .ok (.getfield 24, 3) := by decide +kernel
theorem dX4_lookFrom_111 : decode cX4_lookFrom 111 = .ok (.ifCond .le 87, 3) := by decide +kernel
theorem dX4_lookFrom_114 : decode cX4_lookFrom 114 = .ok (.iload 5, 2) := by decide +kernel
theorem dX4_lookFrom_116 : decode cX4_lookFrom 116 = .ok (.iconst 5, 1) := by decide +kernel
theorem dX4_lookFrom_117 : decode cX4_lookFrom 117 = .ok (.irem, 1) := by decide +kernel
theorem dX4_lookFrom_118 : decode cX4_lookFrom 118 = .ok (.istore 6, 2) := by decide +kernel
theorem dX4_lookFrom_120 : decode cX4_lookFrom 120 = .ok (.aload_n 0, 1) := by decide +kernel
theorem dX4_lookFrom_121 : decode cX4_lookFrom 121 = .ok (.getfield 21, 3) := by decide +kernel
theorem dX4_lookFrom_124 : decode cX4_lookFrom 124 = .ok (.iload 6, 2) := by decide +kernel
theorem dX4_lookFrom_126 : decode cX4_lookFrom 126 = .ok (.iaload, 1) := by decide +kernel
theorem dX4_lookFrom_127 : decode cX4_lookFrom 127 = .ok (.sipush 4096, 3) := by decide +kernel
theorem dX4_lookFrom_130 : decode cX4_lookFrom 130 = .ok (.invokestatic 60, 3) := by decide +kernel
theorem dX4_lookFrom_133 : decode cX4_lookFrom 133 = .ok (.istore 7, 2) := by decide +kernel
theorem dX4_lookFrom_135 : decode cX4_lookFrom 135 = .ok (.iconst 0, 1) := by decide +kernel
theorem dX4_lookFrom_136 : decode cX4_lookFrom 136 = .ok (.istore 8, 2) := by decide +kernel
theorem dX4_lookFrom_138 : decode cX4_lookFrom 138 = .ok (.iload 8, 2) := by decide +kernel
theorem dX4_lookFrom_140 : decode cX4_lookFrom 140 = .ok (.iload 7, 2) := by decide +kernel
theorem dX4_lookFrom_142 : decode cX4_lookFrom 142 = .ok (.if_icmp .ge 31, 3) := by decide +kernel
theorem dX4_lookFrom_145 : decode cX4_lookFrom 145 = .ok (.aload_n 0, 1) := by decide +kernel
theorem dX4_lookFrom_146 : decode cX4_lookFrom 146 = .ok (.aload_n 1, 1) := by decide +kernel
theorem dX4_lookFrom_147 : decode cX4_lookFrom 147 = .ok (.aload_n 0, 1) := by decide +kernel
theorem dX4_lookFrom_148 : decode cX4_lookFrom 148 = .ok (.getfield 18, 3) := by decide +kernel
theorem dX4_lookFrom_151 : decode cX4_lookFrom 151 = .ok (.iload 6, 2) := by decide +kernel
theorem dX4_lookFrom_153 : decode cX4_lookFrom 153 = .ok (.sipush 4096, 3) := by decide +kernel
theorem dX4_lookFrom_156 : decode cX4_lookFrom 156 = .ok (.imul, 1) := by decide +kernel
theorem dX4_lookFrom_157 : decode cX4_lookFrom 157 = .ok (.iload 8, 2) := by decide +kernel
theorem dX4_lookFrom_159 : decode cX4_lookFrom 159 = .ok (.iadd, 1) := by decide +kernel
theorem dX4_lookFrom_160 : decode cX4_lookFrom 160 = .ok (.iaload, 1) := by decide +kernel
theorem dX4_lookFrom_161 : decode cX4_lookFrom 161 = .ok (.iload 5, 2) := by decide +kernel
theorem dX4_lookFrom_163 : decode cX4_lookFrom 163 = .ok (.iload_n 3, 1) := by decide +kernel
theorem dX4_lookFrom_164 : decode cX4_lookFrom 164 = .ok (.invokevirtual 66, 3) := by decide +kernel
theorem dX4_lookFrom_167 : decode cX4_lookFrom 167 = .ok (.iinc 8 1, 3) := by decide +kernel
theorem dX4_lookFrom_170 : decode cX4_lookFrom 170 = .ok (.goto (-32), 3) := by decide +kernel
theorem dX4_lookFrom_173 : decode cX4_lookFrom 173 = .ok (.aload_n 0, 1) := by decide +kernel
theorem dX4_lookFrom_174 : decode cX4_lookFrom 174 = .ok (.getfield 21, 3) := by decide +kernel
theorem dX4_lookFrom_177 : decode cX4_lookFrom 177 = .ok (.iload 6, 2) := by decide +kernel
theorem dX4_lookFrom_179 : decode cX4_lookFrom 179 = .ok (.iconst 0, 1) := by decide +kernel
theorem dX4_lookFrom_180 : decode cX4_lookFrom 180 = .ok (.iastore, 1) := by decide +kernel
theorem dX4_lookFrom_181 : decode cX4_lookFrom 181 = .ok (.aload_n 0, 1) := by decide +kernel
theorem dX4_lookFrom_182 : decode cX4_lookFrom 182 = .ok (.dup, 1) := by decide +kernel
theorem dX4_lookFrom_183 : decode cX4_lookFrom 183 = .ok (.getfield 24, 3) := by decide +kernel
theorem dX4_lookFrom_186 : decode cX4_lookFrom 186 = .ok (.iload 7, 2) := by decide +kernel
theorem dX4_lookFrom_188 : decode cX4_lookFrom 188 = .ok (.isub, 1) := by decide +kernel
theorem dX4_lookFrom_189 : decode cX4_lookFrom 189 = .ok (.putfield 24, 3) := by decide +kernel
theorem dX4_lookFrom_192 : decode cX4_lookFrom 192 = .ok (.iinc 5 1, 3) := by decide +kernel
theorem dX4_lookFrom_195 : decode cX4_lookFrom 195 = .ok (.goto (-96), 3) := by decide +kernel
theorem dX4_lookFrom_198 : decode cX4_lookFrom 198 = .ok (.return_, 1) := by decide +kernel
theorem dX4_leave_0 : decode cX4_leave 0 = .ok (.iload_n 2, 1) := by decide +kernel
theorem dX4_leave_1 : decode cX4_leave 1 = .ok (.ifCond .lt 20, 3) := by decide +kernel
theorem dX4_leave_4 : decode cX4_leave 4 = .ok (.iload_n 2, 1) := by decide +kernel
theorem dX4_leave_5 : decode cX4_leave 5 = .ok (.sipush 4096, 3) := by decide +kernel
theorem dX4_leave_8 : decode cX4_leave 8 = .ok (.if_icmp .ge 13, 3) := by decide +kernel
theorem dX4_leave_11 : decode cX4_leave 11 = .ok (.aload_n 0, 1) := by decide +kernel
theorem dX4_leave_12 : decode cX4_leave 12 = .ok (.getfield 9, 3) := by decide +kernel
theorem dX4_leave_15 : decode cX4_leave 15 = .ok (.iload_n 2, 1) := by decide +kernel
theorem dX4_leave_16 : decode cX4_leave 16 = .ok (.iaload, 1) := by decide +kernel
theorem dX4_leave_17 : decode cX4_leave 17 = .ok (.iload_n 3, 1) := by decide +kernel
theorem dX4_leave_18 : decode cX4_leave 18 = .ok (.if_icmp .eq 4, 3) := by decide +kernel
theorem dX4_leave_21 : decode cX4_leave 21 = .ok (.return_, 1) := by decide +kernel
theorem dX4_leave_22 : decode cX4_leave 22 = .ok (.aload_n 0, 1) := by decide +kernel
theorem dX4_leave_23 : decode cX4_leave 23 = .ok (.dup, 1) := by decide +kernel
theorem dX4_leave_24 : decode cX4_leave 24 = .ok (.getfield 28, 3) := by decide +kernel
theorem dX4_leave_27 : decode cX4_leave 27 = .ok (.iconst 1, 1) := by decide +kernel
theorem dX4_leave_28 : decode cX4_leave 28 = .ok (.iadd, 1) := by decide +kernel
theorem dX4_leave_29 : decode cX4_leave 29 = .ok (.putfield 28, 3) := by decide +kernel
theorem dX4_leave_32 : decode cX4_leave 32 = .ok (.aload_n 0, 1) := by decide +kernel
theorem dX4_leave_33 : decode cX4_leave 33 = .ok (.aload_n 0, 1) := by decide +kernel
theorem dX4_leave_34 : decode cX4_leave 34 = .ok (.getfield 31, 3) := by decide +kernel
theorem dX4_leave_37 : decode cX4_leave 37 = .ok (.aload_n 0, 1) := by decide +kernel
theorem dX4_leave_38 : decode cX4_leave 38 = .ok (.getfield 40, 3) := by decide +kernel
theorem dX4_leave_41 : decode cX4_leave 41 = .ok (.iload_n 2, 1) := by decide +kernel
theorem dX4_leave_42 : decode cX4_leave 42 = .ok (.invokestatic 46, 3) := by decide +kernel
theorem dX4_leave_45 : decode cX4_leave 45 = .ok (.isub, 1) := by decide +kernel
theorem dX4_leave_46 : decode cX4_leave 46 = .ok (.invokestatic 70, 3) := by decide +kernel
theorem dX4_leave_49 : decode cX4_leave 49 = .ok (.putfield 31, 3) := by decide +kernel
theorem dX4_leave_52 : decode cX4_leave 52 = .ok (.getstatic 73, 3) := by decide +kernel
theorem dX4_leave_55 : decode cX4_leave 55 = .ok (.astore 5, 2) := by decide +kernel
theorem dX4_leave_57 : decode cX4_leave 57 = .ok (.aload 5, 2) := by decide +kernel
theorem dX4_leave_59 : decode cX4_leave 59 = .ok (.arraylength, 1) := by decide +kernel
theorem dX4_leave_60 : decode cX4_leave 60 = .ok (.istore 6, 2) := by decide +kernel
theorem dX4_leave_62 : decode cX4_leave 62 = .ok (.iconst 0, 1) := by decide +kernel
theorem dX4_leave_63 : decode cX4_leave 63 = .ok (.istore 7, 2) := by decide +kernel
theorem dX4_leave_65 : decode cX4_leave 65 = .ok (.iload 7, 2) := by decide +kernel
theorem dX4_leave_67 : decode cX4_leave 67 = .ok (.iload 6, 2) := by decide +kernel
theorem dX4_leave_69 : decode cX4_leave 69 = .ok (.if_icmp .ge 72, 3) := by decide +kernel
theorem dX4_leave_72 : decode cX4_leave 72 = .ok (.aload 5, 2) := by decide +kernel
theorem dX4_leave_74 : decode cX4_leave 74 = .ok (.iload 7, 2) := by decide +kernel
theorem dX4_leave_76 : decode cX4_leave 76 = .ok (.iaload, 1) := by decide +kernel
theorem dX4_leave_77 : decode cX4_leave 77 = .ok (.istore 8, 2) := by decide +kernel
theorem dX4_leave_79 : decode cX4_leave 79 = .ok (.aload_n 1, 1) := by decide +kernel
theorem dX4_leave_80 : decode cX4_leave 80 = .ok (.iload_n 2, 1) := by decide +kernel
theorem dX4_leave_81 : decode cX4_leave 81 = .ok (.iload 8, 2) := by decide +kernel
theorem dX4_leave_83 : decode cX4_leave 83 = .ok (.iload 4, 2) := by decide +kernel
theorem dX4_leave_85 : decode cX4_leave 85 = .ok (.invokevirtual 76, 3) := by decide +kernel
theorem dX4_leave_88 : decode cX4_leave 88 = .ok (.istore 9, 2) := by decide +kernel
theorem dX4_leave_90 : decode cX4_leave 90 = .ok (.iload 9, 2) := by decide +kernel
theorem dX4_leave_92 : decode cX4_leave 92 = .ok (.iconst (-1), 1) := by decide +kernel
theorem dX4_leave_93 : decode cX4_leave 93 = .ok (.if_icmp .eq 42, 3) := by decide +kernel
theorem dX4_leave_96 : decode cX4_leave 96 = .ok (.aload_n 0, 1) := by decide +kernel
theorem dX4_leave_97 : decode cX4_leave 97 = .ok (.getfield 15, 3) := by decide +kernel
theorem dX4_leave_100 : decode cX4_leave 100 = .ok (.iload_n 2, 1) := by decide +kernel
theorem dX4_leave_101 : decode cX4_leave 101 = .ok (.iaload, 1) := by decide +kernel
theorem dX4_leave_102 : decode cX4_leave 102 = .ok (.iconst (-1), 1) := by decide +kernel
theorem dX4_leave_103 : decode cX4_leave 103 = .ok (.if_icmp .ne 8, 3) := by decide +kernel
theorem dX4_leave_106 : decode cX4_leave 106 = .ok (.iload 8, 2) := by decide +kernel
theorem dX4_leave_108 : decode cX4_leave 108 = .ok (.goto 9, 3) := by decide +kernel
theorem dX4_leave_111 : decode cX4_leave 111 = .ok (.aload_n 0, 1) := by decide +kernel
theorem dX4_leave_112 : decode cX4_leave 112 = .ok (.getfield 15, 3) := by decide +kernel
theorem dX4_leave_115 : decode cX4_leave 115 = .ok (.iload_n 2, 1) := by decide +kernel
theorem dX4_leave_116 : decode cX4_leave 116 = .ok (.iaload, 1) := by decide +kernel
theorem dX4_leave_117 : decode cX4_leave 117 = .ok (.istore 10, 2) := by decide +kernel
theorem dX4_leave_119 : decode cX4_leave 119 = .ok (.aload_n 0, 1) := by decide +kernel
theorem dX4_leave_120 : decode cX4_leave 120 = .ok (.iload 9, 2) := by decide +kernel
theorem dX4_leave_122 : decode cX4_leave 122 = .ok (.iload_n 3, 1) := by decide +kernel
theorem dX4_leave_123 : decode cX4_leave 123 = .ok (.aload_n 1, 1) := by decide +kernel
theorem dX4_leave_124 : decode cX4_leave 124 = .ok (.iload 8, 2) := by decide +kernel
theorem dX4_leave_126 : decode cX4_leave 126 = .ok (.invokevirtual 82, 3) := by decide +kernel
theorem dX4_leave_129 : decode cX4_leave 129 = .ok (.iadd, 1) := by decide +kernel
theorem dX4_leave_130 : decode cX4_leave 130 = .ok (.iload 10, 2) := by decide +kernel
theorem dX4_leave_132 : decode cX4_leave 132 = .ok (.invokevirtual 56, 3) := by decide +kernel
theorem dX4_leave_135 : decode cX4_leave 135 = .ok (.iinc 7 1, 3) := by decide +kernel
theorem dX4_leave_138 : decode cX4_leave 138 = .ok (.goto (-73), 3) := by decide +kernel
theorem dX4_leave_141 : decode cX4_leave 141 = .ok (.return_, 1) := by decide +kernel
theorem dX4_reach_0 : decode cX4_reach 0 = .ok (.iload_n 1, 1) := by decide +kernel
theorem dX4_reach_1 : decode cX4_reach 1 = .ok (.ifCond .lt 14, 3) := by decide +kernel
theorem dX4_reach_4 : decode cX4_reach 4 = .ok (.iload_n 1, 1) := by decide +kernel
theorem dX4_reach_5 : decode cX4_reach 5 = .ok (.sipush 4096, 3) := by decide +kernel
theorem dX4_reach_8 : decode cX4_reach 8 = .ok (.if_icmp .ge 7, 3) := by decide +kernel
theorem dX4_reach_11 : decode cX4_reach 11 = .ok (.iload_n 2, 1) := by decide +kernel
theorem dX4_reach_12 : decode cX4_reach 12 = .ok (.ifCond .ge 4, 3) := by decide +kernel
theorem dX4_reach_15 : decode cX4_reach 15 = .ok (.return_, 1) := by decide +kernel
theorem dX4_reach_16 : decode cX4_reach 16 = .ok (.iload_n 2, 1) := by decide +kernel
theorem dX4_reach_17 : decode cX4_reach 17 = .ok (.iconst 5, 1) := by decide +kernel
theorem dX4_reach_18 : decode cX4_reach 18 = .ok (.irem, 1) := by decide +kernel
theorem dX4_reach_19 : decode cX4_reach 19 = .ok (.istore 4, 2) := by decide +kernel
theorem dX4_reach_21 : decode cX4_reach 21 = .ok (.aload_n 0, 1) := by decide +kernel
theorem dX4_reach_22 : decode cX4_reach 22 = .ok (.getfield 9, 3) := by decide +kernel
theorem dX4_reach_25 : decode cX4_reach 25 = .ok (.iload_n 1, 1) := by decide +kernel
theorem dX4_reach_26 : decode cX4_reach 26 = .ok (.iaload, 1) := by decide +kernel
theorem dX4_reach_27 : decode cX4_reach 27 = .ok (.iconst (-1), 1) := by decide +kernel
theorem dX4_reach_28 : decode cX4_reach 28 = .ok (.if_icmp .eq 13, 3) := by decide +kernel
theorem dX4_reach_31 : decode cX4_reach 31 = .ok (.iload_n 2, 1) := by decide +kernel
theorem dX4_reach_32 : decode cX4_reach 32 = .ok (.aload_n 0, 1) := by decide +kernel
theorem dX4_reach_33 : decode cX4_reach 33 = .ok (.getfield 9, 3) := by decide +kernel
theorem dX4_reach_36 : decode cX4_reach 36 = .ok (.iload_n 1, 1) := by decide +kernel
theorem dX4_reach_37 : decode cX4_reach 37 = .ok (.iaload, 1) := by decide +kernel
theorem dX4_reach_38 : decode cX4_reach 38 = .ok (.if_icmp .ge 74, 3) := by decide +kernel
theorem dX4_reach_41 : decode cX4_reach 41 = .ok (.aload_n 0, 1) := by decide +kernel
theorem dX4_reach_42 : decode cX4_reach 42 = .ok (.getfield 21, 3) := by decide +kernel
theorem dX4_reach_45 : decode cX4_reach 45 = .ok (.iload 4, 2) := by decide +kernel
theorem dX4_reach_47 : decode cX4_reach 47 = .ok (.iaload, 1) := by decide +kernel
theorem dX4_reach_48 : decode cX4_reach 48 = .ok (.sipush 4096, 3) := by decide +kernel
theorem dX4_reach_51 : decode cX4_reach 51 = .ok (.if_icmp .ge 88, 3) := by decide +kernel
theorem dX4_reach_54 : decode cX4_reach 54 = .ok (.aload_n 0, 1) := by decide +kernel
theorem dX4_reach_55 : decode cX4_reach 55 = .ok (.getfield 9, 3) := by decide +kernel
theorem dX4_reach_58 : decode cX4_reach 58 = .ok (.iload_n 1, 1) := by decide +kernel
theorem dX4_reach_59 : decode cX4_reach 59 = .ok (.iload_n 2, 1) := by decide +kernel
theorem dX4_reach_60 : decode cX4_reach 60 = .ok (.iastore, 1) := by decide +kernel
theorem dX4_reach_61 : decode cX4_reach 61 = .ok (.aload_n 0, 1) := by decide +kernel
theorem dX4_reach_62 : decode cX4_reach 62 = .ok (.getfield 15, 3) := by decide +kernel
theorem dX4_reach_65 : decode cX4_reach 65 = .ok (.iload_n 1, 1) := by decide +kernel
theorem dX4_reach_66 : decode cX4_reach 66 = .ok (.iload_n 3, 1) := by decide +kernel
theorem dX4_reach_67 : decode cX4_reach 67 = .ok (.iastore, 1) := by decide +kernel
theorem dX4_reach_68 : decode cX4_reach 68 = .ok (.aload_n 0, 1) := by decide +kernel
theorem dX4_reach_69 : decode cX4_reach 69 = .ok (.getfield 18, 3) := by decide +kernel
theorem dX4_reach_72 : decode cX4_reach 72 = .ok (.iload 4, 2) := by decide +kernel
theorem dX4_reach_74 : decode cX4_reach 74 = .ok (.sipush 4096, 3) := by decide +kernel
theorem dX4_reach_77 : decode cX4_reach 77 = .ok (.imul, 1) := by decide +kernel
theorem dX4_reach_78 : decode cX4_reach 78 = .ok (.aload_n 0, 1) := by decide +kernel
theorem dX4_reach_79 : decode cX4_reach 79 = .ok (.getfield 21, 3) := by decide +kernel
theorem dX4_reach_82 : decode cX4_reach 82 = .ok (.iload 4, 2) := by decide +kernel
theorem dX4_reach_84 : decode cX4_reach 84 = .ok (.iaload, 1) := by decide +kernel
theorem dX4_reach_85 : decode cX4_reach 85 = .ok (.iadd, 1) := by decide +kernel
theorem dX4_reach_86 : decode cX4_reach 86 = .ok (.iload_n 1, 1) := by decide +kernel
theorem dX4_reach_87 : decode cX4_reach 87 = .ok (.iastore, 1) := by decide +kernel
theorem dX4_reach_88 : decode cX4_reach 88 = .ok (.aload_n 0, 1) := by decide +kernel
theorem dX4_reach_89 : decode cX4_reach 89 = .ok (.getfield 21, 3) := by decide +kernel
theorem dX4_reach_92 : decode cX4_reach 92 = .ok (.iload 4, 2) := by decide +kernel
theorem dX4_reach_94 : decode cX4_reach 94 = .ok (.dup2, 1) := by decide +kernel
theorem dX4_reach_95 : decode cX4_reach 95 = .ok (.iaload, 1) := by decide +kernel
theorem dX4_reach_96 : decode cX4_reach 96 = .ok (.iconst 1, 1) := by decide +kernel
theorem dX4_reach_97 : decode cX4_reach 97 = .ok (.iadd, 1) := by decide +kernel
theorem dX4_reach_98 : decode cX4_reach 98 = .ok (.iastore, 1) := by decide +kernel
theorem dX4_reach_99 : decode cX4_reach 99 = .ok (.aload_n 0, 1) := by decide +kernel
theorem dX4_reach_100 : decode cX4_reach 100 = .ok (.dup, 1) := by decide +kernel
theorem dX4_reach_101 : decode cX4_reach 101 = .ok (.getfield 24, 3) := by decide +kernel
theorem dX4_reach_104 : decode cX4_reach 104 = .ok (.iconst 1, 1) := by decide +kernel
theorem dX4_reach_105 : decode cX4_reach 105 = .ok (.iadd, 1) := by decide +kernel
theorem dX4_reach_106 : decode cX4_reach 106 = .ok (.putfield 24, 3) := by decide +kernel
theorem dX4_reach_109 : decode cX4_reach 109 = .ok (.goto 30, 3) := by decide +kernel
theorem dX4_reach_112 : decode cX4_reach 112 = .ok (.iload_n 2, 1) := by decide +kernel
theorem dX4_reach_113 : decode cX4_reach 113 = .ok (.aload_n 0, 1) := by decide +kernel
theorem dX4_reach_114 : decode cX4_reach 114 = .ok (.getfield 9, 3) := by decide +kernel
theorem dX4_reach_117 : decode cX4_reach 117 = .ok (.iload_n 1, 1) := by decide +kernel
theorem dX4_reach_118 : decode cX4_reach 118 = .ok (.iaload, 1) := by decide +kernel
theorem dX4_reach_119 : decode cX4_reach 119 = .ok (.if_icmp .ne 20, 3) := by decide +kernel
theorem dX4_reach_122 : decode cX4_reach 122 = .ok (.iload_n 3, 1) := by decide +kernel
theorem dX4_reach_123 : decode cX4_reach 123 = .ok (.aload_n 0, 1) := by decide +kernel
theorem dX4_reach_124 : decode cX4_reach 124 = .ok (.getfield 15, 3) := by decide +kernel
theorem dX4_reach_127 : decode cX4_reach 127 = .ok (.iload_n 1, 1) := by decide +kernel
theorem dX4_reach_128 : decode cX4_reach 128 = .ok (.iaload, 1) := by decide +kernel
theorem dX4_reach_129 : decode cX4_reach 129 = .ok (.if_icmp .ge 10, 3) := by decide +kernel
theorem dX4_reach_132 : decode cX4_reach 132 = .ok (.aload_n 0, 1) := by decide +kernel
theorem dX4_reach_133 : decode cX4_reach 133 = .ok (.getfield 15, 3) := by decide +kernel
theorem dX4_reach_136 : decode cX4_reach 136 = .ok (.iload_n 1, 1) := by decide +kernel
theorem dX4_reach_137 : decode cX4_reach 137 = .ok (.iload_n 3, 1) := by decide +kernel
theorem dX4_reach_138 : decode cX4_reach 138 = .ok (.iastore, 1) := by decide +kernel
theorem dX4_reach_139 : decode cX4_reach 139 = .ok (.return_, 1) := by decide +kernel
