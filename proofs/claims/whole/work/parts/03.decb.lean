theorem dX5_init_0 : decode cX5_init 0 = .ok (.aload_n 0, 1) := by decide +kernel
theorem dX5_init_1 : decode cX5_init 1 = .ok (.invokespecial 1, 3) := by decide +kernel
theorem dX5_init_4 : decode cX5_init 4 = .ok (.aload_n 0, 1) := by decide +kernel
theorem dX5_init_5 : decode cX5_init 5 = .ok (.bipush 16, 2) := by decide +kernel
theorem dX5_init_7 : decode cX5_init 7 = .ok (.newarray .int, 2) := by decide +kernel
theorem dX5_init_9 : decode cX5_init 9 = .ok (.putfield 9, 3) := by decide +kernel
theorem dX5_init_12 : decode cX5_init 12 = .ok (.aload_n 0, 1) := by decide +kernel
theorem dX5_init_13 : decode cX5_init 13 = .ok (.iconst 0, 1) := by decide +kernel
theorem dX5_init_14 : decode cX5_init 14 = .ok (.putfield 13, 3) := by decide +kernel
theorem dX5_init_17 : decode cX5_init 17 = .ok (.aload_n 0, 1) := by decide +kernel
theorem dX5_init_18 : decode cX5_init 18 = .ok (.new 17, 3) := by decide +kernel
theorem dX5_init_21 : decode cX5_init 21 = .ok (.dup, 1) := by decide +kernel
theorem dX5_init_22 : decode cX5_init 22 = .ok (.invokespecial 19, 3) := by decide +kernel
theorem dX5_init_25 : decode cX5_init 25 = .ok (.putfield 20, 3) := by decide +kernel
theorem dX5_init_28 : decode cX5_init 28 = .ok (.aload_n 0, 1) := by decide +kernel
theorem dX5_init_29 : decode cX5_init 29 = .ok (.iconst 0, 1) := by decide +kernel
theorem dX5_init_30 : decode cX5_init 30 = .ok (.putfield 24, 3) := by decide +kernel
theorem dX5_init_33 : decode cX5_init 33 = .ok (.aload_n 0, 1) := by decide +kernel
theorem dX5_init_34 : decode cX5_init 34 = .ok (.new 28, 3) := by decide +kernel
theorem dX5_init_37 : decode cX5_init 37 = .ok (.dup, 1) := by decide +kernel
theorem dX5_init_38 : decode cX5_init 38 = .ok (.invokespecial 30, 3) := by decide +kernel
theorem dX5_init_41 : decode cX5_init 41 = .ok (.putfield 31, 3) := by decide +kernel
theorem dX5_init_44 : decode cX5_init 44 = .ok (.aload_n 0, 1) := by decide +kernel
theorem dX5_init_45 : decode cX5_init 45 = .ok (.new 28, 3) := by decide +kernel
theorem dX5_init_48 : decode cX5_init 48 = .ok (.dup, 1) := by decide +kernel
theorem dX5_init_49 : decode cX5_init 49 = .ok (.invokespecial 30, 3) := by decide +kernel
theorem dX5_init_52 : decode cX5_init 52 = .ok (.putfield 35, 3) := by decide +kernel
theorem dX5_init_55 : decode cX5_init 55 = .ok (.aload_n 0, 1) := by decide +kernel
theorem dX5_init_56 : decode cX5_init 56 = .ok (.iconst 0, 1) := by decide +kernel
theorem dX5_init_57 : decode cX5_init 57 = .ok (.putfield 38, 3) := by decide +kernel
theorem dX5_init_60 : decode cX5_init 60 = .ok (.aload_n 0, 1) := by decide +kernel
theorem dX5_init_61 : decode cX5_init 61 = .ok (.iconst 0, 1) := by decide +kernel
theorem dX5_init_62 : decode cX5_init 62 = .ok (.putfield 41, 3) := by decide +kernel
theorem dX5_init_65 : decode cX5_init 65 = .ok (.aload_n 0, 1) := by decide +kernel
theorem dX5_init_66 : decode cX5_init 66 = .ok (.iconst 0, 1) := by decide +kernel
theorem dX5_init_67 : decode cX5_init 67 = .ok (.putfield 44, 3) := by decide +kernel
theorem dX5_init_70 : decode cX5_init 70 = .ok (.aload_n 0, 1) := by decide +kernel
theorem dX5_init_71 : decode cX5_init 71 = .ok (.new 47, 3) := by decide +kernel
theorem dX5_init_74 : decode cX5_init 74 = .ok (.dup, 1) := by decide +kernel
theorem dX5_init_75 : decode cX5_init 75 = .ok (.invokespecial 49, 3) := by decide +kernel
theorem dX5_init_78 : decode cX5_init 78 = .ok (.putfield 50, 3) := by decide +kernel
theorem dX5_init_81 : decode cX5_init 81 = .ok (.aload_n 0, 1) := by decide +kernel
theorem dX5_init_82 : decode cX5_init 82 = .ok (.new 54, 3) := by decide +kernel
theorem dX5_init_85 : decode cX5_init 85 = .ok (.dup, 1) := by decide +kernel
theorem dX5_init_86 : decode cX5_init 86 = .ok (.invokespecial 56, 3) := by decide +kernel
theorem dX5_init_89 : decode cX5_init 89 = .ok (.putfield 57, 3) := by decide +kernel
theorem dX5_init_92 : decode cX5_init 92 = .ok (.aload_n 0, 1) := by decide +kernel
theorem dX5_init_93 : decode cX5_init 93 = .ok (.new 61, 3) := by decide +kernel
theorem dX5_init_96 : decode cX5_init 96 = .ok (.dup, 1) := by decide +kernel
theorem dX5_init_97 : decode cX5_init 97 = .ok (.invokespecial 63, 3) := by decide +kernel
theorem dX5_init_100 : decode cX5_init 100 = .ok (.putfield 64, 3) := by decide +kernel
theorem dX5_init_103 : decode cX5_init 103 = .ok (.return_, 1) := by decide +kernel
theorem dX5_letter_0 : decode cX5_letter 0 = .ok (.iload_n 1, 1) := by decide +kernel
theorem dX5_letter_1 : decode cX5_letter 1 = .ok (.iconst 1, 1) := by decide +kernel
theorem dX5_letter_2 : decode cX5_letter 2 = .ok (.if_icmp .lt 9, 3) := by decide +kernel
theorem dX5_letter_5 : decode cX5_letter 5 = .ok (.iload_n 1, 1) := by decide +kernel
theorem dX5_letter_6 : decode cX5_letter 6 = .ok (.bipush 126, 2) := by decide +kernel
theorem dX5_letter_8 : decode cX5_letter 8 = .ok (.if_icmp .le 6, 3) := by decide +kernel
theorem dX5_letter_11 : decode cX5_letter 11 = .ok (.bipush (-102), 2) := by decide +kernel
theorem dX5_letter_13 : decode cX5_letter 13 = .ok (.ireturn, 1) := by decide +kernel
theorem dX5_letter_14 : decode cX5_letter 14 = .ok (.aload_n 0, 1) := by decide +kernel
theorem dX5_letter_15 : decode cX5_letter 15 = .ok (.getfield 13, 3) := by decide +kernel
theorem dX5_letter_18 : decode cX5_letter 18 = .ok (.ifCond .lt 15, 3) := by decide +kernel
theorem dX5_letter_21 : decode cX5_letter 21 = .ok (.aload_n 0, 1) := by decide +kernel
theorem dX5_letter_22 : decode cX5_letter 22 = .ok (.getfield 13, 3) := by decide +kernel
theorem dX5_letter_25 : decode cX5_letter 25 = .ok (.aload_n 0, 1) := by decide +kernel
theorem dX5_letter_26 : decode cX5_letter 26 = .ok (.getfield 9, 3) := by decide +kernel
theorem dX5_letter_29 : decode cX5_letter 29 = .ok (.arraylength, 1) := by decide +kernel
theorem dX5_letter_30 : decode cX5_letter 30 = .ok (.if_icmp .lt 6, 3) := by decide +kernel
theorem dX5_letter_33 : decode cX5_letter 33 = .ok (.bipush (-104), 2) := by decide +kernel
theorem dX5_letter_35 : decode cX5_letter 35 = .ok (.ireturn, 1) := by decide +kernel
theorem dX5_letter_36 : decode cX5_letter 36 = .ok (.aload_n 0, 1) := by decide +kernel
theorem dX5_letter_37 : decode cX5_letter 37 = .ok (.getfield 9, 3) := by decide +kernel
theorem dX5_letter_40 : decode cX5_letter 40 = .ok (.aload_n 0, 1) := by decide +kernel
theorem dX5_letter_41 : decode cX5_letter 41 = .ok (.getfield 13, 3) := by decide +kernel
theorem dX5_letter_44 : decode cX5_letter 44 = .ok (.iload_n 1, 1) := by decide +kernel
theorem dX5_letter_45 : decode cX5_letter 45 = .ok (.iastore, 1) := by decide +kernel
theorem dX5_letter_46 : decode cX5_letter 46 = .ok (.aload_n 0, 1) := by decide +kernel
theorem dX5_letter_47 : decode cX5_letter 47 = .ok (.dup, 1) := by decide +kernel
theorem dX5_letter_48 : decode cX5_letter 48 = .ok (.getfield 13, 3) := by decide +kernel
theorem dX5_letter_51 : decode cX5_letter 51 = .ok (.iconst 1, 1) := by decide +kernel
theorem dX5_letter_52 : decode cX5_letter 52 = .ok (.iadd, 1) := by decide +kernel
theorem dX5_letter_53 : decode cX5_letter 53 = .ok (.putfield 13, 3) := by decide +kernel
theorem dX5_letter_56 : decode cX5_letter 56 = .ok (.aload_n 0, 1) := by decide +kernel
theorem dX5_letter_57 : decode cX5_letter 57 = .ok (.getfield 13, 3) := by decide +kernel
theorem dX5_letter_60 : decode cX5_letter 60 = .ok (.ireturn, 1) := by decide +kernel
theorem dX5_blank_0 : decode cX5_blank 0 = .ok (.aload_n 0, 1) := by decide +kernel
theorem dX5_blank_1 : decode cX5_blank 1 = .ok (.getfield 13, 3) := by decide +kernel
theorem dX5_blank_4 : decode cX5_blank 4 = .ok (.istore_n 1, 1) := by decide +kernel
theorem dX5_blank_5 : decode cX5_blank 5 = .ok (.aload_n 0, 1) := by decide +kernel
theorem dX5_blank_6 : decode cX5_blank 6 = .ok (.iconst 0, 1) := by decide +kernel
theorem dX5_blank_7 : decode cX5_blank 7 = .ok (.putfield 13, 3) := by decide +kernel
theorem dX5_blank_10 : decode cX5_blank 10 = .ok (.iload_n 1, 1) := by decide +kernel
theorem dX5_blank_11 : decode cX5_blank 11 = .ok (.ireturn, 1) := by decide +kernel
theorem dX5_fault_0 : decode cX5_fault 0 = .ok (.iconst 0, 1) := by decide +kernel
theorem dX5_fault_1 : decode cX5_fault 1 = .ok (.istore_n 1, 1) := by decide +kernel
theorem dX5_fault_2 : decode cX5_fault 2 = .ok (.iload_n 1, 1) := by decide +kernel
theorem dX5_fault_3 : decode cX5_fault 3 = .ok (.aload_n 0, 1) := by decide +kernel
theorem dX5_fault_4 : decode cX5_fault 4 = .ok (.getfield 13, 3) := by decide +kernel
theorem dX5_fault_7 : decode cX5_fault 7 = .ok (.if_icmp .ge 33, 3) := by decide +kernel
theorem dX5_fault_10 : decode cX5_fault 10 = .ok (.iload_n 1, 1) := by decide +kernel
theorem dX5_fault_11 : decode cX5_fault 11 = .ok (.aload_n 0, 1) := by decide +kernel
theorem dX5_fault_12 : decode cX5_fault 12 = .ok (.getfield 9, 3) := by decide +kernel
theorem dX5_fault_15 : decode cX5_fault 15 = .ok (.arraylength, 1) := by decide +kernel
theorem dX5_fault_16 : decode cX5_fault 16 = .ok (.if_icmp .ge 24, 3) := by decide +kernel
theorem dX5_fault_19 : decode cX5_fault 19 = .ok (.iload_n 1, 1) := by decide +kernel
theorem dX5_fault_20 : decode cX5_fault 20 = .ok (.aload_n 0, 1) := by decide +kernel
theorem dX5_fault_21 : decode cX5_fault 21 = .ok (.getfield 9, 3) := by decide +kernel
theorem dX5_fault_24 : decode cX5_fault 24 = .ok (.iload_n 1, 1) := by decide +kernel
theorem dX5_fault_25 : decode cX5_fault 25 = .ok (.iaload, 1) := by decide +kernel
theorem dX5_fault_26 : decode cX5_fault 26 = .ok (.invokestatic 68, 3) := by decide +kernel
theorem dX5_fault_29 : decode cX5_fault 29 = .ok (.ifCond .ne 5, 3) := by decide +kernel
theorem dX5_fault_32 : decode cX5_fault 32 = .ok (.iload_n 1, 1) := by decide +kernel
theorem dX5_fault_33 : decode cX5_fault 33 = .ok (.ireturn, 1) := by decide +kernel
theorem dX5_fault_34 : decode cX5_fault 34 = .ok (.iinc 1 1, 3) := by decide +kernel
theorem dX5_fault_37 : decode cX5_fault 37 = .ok (.goto (-35), 3) := by decide +kernel
theorem dX5_fault_40 : decode cX5_fault 40 = .ok (.aload_n 0, 1) := by decide +kernel
theorem dX5_fault_41 : decode cX5_fault 41 = .ok (.getfield 13, 3) := by decide +kernel
theorem dX5_fault_44 : decode cX5_fault 44 = .ok (.ireturn, 1) := by decide +kernel
theorem dX5_hold_0 : decode cX5_hold 0 = .ok (.aload_n 0, 1) := by decide +kernel
theorem dX5_hold_1 : decode cX5_hold 1 = .ok (.getfield 13, 3) := by decide +kernel
theorem dX5_hold_4 : decode cX5_hold 4 = .ok (.ldc 72, 2) := by decide +kernel
theorem dX5_hold_6 : decode cX5_hold 6 = .ok (.invokevirtual 74, 3) := by decide +kernel
theorem dX5_hold_9 : decode cX5_hold 9 = .ok (.if_icmp .ne 15, 3) := by decide +kernel
theorem dX5_hold_12 : decode cX5_hold 12 = .ok (.aload_n 0, 1) := by decide +kernel
theorem dX5_hold_13 : decode cX5_hold 13 = .ok (.invokevirtual 80, 3) := by decide +kernel
theorem dX5_hold_16 : decode cX5_hold 16 = .ok (.ldc 72, 2) := by decide +kernel
theorem dX5_hold_18 : decode cX5_hold 18 = .ok (.invokevirtual 74, 3) := by decide +kernel
theorem dX5_hold_21 : decode cX5_hold 21 = .ok (.if_icmp .eq 6, 3) := by decide +kernel
theorem dX5_hold_24 : decode cX5_hold 24 = .ok (.bipush (-103), 2) := by decide +kernel
theorem dX5_hold_26 : decode cX5_hold 26 = .ok (.ireturn, 1) := by decide +kernel
theorem dX5_hold_27 : decode cX5_hold 27 = .ok (.aload_n 0, 1) := by decide +kernel
theorem dX5_hold_28 : decode cX5_hold 28 = .ok (.getfield 31, 3) := by decide +kernel
theorem dX5_hold_31 : decode cX5_hold 31 = .ok (.invokevirtual 83, 3) := by decide +kernel
theorem dX5_hold_34 : decode cX5_hold 34 = .ok (.aload_n 0, 1) := by decide +kernel
theorem dX5_hold_35 : decode cX5_hold 35 = .ok (.getfield 31, 3) := by decide +kernel
theorem dX5_hold_38 : decode cX5_hold 38 = .ok (.aload_n 0, 1) := by decide +kernel
theorem dX5_hold_39 : decode cX5_hold 39 = .ok (.invokevirtual 86, 3) := by decide +kernel
theorem dX5_hold_42 : decode cX5_hold 42 = .ok (.putfield 89, 3) := by decide +kernel
theorem dX5_hold_45 : decode cX5_hold 45 = .ok (.aload_n 0, 1) := by decide +kernel
theorem dX5_hold_46 : decode cX5_hold 46 = .ok (.iconst 0, 1) := by decide +kernel
theorem dX5_hold_47 : decode cX5_hold 47 = .ok (.putfield 13, 3) := by decide +kernel
theorem dX5_hold_50 : decode cX5_hold 50 = .ok (.aload_n 0, 1) := by decide +kernel
theorem dX5_hold_51 : decode cX5_hold 51 = .ok (.iconst 1, 1) := by decide +kernel
theorem dX5_hold_52 : decode cX5_hold 52 = .ok (.putfield 24, 3) := by decide +kernel
theorem dX5_hold_55 : decode cX5_hold 55 = .ok (.aload_n 0, 1) := by decide +kernel
theorem dX5_hold_56 : decode cX5_hold 56 = .ok (.iconst 0, 1) := by decide +kernel
theorem dX5_hold_57 : decode cX5_hold 57 = .ok (.putfield 38, 3) := by decide +kernel
theorem dX5_hold_60 : decode cX5_hold 60 = .ok (.aload_n 0, 1) := by decide +kernel
theorem dX5_hold_61 : decode cX5_hold 61 = .ok (.dup, 1) := by decide +kernel
theorem dX5_hold_62 : decode cX5_hold 62 = .ok (.getfield 41, 3) := by decide +kernel
theorem dX5_hold_65 : decode cX5_hold 65 = .ok (.iconst 1, 1) := by decide +kernel
theorem dX5_hold_66 : decode cX5_hold 66 = .ok (.iadd, 1) := by decide +kernel
theorem dX5_hold_67 : decode cX5_hold 67 = .ok (.putfield 41, 3) := by decide +kernel
theorem dX5_hold_70 : decode cX5_hold 70 = .ok (.aload_n 0, 1) := by decide +kernel
theorem dX5_hold_71 : decode cX5_hold 71 = .ok (.getfield 31, 3) := by decide +kernel
theorem dX5_hold_74 : decode cX5_hold 74 = .ok (.getfield 89, 3) := by decide +kernel
theorem dX5_hold_77 : decode cX5_hold 77 = .ok (.invokestatic 92, 3) := by decide +kernel
theorem dX5_hold_80 : decode cX5_hold 80 = .ok (.ireturn, 1) := by decide +kernel
theorem dX5_bay_0 : decode cX5_bay 0 = .ok (.aload_n 0, 1) := by decide +kernel
theorem dX5_bay_1 : decode cX5_bay 1 = .ok (.iload_n 1, 1) := by decide +kernel
theorem dX5_bay_2 : decode cX5_bay 2 = .ok (.invokevirtual 96, 3) := by decide +kernel
theorem dX5_bay_5 : decode cX5_bay 5 = .ok (.ifCond .ne 6, 3) := by decide +kernel
theorem dX5_bay_8 : decode cX5_bay 8 = .ok (.bipush (-101), 2) := by decide +kernel
theorem dX5_bay_10 : decode cX5_bay 10 = .ok (.ireturn, 1) := by decide +kernel
theorem dX5_bay_11 : decode cX5_bay 11 = .ok (.iload_n 2, 1) := by decide +kernel
theorem dX5_bay_12 : decode cX5_bay 12 = .ok (.tableswitch 102 0 4 #[36, 48, 62, 78, 90], 36) := by decide +kernel
theorem dX5_bay_48 : decode cX5_bay 48 = .ok (.aload_n 0, 1) := by decide +kernel
theorem dX5_bay_49 : decode cX5_bay 49 = .ok (.getfield 20, 3) := by decide +kernel
theorem dX5_bay_52 : decode cX5_bay 52 = .ok (.getfield 100, 3) := by decide +kernel
theorem dX5_bay_55 : decode cX5_bay 55 = .ok (.iload_n 1, 1) := by decide +kernel
theorem dX5_bay_56 : decode cX5_bay 56 = .ok (.invokestatic 103, 3) := by decide +kernel
theorem dX5_bay_59 : decode cX5_bay 59 = .ok (.ireturn, 1) := by decide +kernel
theorem dX5_bay_60 : decode cX5_bay 60 = .ok (.aload_n 0, 1) := by decide +kernel
theorem dX5_bay_61 : decode cX5_bay 61 = .ok (.getfield 31, 3) := by decide +kernel
theorem dX5_bay_64 : decode cX5_bay 64 = .ok (.getfield 89, 3) := by decide +kernel
theorem dX5_bay_67 : decode cX5_bay 67 = .ok (.iconst 2, 1) := by decide +kernel
theorem dX5_bay_68 : decode cX5_bay 68 = .ok (.iload_n 1, 1) := by decide +kernel
theorem dX5_bay_69 : decode cX5_bay 69 = .ok (.imul, 1) := by decide +kernel
theorem dX5_bay_70 : decode cX5_bay 70 = .ok (.invokestatic 107, 3) := by decide +kernel
theorem dX5_bay_73 : decode cX5_bay 73 = .ok (.ireturn, 1) := by decide +kernel
theorem dX5_bay_74 : decode cX5_bay 74 = .ok (.aload_n 0, 1) := by decide +kernel
theorem dX5_bay_75 : decode cX5_bay 75 = .ok (.getfield 31, 3) := by decide +kernel
theorem dX5_bay_78 : decode cX5_bay 78 = .ok (.getfield 89, 3) := by decide +kernel
theorem dX5_bay_81 : decode cX5_bay 81 = .ok (.iconst 2, 1) := by decide +kernel
theorem dX5_bay_82 : decode cX5_bay 82 = .ok (.iload_n 1, 1) := by decide +kernel
theorem dX5_bay_83 : decode cX5_bay 83 = .ok (.imul, 1) := by decide +kernel
theorem dX5_bay_84 : decode cX5_bay 84 = .ok (.iconst 1, 1) := by decide +kernel
theorem dX5_bay_85 : decode cX5_bay 85 = .ok (.iadd, 1) := by decide +kernel
theorem dX5_bay_86 : decode cX5_bay 86 = .ok (.invokestatic 107, 3) := by decide +kernel
theorem dX5_bay_89 : decode cX5_bay 89 = .ok (.ireturn, 1) := by decide +kernel
theorem dX5_bay_90 : decode cX5_bay 90 = .ok (.aload_n 0, 1) := by decide +kernel
theorem dX5_bay_91 : decode cX5_bay 91 = .ok (.getfield 20, 3) := by decide +kernel
theorem dX5_bay_94 : decode cX5_bay 94 = .ok (.getfield 111, 3) := by decide +kernel
theorem dX5_bay_97 : decode cX5_bay 97 = .ok (.iload_n 1, 1) := by decide +kernel
theorem dX5_bay_98 : decode cX5_bay 98 = .ok (.invokestatic 103, 3) := by decide +kernel
theorem dX5_bay_101 : decode cX5_bay 101 = .ok (.ireturn, 1) := by decide +kernel
theorem dX5_bay_102 : decode cX5_bay 102 = .ok (.aload_n 0, 1) := by decide +kernel
theorem dX5_bay_103 : decode cX5_bay 103 = .ok (.getfield 20, 3) := by decide +kernel
theorem dX5_bay_106 : decode cX5_bay 106 = .ok (.getfield 114, 3) := by decide +kernel
theorem dX5_bay_109 : decode cX5_bay 109 = .ok (.iload_n 1, 1) := by decide +kernel
theorem dX5_bay_110 : decode cX5_bay 110 = .ok (.invokestatic 103, 3) := by decide +kernel
theorem dX5_bay_113 : decode cX5_bay 113 = .ok (.ireturn, 1) := by decide +kernel
theorem dX5_bay_114 : decode cX5_bay 114 = .ok (.bipush (-102), 2) := by decide +kernel
theorem dX5_bay_116 : decode cX5_bay 116 = .ok (.ireturn, 1) := by decide +kernel
theorem dX5_as_0 : decode cX5_as 0 = .ok (.aload_n 0, 1) := by decide +kernel
theorem dX5_as_1 : decode cX5_as 1 = .ok (.iload_n 1, 1) := by decide +kernel
theorem dX5_as_2 : decode cX5_as 2 = .ok (.invokevirtual 96, 3) := by decide +kernel
theorem dX5_as_5 : decode cX5_as 5 = .ok (.ifCond .ne 6, 3) := by decide +kernel
theorem dX5_as_8 : decode cX5_as 8 = .ok (.bipush (-101), 2) := by decide +kernel
theorem dX5_as_10 : decode cX5_as 10 = .ok (.ireturn, 1) := by decide +kernel
theorem dX5_as_11 : decode cX5_as 11 = .ok (.iload_n 2, 1) := by decide +kernel
theorem dX5_as_12 : decode cX5_as 12 = .ok (.ifCond .lt 12, 3) := by decide +kernel
theorem dX5_as_15 : decode cX5_as 15 = .ok (.iload_n 2, 1) := by decide +kernel
theorem dX5_as_16 : decode cX5_as 16 = .ok (.ldc 117, 2) := by decide +kernel
theorem dX5_as_18 : decode cX5_as 18 = .ok (.invokevirtual 74, 3) := by decide +kernel
theorem dX5_as_21 : decode cX5_as 21 = .ok (.if_icmp .lt 6, 3) := by decide +kernel
theorem dX5_as_24 : decode cX5_as 24 = .ok (.bipush (-102), 2) := by decide +kernel
theorem dX5_as_26 : decode cX5_as 26 = .ok (.ireturn, 1) := by decide +kernel
theorem dX5_as_27 : decode cX5_as 27 = .ok (.aload_n 0, 1) := by decide +kernel
theorem dX5_as_28 : decode cX5_as 28 = .ok (.getfield 20, 3) := by decide +kernel
theorem dX5_as_31 : decode cX5_as 31 = .ok (.getfield 100, 3) := by decide +kernel
theorem dX5_as_34 : decode cX5_as 34 = .ok (.iload_n 1, 1) := by decide +kernel
theorem dX5_as_35 : decode cX5_as 35 = .ok (.invokestatic 103, 3) := by decide +kernel
theorem dX5_as_38 : decode cX5_as 38 = .ok (.istore_n 3, 1) := by decide +kernel
theorem dX5_as_39 : decode cX5_as 39 = .ok (.iload_n 2, 1) := by decide +kernel
theorem dX5_as_40 : decode cX5_as 40 = .ok (.ifCond .eq 18, 3) := by decide +kernel
theorem dX5_as_43 : decode cX5_as 43 = .ok (.iload_n 2, 1) := by decide +kernel
theorem dX5_as_44 : decode cX5_as 44 = .ok (.iload_n 3, 1) := by decide +kernel
theorem dX5_as_45 : decode cX5_as 45 = .ok (.if_icmp .eq 13, 3) := by decide +kernel
theorem dX5_as_48 : decode cX5_as 48 = .ok (.iload_n 2, 1) := by decide +kernel
theorem dX5_as_49 : decode cX5_as 49 = .ok (.iconst 2, 1) := by decide +kernel
theorem dX5_as_50 : decode cX5_as 50 = .ok (.if_icmp .ne 12, 3) := by decide +kernel
theorem dX5_as_53 : decode cX5_as 53 = .ok (.iload_n 3, 1) := by decide +kernel
theorem dX5_as_54 : decode cX5_as 54 = .ok (.iconst 4, 1) := by decide +kernel
theorem dX5_as_55 : decode cX5_as 55 = .ok (.if_icmp .ne 7, 3) := by decide +kernel
theorem dX5_as_58 : decode cX5_as 58 = .ok (.iconst 1, 1) := by decide +kernel
theorem dX5_as_59 : decode cX5_as 59 = .ok (.goto 4, 3) := by decide +kernel
theorem dX5_as_62 : decode cX5_as 62 = .ok (.iconst 0, 1) := by decide +kernel
theorem dX5_as_63 : decode cX5_as 63 = .ok (.istore 4, 2) := by decide +kernel
theorem dX5_as_65 : decode cX5_as 65 = .ok (.iload 4, 2) := by decide +kernel
theorem dX5_as_67 : decode cX5_as 67 = .ok (.ifCond .eq 7, 3) := by decide +kernel
theorem dX5_as_70 : decode cX5_as 70 = .ok (.iload_n 1, 1) := by decide +kernel
theorem dX5_as_71 : decode cX5_as 71 = .ok (.goto 4, 3) := by decide +kernel
theorem dX5_as_74 : decode cX5_as 74 = .ok (.iconst (-1), 1) := by decide +kernel
theorem dX5_as_75 : decode cX5_as 75 = .ok (.ireturn, 1) := by decide +kernel
theorem dX5_ground_0 : decode cX5_ground 0 = .ok (.aload_n 0, 1) := by decide +kernel
theorem dX5_ground_1 : decode cX5_ground 1 = .ok (.getfield 24, 3) := by decide +kernel
theorem dX5_ground_4 : decode cX5_ground 4 = .ok (.ifCond .ne 6, 3) := by decide +kernel
theorem dX5_ground_7 : decode cX5_ground 7 = .ok (.bipush (-103), 2) := by decide +kernel
theorem dX5_ground_9 : decode cX5_ground 9 = .ok (.ireturn, 1) := by decide +kernel
theorem dX5_ground_10 : decode cX5_ground 10 = .ok (.aload_n 0, 1) := by decide +kernel
theorem dX5_ground_11 : decode cX5_ground 11 = .ok (.getfield 31, 3) := by decide +kernel
theorem dX5_ground_14 : decode cX5_ground 14 = .ok (.getfield 119, 3) := by decide +kernel
theorem dX5_ground_17 : decode cX5_ground 17 = .ok (.invokestatic 122, 3) := by decide +kernel
theorem dX5_ground_20 : decode cX5_ground 20 = .ok (.istore_n 2, 1) := by decide +kernel
theorem dX5_ground_21 : decode cX5_ground 21 = .ok (.aload_n 0, 1) := by decide +kernel
theorem dX5_ground_22 : decode cX5_ground 22 = .ok (.getfield 31, 3) := by decide +kernel
theorem dX5_ground_25 : decode cX5_ground 25 = .ok (.iload_n 1, 1) := by decide +kernel
theorem dX5_ground_26 : decode cX5_ground 26 = .ok (.putfield 119, 3) := by decide +kernel
theorem dX5_ground_29 : decode cX5_ground 29 = .ok (.iload_n 2, 1) := by decide +kernel
theorem dX5_ground_30 : decode cX5_ground 30 = .ok (.ireturn, 1) := by decide +kernel
theorem dX5_hull_0 : decode cX5_hull 0 = .ok (.iload_n 1, 1) := by decide +kernel
theorem dX5_hull_1 : decode cX5_hull 1 = .ok (.ifCond .lt 8, 3) := by decide +kernel
theorem dX5_hull_4 : decode cX5_hull 4 = .ok (.iload_n 1, 1) := by decide +kernel
theorem dX5_hull_5 : decode cX5_hull 5 = .ok (.iconst 3, 1) := by decide +kernel
theorem dX5_hull_6 : decode cX5_hull 6 = .ok (.if_icmp .le 6, 3) := by decide +kernel
theorem dX5_hull_9 : decode cX5_hull 9 = .ok (.bipush (-102), 2) := by decide +kernel
theorem dX5_hull_11 : decode cX5_hull 11 = .ok (.ireturn, 1) := by decide +kernel
theorem dX5_hull_12 : decode cX5_hull 12 = .ok (.aload_n 0, 1) := by decide +kernel
theorem dX5_hull_13 : decode cX5_hull 13 = .ok (.getfield 24, 3) := by decide +kernel
theorem dX5_hull_16 : decode cX5_hull 16 = .ok (.ifCond .ne 6, 3) := by decide +kernel
theorem dX5_hull_19 : decode cX5_hull 19 = .ok (.bipush (-103), 2) := by decide +kernel
theorem dX5_hull_21 : decode cX5_hull 21 = .ok (.ireturn, 1) := by decide +kernel
theorem dX5_hull_22 : decode cX5_hull 22 = .ok (.iload_n 1, 1) := by decide +kernel
theorem dX5_hull_23 : decode cX5_hull 23 = .ok (.tableswitch 69 0 2 #[25, 36, 47], 25) := by decide +kernel
theorem dX5_hull_48 : decode cX5_hull 48 = .ok (.aload_n 0, 1) := by decide +kernel
theorem dX5_hull_49 : decode cX5_hull 49 = .ok (.getfield 31, 3) := by decide +kernel
theorem dX5_hull_52 : decode cX5_hull 52 = .ok (.getfield 89, 3) := by decide +kernel
theorem dX5_hull_55 : decode cX5_hull 55 = .ok (.invokestatic 126, 3) := by decide +kernel
theorem dX5_hull_58 : decode cX5_hull 58 = .ok (.ireturn, 1) := by decide +kernel
theorem dX5_hull_59 : decode cX5_hull 59 = .ok (.aload_n 0, 1) := by decide +kernel
theorem dX5_hull_60 : decode cX5_hull 60 = .ok (.getfield 31, 3) := by decide +kernel
theorem dX5_hull_63 : decode cX5_hull 63 = .ok (.getfield 89, 3) := by decide +kernel
theorem dX5_hull_66 : decode cX5_hull 66 = .ok (.invokestatic 129, 3) := by decide +kernel
theorem dX5_hull_69 : decode cX5_hull 69 = .ok (.ireturn, 1) := by decide +kernel
theorem dX5_hull_70 : decode cX5_hull 70 = .ok (.aload_n 0, 1) := by decide +kernel
theorem dX5_hull_71 : decode cX5_hull 71 = .ok (.getfield 20, 3) := by decide +kernel
theorem dX5_hull_74 : decode cX5_hull 74 = .ok (.aload_n 0, 1) := by decide +kernel
theorem dX5_hull_75 : decode cX5_hull 75 = .ok (.getfield 31, 3) := by decide +kernel
theorem dX5_hull_78 : decode cX5_hull 78 = .ok (.getfield 89, 3) := by decide +kernel
theorem dX5_hull_81 : decode cX5_hull 81 = .ok (.aload_n 0, 1) := by decide +kernel
theorem dX5_hull_82 : decode cX5_hull 82 = .ok (.invokevirtual 132, 3) := by decide +kernel
theorem dX5_hull_85 : decode cX5_hull 85 = .ok (.invokevirtual 135, 3) := by decide +kernel
theorem dX5_hull_88 : decode cX5_hull 88 = .ok (.invokestatic 122, 3) := by decide +kernel
theorem dX5_hull_91 : decode cX5_hull 91 = .ok (.ireturn, 1) := by decide +kernel
theorem dX5_hull_92 : decode cX5_hull 92 = .ok (.aload_n 0, 1) := by decide +kernel
theorem dX5_hull_93 : decode cX5_hull 93 = .ok (.invokevirtual 132, 3) := by decide +kernel
theorem dX5_hull_96 : decode cX5_hull 96 = .ok (.ireturn, 1) := by decide +kernel
theorem dX5_may_0 : decode cX5_may 0 = .ok (.aload_n 0, 1) := by decide +kernel
theorem dX5_may_1 : decode cX5_may 1 = .ok (.getfield 24, 3) := by decide +kernel
theorem dX5_may_4 : decode cX5_may 4 = .ok (.ifCond .eq 10, 3) := by decide +kernel
theorem dX5_may_7 : decode cX5_may 7 = .ok (.iload_n 1, 1) := by decide +kernel
theorem dX5_may_8 : decode cX5_may 8 = .ok (.invokestatic 138, 3) := by decide +kernel
theorem dX5_may_11 : decode cX5_may 11 = .ok (.ifCond .ne 6, 3) := by decide +kernel
theorem dX5_may_14 : decode cX5_may 14 = .ok (.bipush (-101), 2) := by decide +kernel
theorem dX5_may_16 : decode cX5_may 16 = .ok (.ireturn, 1) := by decide +kernel
theorem dX5_may_17 : decode cX5_may 17 = .ok (.aload_n 0, 1) := by decide +kernel
theorem dX5_may_18 : decode cX5_may 18 = .ok (.getfield 20, 3) := by decide +kernel
theorem dX5_may_21 : decode cX5_may 21 = .ok (.aload_n 0, 1) := by decide +kernel
theorem dX5_may_22 : decode cX5_may 22 = .ok (.getfield 31, 3) := by decide +kernel
theorem dX5_may_25 : decode cX5_may 25 = .ok (.getfield 89, 3) := by decide +kernel
theorem dX5_may_28 : decode cX5_may 28 = .ok (.iload_n 1, 1) := by decide +kernel
theorem dX5_may_29 : decode cX5_may 29 = .ok (.aload_n 0, 1) := by decide +kernel
theorem dX5_may_30 : decode cX5_may 30 = .ok (.invokevirtual 132, 3) := by decide +kernel
theorem dX5_may_33 : decode cX5_may 33 = .ok (.invokevirtual 141, 3) := by decide +kernel
theorem dX5_may_36 : decode cX5_may 36 = .ok (.iconst (-1), 1) := by decide +kernel
theorem dX5_may_37 : decode cX5_may 37 = .ok (.if_icmp .eq 7, 3) := by decide +kernel
theorem dX5_may_40 : decode cX5_may 40 = .ok (.iconst 1, 1) := by decide +kernel
theorem dX5_may_41 : decode cX5_may 41 = .ok (.goto 4, 3) := by decide +kernel
theorem dX5_may_44 : decode cX5_may 44 = .ok (.iconst 0, 1) := by decide +kernel
theorem dX5_may_45 : decode cX5_may 45 = .ok (.invokestatic 122, 3) := by decide +kernel
theorem dX5_may_48 : decode cX5_may 48 = .ok (.ireturn, 1) := by decide +kernel
theorem dX5_act_0 : decode cX5_act 0 = .ok (.aload_n 0, 1) := by decide +kernel
theorem dX5_act_1 : decode cX5_act 1 = .ok (.getfield 24, 3) := by decide +kernel
theorem dX5_act_4 : decode cX5_act 4 = .ok (.ifCond .eq 10, 3) := by decide +kernel
theorem dX5_act_7 : decode cX5_act 7 = .ok (.iload_n 1, 1) := by decide +kernel
theorem dX5_act_8 : decode cX5_act 8 = .ok (.invokestatic 138, 3) := by decide +kernel
theorem dX5_act_11 : decode cX5_act 11 = .ok (.ifCond .ne 6, 3) := by decide +kernel
theorem dX5_act_14 : decode cX5_act 14 = .ok (.bipush (-101), 2) := by decide +kernel
theorem dX5_act_16 : decode cX5_act 16 = .ok (.ireturn, 1) := by decide +kernel
theorem dX5_act_17 : decode cX5_act 17 = .ok (.aload_n 0, 1) := by decide +kernel
theorem dX5_act_18 : decode cX5_act 18 = .ok (.getfield 20, 3) := by decide +kernel
theorem dX5_act_21 : decode cX5_act 21 = .ok (.aload_n 0, 1) := by decide +kernel
theorem dX5_act_22 : decode cX5_act 22 = .ok (.getfield 31, 3) := by decide +kernel
theorem dX5_act_25 : decode cX5_act 25 = .ok (.getfield 89, 3) := by decide +kernel
theorem dX5_act_28 : decode cX5_act 28 = .ok (.iload_n 1, 1) := by decide +kernel
theorem dX5_act_29 : decode cX5_act 29 = .ok (.aload_n 0, 1) := by decide +kernel
theorem dX5_act_30 : decode cX5_act 30 = .ok (.invokevirtual 132, 3) := by decide +kernel
theorem dX5_act_33 : decode cX5_act 33 = .ok (.invokevirtual 141, 3) := by decide +kernel
theorem dX5_act_36 : decode cX5_act 36 = .ok (.istore_n 2, 1) := by decide +kernel
theorem dX5_act_37 : decode cX5_act 37 = .ok (.iload_n 2, 1) := by decide +kernel
theorem dX5_act_38 : decode cX5_act 38 = .ok (.iconst (-1), 1) := by decide +kernel
theorem dX5_act_39 : decode cX5_act 39 = .ok (.if_icmp .ne 6, 3) := by decide +kernel
theorem dX5_act_42 : decode cX5_act 42 = .ok (.bipush (-103), 2) := by decide +kernel
theorem dX5_act_44 : decode cX5_act 44 = .ok (.ireturn, 1) := by decide +kernel
theorem dX5_act_45 : decode cX5_act 45 = .ok (.aload_n 0, 1) := by decide +kernel
theorem dX5_act_46 : decode cX5_act 46 = .ok (.getfield 31, 3) := by decide +kernel
theorem dX5_act_49 : decode cX5_act 49 = .ok (.dup, 1) := by decide +kernel
theorem dX5_act_50 : decode cX5_act 50 = .ok (.getfield 145, 3) := by decide +kernel
theorem dX5_act_53 : decode cX5_act 53 = .ok (.aload_n 0, 1) := by decide +kernel
theorem dX5_act_54 : decode cX5_act 54 = .ok (.getfield 31, 3) := by decide +kernel
theorem dX5_act_57 : decode cX5_act 57 = .ok (.getfield 89, 3) := by decide +kernel
theorem dX5_act_60 : decode cX5_act 60 = .ok (.invokestatic 92, 3) := by decide +kernel
theorem dX5_act_63 : decode cX5_act 63 = .ok (.iload_n 2, 1) := by decide +kernel
theorem dX5_act_64 : decode cX5_act 64 = .ok (.invokestatic 92, 3) := by decide +kernel
theorem dX5_act_67 : decode cX5_act 67 = .ok (.isub, 1) := by decide +kernel
theorem dX5_act_68 : decode cX5_act 68 = .ok (.iadd, 1) := by decide +kernel
theorem dX5_act_69 : decode cX5_act 69 = .ok (.putfield 145, 3) := by decide +kernel
theorem dX5_act_72 : decode cX5_act 72 = .ok (.aload_n 0, 1) := by decide +kernel
theorem dX5_act_73 : decode cX5_act 73 = .ok (.getfield 31, 3) := by decide +kernel
theorem dX5_act_76 : decode cX5_act 76 = .ok (.iload_n 2, 1) := by decide +kernel
theorem dX5_act_77 : decode cX5_act 77 = .ok (.putfield 89, 3) := by decide +kernel
theorem dX5_act_80 : decode cX5_act 80 = .ok (.aload_n 0, 1) := by decide +kernel
theorem dX5_act_81 : decode cX5_act 81 = .ok (.getfield 31, 3) := by decide +kernel
theorem dX5_act_84 : decode cX5_act 84 = .ok (.dup, 1) := by decide +kernel
theorem dX5_act_85 : decode cX5_act 85 = .ok (.getfield 148, 3) := by decide +kernel
theorem dX5_act_88 : decode cX5_act 88 = .ok (.aload_n 0, 1) := by decide +kernel
theorem dX5_act_89 : decode cX5_act 89 = .ok (.getfield 20, 3) := by decide +kernel
theorem dX5_act_92 : decode cX5_act 92 = .ok (.iload_n 1, 1) := by decide +kernel
theorem dX5_act_93 : decode cX5_act 93 = .ok (.invokevirtual 151, 3) := by decide +kernel
theorem dX5_act_96 : decode cX5_act 96 = .ok (.iadd, 1) := by decide +kernel
theorem dX5_act_97 : decode cX5_act 97 = .ok (.putfield 148, 3) := by decide +kernel
theorem dX5_act_100 : decode cX5_act 100 = .ok (.aload_n 0, 1) := by decide +kernel
theorem dX5_act_101 : decode cX5_act 101 = .ok (.getfield 31, 3) := by decide +kernel
theorem dX5_act_104 : decode cX5_act 104 = .ok (.getfield 148, 3) := by decide +kernel
theorem dX5_act_107 : decode cX5_act 107 = .ok (.ireturn, 1) := by decide +kernel
theorem dX5_soonest_0 : decode cX5_soonest 0 = .ok (.iload_n 1, 1) := by decide +kernel
theorem dX5_soonest_1 : decode cX5_soonest 1 = .ok (.ifCond .lt 8, 3) := by decide +kernel
theorem dX5_soonest_4 : decode cX5_soonest 4 = .ok (.iload_n 1, 1) := by decide +kernel
theorem dX5_soonest_5 : decode cX5_soonest 5 = .ok (.iconst 1, 1) := by decide +kernel
theorem dX5_soonest_6 : decode cX5_soonest 6 = .ok (.if_icmp .le 6, 3) := by decide +kernel
theorem dX5_soonest_9 : decode cX5_soonest 9 = .ok (.bipush (-102), 2) := by decide +kernel
theorem dX5_soonest_11 : decode cX5_soonest 11 = .ok (.ireturn, 1) := by decide +kernel
theorem dX5_soonest_12 : decode cX5_soonest 12 = .ok (.aload_n 0, 1) := by decide +kernel
theorem dX5_soonest_13 : decode cX5_soonest 13 = .ok (.getfield 24, 3) := by decide +kernel
theorem dX5_soonest_16 : decode cX5_soonest 16 = .ok (.ifCond .ne 6, 3) := by decide +kernel
theorem dX5_soonest_19 : decode cX5_soonest 19 = .ok (.bipush (-103), 2) := by decide +kernel
theorem dX5_soonest_21 : decode cX5_soonest 21 = .ok (.ireturn, 1) := by decide +kernel
theorem dX5_soonest_22 : decode cX5_soonest 22 = .ok (.aload_n 0, 1) := by decide +kernel
theorem dX5_soonest_23 : decode cX5_soonest 23 = .ok (.invokevirtual 154, 3) := by decide +kernel
theorem dX5_soonest_26 : decode cX5_soonest 26 = .ok (.iload_n 1, 1) := by decide +kernel
theorem dX5_soonest_27 : decode cX5_soonest 27 = .ok (.ifCond .ne 15, 3) := by decide +kernel
theorem dX5_soonest_30 : decode cX5_soonest 30 = .ok (.aload_n 0, 1) := by decide +kernel
theorem dX5_soonest_31 : decode cX5_soonest 31 = .ok (.getfield 50, 3) := by decide +kernel
theorem dX5_soonest_34 : decode cX5_soonest 34 = .ok (.getfield 157, 3) := by decide +kernel
theorem dX5_soonest_37 : decode cX5_soonest 37 = .ok (.iconst 0, 1) := by decide +kernel
theorem dX5_soonest_38 : decode cX5_soonest 38 = .ok (.iaload, 1) := by decide +kernel
theorem dX5_soonest_39 : decode cX5_soonest 39 = .ok (.goto 12, 3) := by decide +kernel
theorem dX5_soonest_42 : decode cX5_soonest 42 = .ok (.aload_n 0, 1) := by decide +kernel
theorem dX5_soonest_43 : decode cX5_soonest 43 = .ok (.getfield 50, 3) := by decide +kernel
theorem dX5_soonest_46 : decode cX5_soonest 46 = .ok (.getfield 159, 3) := by decide +kernel
theorem dX5_soonest_49 : decode cX5_soonest 49 = .ok (.iconst 0, 1) := by decide +kernel
theorem dX5_soonest_50 : decode cX5_soonest 50 = .ok (.iaload, 1) := by decide +kernel
theorem dX5_soonest_51 : decode cX5_soonest 51 = .ok (.ireturn, 1) := by decide +kernel
theorem dX5_most_0 : decode cX5_most 0 = .ok (.aload_n 0, 1) := by decide +kernel
theorem dX5_most_1 : decode cX5_most 1 = .ok (.getfield 24, 3) := by decide +kernel
theorem dX5_most_4 : decode cX5_most 4 = .ok (.ifCond .ne 6, 3) := by decide +kernel
theorem dX5_most_7 : decode cX5_most 7 = .ok (.bipush (-103), 2) := by decide +kernel
theorem dX5_most_9 : decode cX5_most 9 = .ok (.ireturn, 1) := by decide +kernel
theorem dX5_most_10 : decode cX5_most 10 = .ok (.aload_n 0, 1) := by decide +kernel
theorem dX5_most_11 : decode cX5_most 11 = .ok (.invokevirtual 154, 3) := by decide +kernel
theorem dX5_most_14 : decode cX5_most 14 = .ok (.aload_n 0, 1) := by decide +kernel
theorem dX5_most_15 : decode cX5_most 15 = .ok (.getfield 50, 3) := by decide +kernel
theorem dX5_most_18 : decode cX5_most 18 = .ok (.getfield 162, 3) := by decide +kernel
theorem dX5_most_21 : decode cX5_most 21 = .ok (.ireturn, 1) := by decide +kernel
theorem dX5_holds_0 : decode cX5_holds 0 = .ok (.aload_n 0, 1) := by decide +kernel
theorem dX5_holds_1 : decode cX5_holds 1 = .ok (.getfield 24, 3) := by decide +kernel
theorem dX5_holds_4 : decode cX5_holds 4 = .ok (.ifCond .ne 6, 3) := by decide +kernel
theorem dX5_holds_7 : decode cX5_holds 7 = .ok (.bipush (-103), 2) := by decide +kernel
theorem dX5_holds_9 : decode cX5_holds 9 = .ok (.ireturn, 1) := by decide +kernel
theorem dX5_holds_10 : decode cX5_holds 10 = .ok (.aload_n 0, 1) := by decide +kernel
theorem dX5_holds_11 : decode cX5_holds 11 = .ok (.invokevirtual 154, 3) := by decide +kernel
theorem dX5_holds_14 : decode cX5_holds 14 = .ok (.aload_n 0, 1) := by decide +kernel
theorem dX5_holds_15 : decode cX5_holds 15 = .ok (.getfield 50, 3) := by decide +kernel
theorem dX5_holds_18 : decode cX5_holds 18 = .ok (.getfield 165, 3) := by decide +kernel
theorem dX5_holds_21 : decode cX5_holds 21 = .ok (.ireturn, 1) := by decide +kernel
theorem dX5_leastBend_0 : decode cX5_leastBend 0 = .ok (.aload_n 0, 1) := by decide +kernel
theorem dX5_leastBend_1 : decode cX5_leastBend 1 = .ok (.getfield 24, 3) := by decide +kernel
theorem dX5_leastBend_4 : decode cX5_leastBend 4 = .ok (.ifCond .eq 12, 3) := by decide +kernel
theorem dX5_leastBend_7 : decode cX5_leastBend 7 = .ok (.aload_n 0, 1) := by decide +kernel
theorem dX5_leastBend_8 : decode cX5_leastBend 8 = .ok (.getfield 44, 3) := by decide +kernel
theorem dX5_leastBend_11 : decode cX5_leastBend 11 = .ok (.bipush 12, 2) := by decide +kernel
theorem dX5_leastBend_13 : decode cX5_leastBend 13 = .ok (.if_icmp .lt 6, 3) := by decide +kernel
theorem dX5_leastBend_16 : decode cX5_leastBend 16 = .ok (.bipush (-103), 2) := by decide +kernel
theorem dX5_leastBend_18 : decode cX5_leastBend 18 = .ok (.ireturn, 1) := by decide +kernel
theorem dX5_leastBend_19 : decode cX5_leastBend 19 = .ok (.aload_n 0, 1) := by decide +kernel
theorem dX5_leastBend_20 : decode cX5_leastBend 20 = .ok (.dup, 1) := by decide +kernel
theorem dX5_leastBend_21 : decode cX5_leastBend 21 = .ok (.getfield 44, 3) := by decide +kernel
theorem dX5_leastBend_24 : decode cX5_leastBend 24 = .ok (.iconst 1, 1) := by decide +kernel
theorem dX5_leastBend_25 : decode cX5_leastBend 25 = .ok (.iadd, 1) := by decide +kernel
theorem dX5_leastBend_26 : decode cX5_leastBend 26 = .ok (.putfield 44, 3) := by decide +kernel
theorem dX5_leastBend_29 : decode cX5_leastBend 29 = .ok (.aload_n 0, 1) := by decide +kernel
theorem dX5_leastBend_30 : decode cX5_leastBend 30 = .ok (.getfield 57, 3) := by decide +kernel
theorem dX5_leastBend_33 : decode cX5_leastBend 33 = .ok (.aload_n 0, 1) := by decide +kernel
theorem dX5_leastBend_34 : decode cX5_leastBend 34 = .ok (.getfield 20, 3) := by decide +kernel
theorem dX5_leastBend_37 : decode cX5_leastBend 37 = .ok (.aload_n 0, 1) := by decide +kernel
theorem dX5_leastBend_38 : decode cX5_leastBend 38 = .ok (.getfield 31, 3) := by decide +kernel
theorem dX5_leastBend_41 : decode cX5_leastBend 41 = .ok (.getfield 89, 3) := by decide +kernel
theorem dX5_leastBend_44 : decode cX5_leastBend 44 = .ok (.invokevirtual 168, 3) := by decide +kernel
theorem dX5_leastBend_47 : decode cX5_leastBend 47 = .ok (.ireturn, 1) := by decide +kernel
theorem dX5_string_0 : decode cX5_string 0 = .ok (.iload_n 1, 1) := by decide +kernel
theorem dX5_string_1 : decode cX5_string 1 = .ok (.ifCond .lt 9, 3) := by decide +kernel
theorem dX5_string_4 : decode cX5_string 4 = .ok (.iload_n 1, 1) := by decide +kernel
theorem dX5_string_5 : decode cX5_string 5 = .ok (.bipush 12, 2) := by decide +kernel
theorem dX5_string_7 : decode cX5_string 7 = .ok (.if_icmp .le 6, 3) := by decide +kernel
theorem dX5_string_10 : decode cX5_string 10 = .ok (.bipush (-102), 2) := by decide +kernel
theorem dX5_string_12 : decode cX5_string 12 = .ok (.ireturn, 1) := by decide +kernel
theorem dX5_string_13 : decode cX5_string 13 = .ok (.aload_n 0, 1) := by decide +kernel
theorem dX5_string_14 : decode cX5_string 14 = .ok (.getfield 31, 3) := by decide +kernel
theorem dX5_string_17 : decode cX5_string 17 = .ok (.getfield 172, 3) := by decide +kernel
theorem dX5_string_20 : decode cX5_string 20 = .ok (.ifCond .lt 21, 3) := by decide +kernel
theorem dX5_string_23 : decode cX5_string 23 = .ok (.aload_n 0, 1) := by decide +kernel
theorem dX5_string_24 : decode cX5_string 24 = .ok (.getfield 31, 3) := by decide +kernel
theorem dX5_string_27 : decode cX5_string 27 = .ok (.getfield 172, 3) := by decide +kernel
theorem dX5_string_30 : decode cX5_string 30 = .ok (.aload_n 0, 1) := by decide +kernel
theorem dX5_string_31 : decode cX5_string 31 = .ok (.getfield 31, 3) := by decide +kernel
theorem dX5_string_34 : decode cX5_string 34 = .ok (.getfield 175, 3) := by decide +kernel
theorem dX5_string_37 : decode cX5_string 37 = .ok (.arraylength, 1) := by decide +kernel
theorem dX5_string_38 : decode cX5_string 38 = .ok (.if_icmp .lt 6, 3) := by decide +kernel
theorem dX5_string_41 : decode cX5_string 41 = .ok (.bipush (-104), 2) := by decide +kernel
theorem dX5_string_43 : decode cX5_string 43 = .ok (.ireturn, 1) := by decide +kernel
theorem dX5_string_44 : decode cX5_string 44 = .ok (.aload_n 0, 1) := by decide +kernel
theorem dX5_string_45 : decode cX5_string 45 = .ok (.getfield 31, 3) := by decide +kernel
theorem dX5_string_48 : decode cX5_string 48 = .ok (.getfield 175, 3) := by decide +kernel
theorem dX5_string_51 : decode cX5_string 51 = .ok (.aload_n 0, 1) := by decide +kernel
theorem dX5_string_52 : decode cX5_string 52 = .ok (.getfield 31, 3) := by decide +kernel
theorem dX5_string_55 : decode cX5_string 55 = .ok (.getfield 172, 3) := by decide +kernel
theorem dX5_string_58 : decode cX5_string 58 = .ok (.iload_n 1, 1) := by decide +kernel
theorem dX5_string_59 : decode cX5_string 59 = .ok (.iastore, 1) := by decide +kernel
theorem dX5_string_60 : decode cX5_string 60 = .ok (.aload_n 0, 1) := by decide +kernel
theorem dX5_string_61 : decode cX5_string 61 = .ok (.getfield 31, 3) := by decide +kernel
theorem dX5_string_64 : decode cX5_string 64 = .ok (.dup, 1) := by decide +kernel
theorem dX5_string_65 : decode cX5_string 65 = .ok (.getfield 172, 3) := by decide +kernel
theorem dX5_string_68 : decode cX5_string 68 = .ok (.iconst 1, 1) := by decide +kernel
theorem dX5_string_69 : decode cX5_string 69 = .ok (.iadd, 1) := by decide +kernel
theorem dX5_string_70 : decode cX5_string 70 = .ok (.putfield 172, 3) := by decide +kernel
theorem dX5_string_73 : decode cX5_string 73 = .ok (.aload_n 0, 1) := by decide +kernel
theorem dX5_string_74 : decode cX5_string 74 = .ok (.getfield 31, 3) := by decide +kernel
theorem dX5_string_77 : decode cX5_string 77 = .ok (.getfield 172, 3) := by decide +kernel
theorem dX5_string_80 : decode cX5_string 80 = .ok (.ireturn, 1) := by decide +kernel
theorem dX5_forget_0 : decode cX5_forget 0 = .ok (.aload_n 0, 1) := by decide +kernel
theorem dX5_forget_1 : decode cX5_forget 1 = .ok (.getfield 31, 3) := by decide +kernel
theorem dX5_forget_4 : decode cX5_forget 4 = .ok (.getfield 172, 3) := by decide +kernel
theorem dX5_forget_7 : decode cX5_forget 7 = .ok (.istore_n 1, 1) := by decide +kernel
theorem dX5_forget_8 : decode cX5_forget 8 = .ok (.aload_n 0, 1) := by decide +kernel
theorem dX5_forget_9 : decode cX5_forget 9 = .ok (.getfield 31, 3) := by decide +kernel
theorem dX5_forget_12 : decode cX5_forget 12 = .ok (.iconst 0, 1) := by decide +kernel
theorem dX5_forget_13 : decode cX5_forget 13 = .ok (.putfield 172, 3) := by decide +kernel
theorem dX5_forget_16 : decode cX5_forget 16 = .ok (.iload_n 1, 1) := by decide +kernel
theorem dX5_forget_17 : decode cX5_forget 17 = .ok (.ireturn, 1) := by decide +kernel
theorem dX5_fits_0 : decode cX5_fits 0 = .ok (.iload_n 1, 1) := by decide +kernel
theorem dX5_fits_1 : decode cX5_fits 1 = .ok (.ifCond .lt 8, 3) := by decide +kernel
theorem dX5_fits_4 : decode cX5_fits 4 = .ok (.iload_n 1, 1) := by decide +kernel
theorem dX5_fits_5 : decode cX5_fits 5 = .ok (.iconst 2, 1) := by decide +kernel
theorem dX5_fits_6 : decode cX5_fits 6 = .ok (.if_icmp .le 6, 3) := by decide +kernel
theorem dX5_fits_9 : decode cX5_fits 9 = .ok (.bipush (-102), 2) := by decide +kernel
theorem dX5_fits_11 : decode cX5_fits 11 = .ok (.ireturn, 1) := by decide +kernel
theorem dX5_fits_12 : decode cX5_fits 12 = .ok (.aload_n 0, 1) := by decide +kernel
theorem dX5_fits_13 : decode cX5_fits 13 = .ok (.getfield 24, 3) := by decide +kernel
theorem dX5_fits_16 : decode cX5_fits 16 = .ok (.ifCond .ne 6, 3) := by decide +kernel
theorem dX5_fits_19 : decode cX5_fits 19 = .ok (.bipush (-103), 2) := by decide +kernel
theorem dX5_fits_21 : decode cX5_fits 21 = .ok (.ireturn, 1) := by decide +kernel
theorem dX5_fits_22 : decode cX5_fits 22 = .ok (.aload_n 0, 1) := by decide +kernel
theorem dX5_fits_23 : decode cX5_fits 23 = .ok (.invokevirtual 178, 3) := by decide +kernel
theorem dX5_fits_26 : decode cX5_fits 26 = .ok (.iload_n 1, 1) := by decide +kernel
theorem dX5_fits_27 : decode cX5_fits 27 = .ok (.lookupswitch 41 #[(0, 25), (1, 33)], 25) := by decide +kernel
theorem dX5_fits_52 : decode cX5_fits 52 = .ok (.aload_n 0, 1) := by decide +kernel
theorem dX5_fits_53 : decode cX5_fits 53 = .ok (.getfield 64, 3) := by decide +kernel
theorem dX5_fits_56 : decode cX5_fits 56 = .ok (.getfield 181, 3) := by decide +kernel
theorem dX5_fits_59 : decode cX5_fits 59 = .ok (.ireturn, 1) := by decide +kernel
theorem dX5_fits_60 : decode cX5_fits 60 = .ok (.aload_n 0, 1) := by decide +kernel
theorem dX5_fits_61 : decode cX5_fits 61 = .ok (.getfield 64, 3) := by decide +kernel
theorem dX5_fits_64 : decode cX5_fits 64 = .ok (.getfield 184, 3) := by decide +kernel
theorem dX5_fits_67 : decode cX5_fits 67 = .ok (.ireturn, 1) := by decide +kernel
theorem dX5_fits_68 : decode cX5_fits 68 = .ok (.aload_n 0, 1) := by decide +kernel
theorem dX5_fits_69 : decode cX5_fits 69 = .ok (.getfield 64, 3) := by decide +kernel
theorem dX5_fits_72 : decode cX5_fits 72 = .ok (.getfield 187, 3) := by decide +kernel
theorem dX5_fits_75 : decode cX5_fits 75 = .ok (.ireturn, 1) := by decide +kernel
theorem dX5_days_0 : decode cX5_days 0 = .ok (.iload_n 1, 1) := by decide +kernel
theorem dX5_days_1 : decode cX5_days 1 = .ok (.iconst 1, 1) := by decide +kernel
theorem dX5_days_2 : decode cX5_days 2 = .ok (.if_icmp .lt 22, 3) := by decide +kernel
theorem dX5_days_5 : decode cX5_days 5 = .ok (.iload_n 1, 1) := by decide +kernel
theorem dX5_days_6 : decode cX5_days 6 = .ok (.bipush 90, 2) := by decide +kernel
theorem dX5_days_8 : decode cX5_days 8 = .ok (.if_icmp .gt 16, 3) := by decide +kernel
theorem dX5_days_11 : decode cX5_days 11 = .ok (.iload_n 2, 1) := by decide +kernel
theorem dX5_days_12 : decode cX5_days 12 = .ok (.ifCond .lt 12, 3) := by decide +kernel
theorem dX5_days_15 : decode cX5_days 15 = .ok (.iload_n 3, 1) := by decide +kernel
theorem dX5_days_16 : decode cX5_days 16 = .ok (.ifCond .lt 8, 3) := by decide +kernel
theorem dX5_days_19 : decode cX5_days 19 = .ok (.iload_n 3, 1) := by decide +kernel
theorem dX5_days_20 : decode cX5_days 20 = .ok (.iconst 3, 1) := by decide +kernel
theorem dX5_days_21 : decode cX5_days 21 = .ok (.if_icmp .le 6, 3) := by decide +kernel
theorem dX5_days_24 : decode cX5_days 24 = .ok (.bipush (-102), 2) := by decide +kernel
theorem dX5_days_26 : decode cX5_days 26 = .ok (.ireturn, 1) := by decide +kernel
theorem dX5_days_27 : decode cX5_days 27 = .ok (.aload_n 0, 1) := by decide +kernel
theorem dX5_days_28 : decode cX5_days 28 = .ok (.getfield 24, 3) := by decide +kernel
theorem dX5_days_31 : decode cX5_days 31 = .ok (.ifCond .ne 6, 3) := by decide +kernel
theorem dX5_days_34 : decode cX5_days 34 = .ok (.bipush (-103), 2) := by decide +kernel
theorem dX5_days_36 : decode cX5_days 36 = .ok (.ireturn, 1) := by decide +kernel
theorem dX5_days_37 : decode cX5_days 37 = .ok (.aload_n 0, 1) := by decide +kernel
theorem dX5_days_38 : decode cX5_days 38 = .ok (.invokevirtual 132, 3) := by decide +kernel
theorem dX5_days_41 : decode cX5_days 41 = .ok (.istore 4, 2) := by decide +kernel
theorem dX5_days_43 : decode cX5_days 43 = .ok (.aload_n 0, 1) := by decide +kernel
theorem dX5_days_44 : decode cX5_days 44 = .ok (.getfield 31, 3) := by decide +kernel
theorem dX5_days_47 : decode cX5_days 47 = .ok (.getfield 89, 3) := by decide +kernel
theorem dX5_days_50 : decode cX5_days 50 = .ok (.istore 5, 2) := by decide +kernel
theorem dX5_days_52 : decode cX5_days 52 = .ok (.iload_n 2, 1) := by decide +kernel
theorem dX5_days_53 : decode cX5_days 53 = .ok (.istore 6, 2) := by decide +kernel
theorem dX5_days_55 : decode cX5_days 55 = .ok (.iconst 0, 1) := by decide +kernel
theorem dX5_days_56 : decode cX5_days 56 = .ok (.istore 7, 2) := by decide +kernel
theorem dX5_days_58 : decode cX5_days 58 = .ok (.iconst 0, 1) := by decide +kernel
theorem dX5_days_59 : decode cX5_days 59 = .ok (.istore 8, 2) := by decide +kernel
theorem dX5_days_61 : decode cX5_days 61 = .ok (.iconst 0, 1) := by decide +kernel
theorem dX5_days_62 : decode cX5_days 62 = .ok (.istore 9, 2) := by decide +kernel
theorem dX5_days_64 : decode cX5_days 64 = .ok (.iload 9, 2) := by decide +kernel
theorem dX5_days_66 : decode cX5_days 66 = .ok (.iload_n 1, 1) := by decide +kernel
theorem dX5_days_67 : decode cX5_days 67 = .ok (.if_icmp .ge 80, 3) := by decide +kernel
theorem dX5_days_70 : decode cX5_days 70 = .ok (.iload 6, 2) := by decide +kernel
theorem dX5_days_72 : decode cX5_days 72 = .ok (.invokestatic 190, 3) := by decide +kernel
theorem dX5_days_75 : decode cX5_days 75 = .ok (.istore 6, 2) := by decide +kernel
theorem dX5_days_77 : decode cX5_days 77 = .ok (.iload 6, 2) := by decide +kernel
theorem dX5_days_79 : decode cX5_days 79 = .ok (.ldc 193, 2) := by decide +kernel
theorem dX5_days_81 : decode cX5_days 81 = .ok (.idiv, 1) := by decide +kernel
theorem dX5_days_82 : decode cX5_days 82 = .ok (.bipush 42, 2) := by decide +kernel
theorem dX5_days_84 : decode cX5_days 84 = .ok (.irem, 1) := by decide +kernel
theorem dX5_days_85 : decode cX5_days 85 = .ok (.istore 10, 2) := by decide +kernel
theorem dX5_days_87 : decode cX5_days 87 = .ok (.iload 10, 2) := by decide +kernel
theorem dX5_days_89 : decode cX5_days 89 = .ok (.invokestatic 138, 3) := by decide +kernel
theorem dX5_days_92 : decode cX5_days 92 = .ok (.ifCond .eq 19, 3) := by decide +kernel
theorem dX5_days_95 : decode cX5_days 95 = .ok (.aload_n 0, 1) := by decide +kernel
theorem dX5_days_96 : decode cX5_days 96 = .ok (.getfield 20, 3) := by decide +kernel
theorem dX5_days_99 : decode cX5_days 99 = .ok (.iload 5, 2) := by decide +kernel
theorem dX5_days_101 : decode cX5_days 101 = .ok (.iload 10, 2) := by decide +kernel
theorem dX5_days_103 : decode cX5_days 103 = .ok (.iload 4, 2) := by decide +kernel
theorem dX5_days_105 : decode cX5_days 105 = .ok (.invokevirtual 141, 3) := by decide +kernel
theorem dX5_days_108 : decode cX5_days 108 = .ok (.goto 4, 3) := by decide +kernel
theorem dX5_days_111 : decode cX5_days 111 = .ok (.iconst (-1), 1) := by decide +kernel
theorem dX5_days_112 : decode cX5_days 112 = .ok (.istore 11, 2) := by decide +kernel
theorem dX5_days_114 : decode cX5_days 114 = .ok (.iload 11, 2) := by decide +kernel
theorem dX5_days_116 : decode cX5_days 116 = .ok (.iconst (-1), 1) := by decide +kernel
theorem dX5_days_117 : decode cX5_days 117 = .ok (.if_icmp .eq 24, 3) := by decide +kernel
theorem dX5_days_120 : decode cX5_days 120 = .ok (.iload 11, 2) := by decide +kernel
theorem dX5_days_122 : decode cX5_days 122 = .ok (.istore 5, 2) := by decide +kernel
theorem dX5_days_124 : decode cX5_days 124 = .ok (.iinc 7 1, 3) := by decide +kernel
theorem dX5_days_127 : decode cX5_days 127 = .ok (.iload 8, 2) := by decide +kernel
theorem dX5_days_129 : decode cX5_days 129 = .ok (.aload_n 0, 1) := by decide +kernel
theorem dX5_days_130 : decode cX5_days 130 = .ok (.getfield 20, 3) := by decide +kernel
theorem dX5_days_133 : decode cX5_days 133 = .ok (.iload 10, 2) := by decide +kernel
theorem dX5_days_135 : decode cX5_days 135 = .ok (.invokevirtual 151, 3) := by decide +kernel
theorem dX5_days_138 : decode cX5_days 138 = .ok (.iadd, 1) := by decide +kernel
theorem dX5_days_139 : decode cX5_days 139 = .ok (.istore 8, 2) := by decide +kernel
theorem dX5_days_141 : decode cX5_days 141 = .ok (.iinc 9 1, 3) := by decide +kernel
theorem dX5_days_144 : decode cX5_days 144 = .ok (.goto (-80), 3) := by decide +kernel
theorem dX5_days_147 : decode cX5_days 147 = .ok (.iload_n 3, 1) := by decide +kernel
theorem dX5_days_148 : decode cX5_days 148 = .ok (.tableswitch 40 0 2 #[28, 31, 34], 28) := by decide +kernel
theorem dX5_days_176 : decode cX5_days 176 = .ok (.iload 7, 2) := by decide +kernel
theorem dX5_days_178 : decode cX5_days 178 = .ok (.ireturn, 1) := by decide +kernel
theorem dX5_days_179 : decode cX5_days 179 = .ok (.iload 8, 2) := by decide +kernel
theorem dX5_days_181 : decode cX5_days 181 = .ok (.ireturn, 1) := by decide +kernel
theorem dX5_days_182 : decode cX5_days 182 = .ok (.iload 5, 2) := by decide +kernel
theorem dX5_days_184 : decode cX5_days 184 = .ok (.invokestatic 92, 3) := by decide +kernel
theorem dX5_days_187 : decode cX5_days 187 = .ok (.ireturn, 1) := by decide +kernel
theorem dX5_days_188 : decode cX5_days 188 = .ok (.iload 6, 2) := by decide +kernel
theorem dX5_days_190 : decode cX5_days 190 = .ok (.ireturn, 1) := by decide +kernel
theorem dX5_image_0 : decode cX5_image 0 = .ok (.aload_n 0, 1) := by decide +kernel
theorem dX5_image_1 : decode cX5_image 1 = .ok (.getfield 24, 3) := by decide +kernel
theorem dX5_image_4 : decode cX5_image 4 = .ok (.ifCond .ne 6, 3) := by decide +kernel
theorem dX5_image_7 : decode cX5_image 7 = .ok (.bipush (-103), 2) := by decide +kernel
theorem dX5_image_9 : decode cX5_image 9 = .ok (.ireturn, 1) := by decide +kernel
theorem dX5_image_10 : decode cX5_image 10 = .ok (.aload_n 0, 1) := by decide +kernel
theorem dX5_image_11 : decode cX5_image 11 = .ok (.getfield 35, 3) := by decide +kernel
theorem dX5_image_14 : decode cX5_image 14 = .ok (.aload_n 0, 1) := by decide +kernel
theorem dX5_image_15 : decode cX5_image 15 = .ok (.getfield 31, 3) := by decide +kernel
theorem dX5_image_18 : decode cX5_image 18 = .ok (.invokevirtual 194, 3) := by decide +kernel
theorem dX5_image_21 : decode cX5_image 21 = .ok (.aload_n 0, 1) := by decide +kernel
theorem dX5_image_22 : decode cX5_image 22 = .ok (.iconst 1, 1) := by decide +kernel
theorem dX5_image_23 : decode cX5_image 23 = .ok (.putfield 38, 3) := by decide +kernel
theorem dX5_image_26 : decode cX5_image 26 = .ok (.aload_n 0, 1) := by decide +kernel
theorem dX5_image_27 : decode cX5_image 27 = .ok (.getfield 31, 3) := by decide +kernel
theorem dX5_image_30 : decode cX5_image 30 = .ok (.getfield 148, 3) := by decide +kernel
theorem dX5_image_33 : decode cX5_image 33 = .ok (.ireturn, 1) := by decide +kernel
theorem dX5_restore_0 : decode cX5_restore 0 = .ok (.aload_n 0, 1) := by decide +kernel
theorem dX5_restore_1 : decode cX5_restore 1 = .ok (.getfield 38, 3) := by decide +kernel
theorem dX5_restore_4 : decode cX5_restore 4 = .ok (.ifCond .ne 6, 3) := by decide +kernel
theorem dX5_restore_7 : decode cX5_restore 7 = .ok (.bipush (-103), 2) := by decide +kernel
theorem dX5_restore_9 : decode cX5_restore 9 = .ok (.ireturn, 1) := by decide +kernel
theorem dX5_restore_10 : decode cX5_restore 10 = .ok (.aload_n 0, 1) := by decide +kernel
theorem dX5_restore_11 : decode cX5_restore 11 = .ok (.getfield 31, 3) := by decide +kernel
theorem dX5_restore_14 : decode cX5_restore 14 = .ok (.aload_n 0, 1) := by decide +kernel
theorem dX5_restore_15 : decode cX5_restore 15 = .ok (.getfield 35, 3) := by decide +kernel
theorem dX5_restore_18 : decode cX5_restore 18 = .ok (.invokevirtual 194, 3) := by decide +kernel
theorem dX5_restore_21 : decode cX5_restore 21 = .ok (.aload_n 0, 1) := by decide +kernel
theorem dX5_restore_22 : decode cX5_restore 22 = .ok (.getfield 31, 3) := by decide +kernel
theorem dX5_restore_25 : decode cX5_restore 25 = .ok (.getfield 148, 3) := by decide +kernel
theorem dX5_restore_28 : decode cX5_restore 28 = .ok (.ireturn, 1) := by decide +kernel
theorem dX5_count_0 : decode cX5_count 0 = .ok (.iload_n 1, 1) := by decide +kernel
theorem dX5_count_1 : decode cX5_count 1 = .ok (.tableswitch 132 0 9 #[55, 63, 71, 82, 90, 98, 109, 117, 122, 127], 55) := by decide +kernel
theorem dX5_count_56 : decode cX5_count 56 = .ok (.aload_n 0, 1) := by decide +kernel
theorem dX5_count_57 : decode cX5_count 57 = .ok (.getfield 20, 3) := by decide +kernel
theorem dX5_count_60 : decode cX5_count 60 = .ok (.getfield 198, 3) := by decide +kernel
theorem dX5_count_63 : decode cX5_count 63 = .ok (.ireturn, 1) := by decide +kernel
theorem dX5_count_64 : decode cX5_count 64 = .ok (.aload_n 0, 1) := by decide +kernel
theorem dX5_count_65 : decode cX5_count 65 = .ok (.getfield 20, 3) := by decide +kernel
theorem dX5_count_68 : decode cX5_count 68 = .ok (.getfield 201, 3) := by decide +kernel
theorem dX5_count_71 : decode cX5_count 71 = .ok (.ireturn, 1) := by decide +kernel
theorem dX5_count_72 : decode cX5_count 72 = .ok (.aload_n 0, 1) := by decide +kernel
theorem dX5_count_73 : decode cX5_count 73 = .ok (.getfield 31, 3) := by decide +kernel
theorem dX5_count_76 : decode cX5_count 76 = .ok (.getfield 89, 3) := by decide +kernel
theorem dX5_count_79 : decode cX5_count 79 = .ok (.invokestatic 92, 3) := by decide +kernel
theorem dX5_count_82 : decode cX5_count 82 = .ok (.ireturn, 1) := by decide +kernel
theorem dX5_count_83 : decode cX5_count 83 = .ok (.aload_n 0, 1) := by decide +kernel
theorem dX5_count_84 : decode cX5_count 84 = .ok (.getfield 31, 3) := by decide +kernel
theorem dX5_count_87 : decode cX5_count 87 = .ok (.getfield 145, 3) := by decide +kernel
theorem dX5_count_90 : decode cX5_count 90 = .ok (.ireturn, 1) := by decide +kernel
theorem dX5_count_91 : decode cX5_count 91 = .ok (.aload_n 0, 1) := by decide +kernel
theorem dX5_count_92 : decode cX5_count 92 = .ok (.getfield 31, 3) := by decide +kernel
theorem dX5_count_95 : decode cX5_count 95 = .ok (.getfield 148, 3) := by decide +kernel
theorem dX5_count_98 : decode cX5_count 98 = .ok (.ireturn, 1) := by decide +kernel
theorem dX5_count_99 : decode cX5_count 99 = .ok (.aload_n 0, 1) := by decide +kernel
theorem dX5_count_100 : decode cX5_count 100 = .ok (.getfield 31, 3) := by decide +kernel
theorem dX5_count_103 : decode cX5_count 103 = .ok (.getfield 119, 3) := by decide +kernel
theorem dX5_count_106 : decode cX5_count 106 = .ok (.invokestatic 122, 3) := by decide +kernel
theorem dX5_count_109 : decode cX5_count 109 = .ok (.ireturn, 1) := by decide +kernel
theorem dX5_count_110 : decode cX5_count 110 = .ok (.aload_n 0, 1) := by decide +kernel
theorem dX5_count_111 : decode cX5_count 111 = .ok (.getfield 31, 3) := by decide +kernel
theorem dX5_count_114 : decode cX5_count 114 = .ok (.getfield 172, 3) := by decide +kernel
theorem dX5_count_117 : decode cX5_count 117 = .ok (.ireturn, 1) := by decide +kernel
theorem dX5_count_118 : decode cX5_count 118 = .ok (.aload_n 0, 1) := by decide +kernel
theorem dX5_count_119 : decode cX5_count 119 = .ok (.getfield 13, 3) := by decide +kernel
theorem dX5_count_122 : decode cX5_count 122 = .ok (.ireturn, 1) := by decide +kernel
theorem dX5_count_123 : decode cX5_count 123 = .ok (.aload_n 0, 1) := by decide +kernel
theorem dX5_count_124 : decode cX5_count 124 = .ok (.getfield 41, 3) := by decide +kernel
theorem dX5_count_127 : decode cX5_count 127 = .ok (.ireturn, 1) := by decide +kernel
theorem dX5_count_128 : decode cX5_count 128 = .ok (.aload_n 0, 1) := by decide +kernel
theorem dX5_count_129 : decode cX5_count 129 = .ok (.getfield 44, 3) := by decide +kernel
theorem dX5_count_132 : decode cX5_count 132 = .ok (.ireturn, 1) := by decide +kernel
theorem dX5_count_133 : decode cX5_count 133 = .ok (.bipush (-102), 2) := by decide +kernel
theorem dX5_count_135 : decode cX5_count 135 = .ok (.ireturn, 1) := by decide +kernel
theorem dX5_digest_0 : decode cX5_digest 0 = .ok (.ldc2_w 204, 3) := by decide +kernel
theorem dX5_digest_3 : decode cX5_digest 3 = .ok (.lstore_n 1, 1) := by decide +kernel
theorem dX5_digest_4 : decode cX5_digest 4 = .ok (.aload_n 0, 1) := by decide +kernel
theorem dX5_digest_5 : decode cX5_digest 5 = .ok (.getfield 24, 3) := by decide +kernel
theorem dX5_digest_8 : decode cX5_digest 8 = .ok (.ifCond .eq 29, 3) := by decide +kernel
theorem dX5_digest_11 : decode cX5_digest 11 = .ok (.aload_n 0, 1) := by decide +kernel
theorem dX5_digest_12 : decode cX5_digest 12 = .ok (.invokevirtual 154, 3) := by decide +kernel
theorem dX5_digest_15 : decode cX5_digest 15 = .ok (.aload_n 0, 1) := by decide +kernel
theorem dX5_digest_16 : decode cX5_digest 16 = .ok (.invokevirtual 178, 3) := by decide +kernel
theorem dX5_digest_19 : decode cX5_digest 19 = .ok (.aload_n 0, 1) := by decide +kernel
theorem dX5_digest_20 : decode cX5_digest 20 = .ok (.lload_n 1, 1) := by decide +kernel
theorem dX5_digest_21 : decode cX5_digest 21 = .ok (.invokevirtual 206, 3) := by decide +kernel
theorem dX5_digest_24 : decode cX5_digest 24 = .ok (.lstore_n 1, 1) := by decide +kernel
theorem dX5_digest_25 : decode cX5_digest 25 = .ok (.aload_n 0, 1) := by decide +kernel
theorem dX5_digest_26 : decode cX5_digest 26 = .ok (.lload_n 1, 1) := by decide +kernel
theorem dX5_digest_27 : decode cX5_digest 27 = .ok (.invokevirtual 210, 3) := by decide +kernel
theorem dX5_digest_30 : decode cX5_digest 30 = .ok (.lstore_n 1, 1) := by decide +kernel
theorem dX5_digest_31 : decode cX5_digest 31 = .ok (.aload_n 0, 1) := by decide +kernel
theorem dX5_digest_32 : decode cX5_digest 32 = .ok (.lload_n 1, 1) := by decide +kernel
theorem dX5_digest_33 : decode cX5_digest 33 = .ok (.invokevirtual 213, 3) := by decide +kernel
theorem dX5_digest_36 : decode cX5_digest 36 = .ok (.lstore_n 1, 1) := by decide +kernel
theorem dX5_digest_37 : decode cX5_digest 37 = .ok (.iconst 0, 1) := by decide +kernel
theorem dX5_digest_38 : decode cX5_digest 38 = .ok (.istore_n 3, 1) := by decide +kernel
theorem dX5_digest_39 : decode cX5_digest 39 = .ok (.iload_n 3, 1) := by decide +kernel
theorem dX5_digest_40 : decode cX5_digest 40 = .ok (.aload_n 0, 1) := by decide +kernel
theorem dX5_digest_41 : decode cX5_digest 41 = .ok (.getfield 13, 3) := by decide +kernel
theorem dX5_digest_44 : decode cX5_digest 44 = .ok (.if_icmp .ge 32, 3) := by decide +kernel
theorem dX5_digest_47 : decode cX5_digest 47 = .ok (.iload_n 3, 1) := by decide +kernel
theorem dX5_digest_48 : decode cX5_digest 48 = .ok (.aload_n 0, 1) := by decide +kernel
theorem dX5_digest_49 : decode cX5_digest 49 = .ok (.getfield 9, 3) := by decide +kernel
theorem dX5_digest_52 : decode cX5_digest 52 = .ok (.arraylength, 1) := by decide +kernel
theorem dX5_digest_53 : decode cX5_digest 53 = .ok (.if_icmp .ge 23, 3) := by decide +kernel
theorem dX5_digest_56 : decode cX5_digest 56 = .ok (.ldc2_w 216, 3) := by decide +kernel
theorem dX5_digest_59 : decode cX5_digest 59 = .ok (.lload_n 1, 1) := by decide +kernel
theorem dX5_digest_60 : decode cX5_digest 60 = .ok (.lmul, 1) := by decide +kernel
theorem dX5_digest_61 : decode cX5_digest 61 = .ok (.aload_n 0, 1) := by decide +kernel
theorem dX5_digest_62 : decode cX5_digest 62 = .ok (.getfield 9, 3) := by decide +kernel
theorem dX5_digest_65 : decode cX5_digest 65 = .ok (.iload_n 3, 1) := by decide +kernel
theorem dX5_digest_66 : decode cX5_digest 66 = .ok (.iaload, 1) := by decide +kernel
theorem dX5_digest_67 : decode cX5_digest 67 = .ok (.i2l, 1) := by decide +kernel
theorem dX5_digest_68 : decode cX5_digest 68 = .ok (.ladd, 1) := by decide +kernel
theorem dX5_digest_69 : decode cX5_digest 69 = .ok (.lstore_n 1, 1) := by decide +kernel
theorem dX5_digest_70 : decode cX5_digest 70 = .ok (.iinc 3 1, 3) := by decide +kernel
theorem dX5_digest_73 : decode cX5_digest 73 = .ok (.goto (-34), 3) := by decide +kernel
theorem dX5_digest_76 : decode cX5_digest 76 = .ok (.iconst 0, 1) := by decide +kernel
theorem dX5_digest_77 : decode cX5_digest 77 = .ok (.istore_n 3, 1) := by decide +kernel
theorem dX5_digest_78 : decode cX5_digest 78 = .ok (.iload_n 3, 1) := by decide +kernel
theorem dX5_digest_79 : decode cX5_digest 79 = .ok (.bipush 9, 2) := by decide +kernel
theorem dX5_digest_81 : decode cX5_digest 81 = .ok (.if_icmp .gt 22, 3) := by decide +kernel
theorem dX5_digest_84 : decode cX5_digest 84 = .ok (.ldc2_w 216, 3) := by decide +kernel
theorem dX5_digest_87 : decode cX5_digest 87 = .ok (.lload_n 1, 1) := by decide +kernel
theorem dX5_digest_88 : decode cX5_digest 88 = .ok (.lmul, 1) := by decide +kernel
theorem dX5_digest_89 : decode cX5_digest 89 = .ok (.aload_n 0, 1) := by decide +kernel
theorem dX5_digest_90 : decode cX5_digest 90 = .ok (.iload_n 3, 1) := by decide +kernel
theorem dX5_digest_91 : decode cX5_digest 91 = .ok (.invokevirtual 218, 3) := by decide +kernel
theorem dX5_digest_94 : decode cX5_digest 94 = .ok (.i2l, 1) := by decide +kernel
theorem dX5_digest_95 : decode cX5_digest 95 = .ok (.ladd, 1) := by decide +kernel
theorem dX5_digest_96 : decode cX5_digest 96 = .ok (.lstore_n 1, 1) := by decide +kernel
theorem dX5_digest_97 : decode cX5_digest 97 = .ok (.iinc 3 1, 3) := by decide +kernel
theorem dX5_digest_100 : decode cX5_digest 100 = .ok (.goto (-22), 3) := by decide +kernel
theorem dX5_digest_103 : decode cX5_digest 103 = .ok (.lload_n 1, 1) := by decide +kernel
theorem dX5_digest_104 : decode cX5_digest 104 = .ok (.lreturn, 1) := by decide +kernel
theorem dX5_withLighter_0 : decode cX5_withLighter 0 = .ok (.lload_n 1, 1) := by decide +kernel
theorem dX5_withLighter_1 : decode cX5_withLighter 1 = .ok (.lstore_n 3, 1) := by decide +kernel
theorem dX5_withLighter_2 : decode cX5_withLighter 2 = .ok (.iconst 0, 1) := by decide +kernel
theorem dX5_withLighter_3 : decode cX5_withLighter 3 = .ok (.istore 5, 2) := by decide +kernel
theorem dX5_withLighter_5 : decode cX5_withLighter 5 = .ok (.iload 5, 2) := by decide +kernel
theorem dX5_withLighter_7 : decode cX5_withLighter 7 = .ok (.iconst 3, 1) := by decide +kernel
theorem dX5_withLighter_8 : decode cX5_withLighter 8 = .ok (.if_icmp .ge 40, 3) := by decide +kernel
theorem dX5_withLighter_11 : decode cX5_withLighter 11 = .ok (.iconst 0, 1) := by decide +kernel
theorem dX5_withLighter_12 : decode cX5_withLighter 12 = .ok (.istore 6, 2) := by decide +kernel
theorem dX5_withLighter_14 : decode cX5_withLighter 14 = .ok (.iload 6, 2) := by decide +kernel
theorem dX5_withLighter_16 : decode cX5_withLighter 16 = .ok (.iconst 4, 1) := by decide +kernel
theorem dX5_withLighter_17 : decode cX5_withLighter 17 = .ok (.if_icmp .gt 25, 3) := by decide +kernel
theorem dX5_withLighter_20 : decode cX5_withLighter 20 = .ok (.ldc2_w 216, 3) := by decide +kernel
theorem dX5_withLighter_23 : decode cX5_withLighter 23 = .ok (.lload_n 3, 1) := by decide +kernel
theorem dX5_withLighter_24 : decode cX5_withLighter 24 = .ok (.lmul, 1) := by decide +kernel
theorem dX5_withLighter_25 : decode cX5_withLighter 25 = .ok (.aload_n 0, 1) := by decide +kernel
theorem dX5_withLighter_26 : decode cX5_withLighter 26 = .ok (.iload 5, 2) := by decide +kernel
theorem dX5_withLighter_28 : decode cX5_withLighter 28 = .ok (.iload 6, 2) := by decide +kernel
theorem dX5_withLighter_30 : decode cX5_withLighter 30 = .ok (.invokevirtual 221, 3) := by decide +kernel
theorem dX5_withLighter_33 : decode cX5_withLighter 33 = .ok (.i2l, 1) := by decide +kernel
theorem dX5_withLighter_34 : decode cX5_withLighter 34 = .ok (.ladd, 1) := by decide +kernel
theorem dX5_withLighter_35 : decode cX5_withLighter 35 = .ok (.lstore_n 3, 1) := by decide +kernel
theorem dX5_withLighter_36 : decode cX5_withLighter 36 = .ok (.iinc 6 1, 3) := by decide +kernel
theorem dX5_withLighter_39 : decode cX5_withLighter 39 = .ok (.goto (-25), 3) := by decide +kernel
theorem dX5_withLighter_42 : decode cX5_withLighter 42 = .ok (.iinc 5 1, 3) := by decide +kernel
theorem dX5_withLighter_45 : decode cX5_withLighter 45 = .ok (.goto (-40), 3) := by decide +kernel
theorem dX5_withLighter_48 : decode cX5_withLighter 48 = .ok (.iconst 0, 1) := by decide +kernel
theorem dX5_withLighter_49 : decode cX5_withLighter 49 = .ok (.istore 5, 2) := by decide +kernel
theorem dX5_withLighter_51 : decode cX5_withLighter 51 = .ok (.iload 5, 2) := by decide +kernel
theorem dX5_withLighter_53 : decode cX5_withLighter 53 = .ok (.iconst 3, 1) := by decide +kernel
theorem dX5_withLighter_54 : decode cX5_withLighter 54 = .ok (.if_icmp .gt 23, 3) := by decide +kernel
theorem dX5_withLighter_57 : decode cX5_withLighter 57 = .ok (.ldc2_w 216, 3) := by decide +kernel
theorem dX5_withLighter_60 : decode cX5_withLighter 60 = .ok (.lload_n 3, 1) := by decide +kernel
theorem dX5_withLighter_61 : decode cX5_withLighter 61 = .ok (.lmul, 1) := by decide +kernel
theorem dX5_withLighter_62 : decode cX5_withLighter 62 = .ok (.aload_n 0, 1) := by decide +kernel
theorem dX5_withLighter_63 : decode cX5_withLighter 63 = .ok (.iload 5, 2) := by decide +kernel
theorem dX5_withLighter_65 : decode cX5_withLighter 65 = .ok (.invokevirtual 224, 3) := by decide +kernel
theorem dX5_withLighter_68 : decode cX5_withLighter 68 = .ok (.i2l, 1) := by decide +kernel
theorem dX5_withLighter_69 : decode cX5_withLighter 69 = .ok (.ladd, 1) := by decide +kernel
theorem dX5_withLighter_70 : decode cX5_withLighter 70 = .ok (.lstore_n 3, 1) := by decide +kernel
theorem dX5_withLighter_71 : decode cX5_withLighter 71 = .ok (.iinc 5 1, 3) := by decide +kernel
theorem dX5_withLighter_74 : decode cX5_withLighter 74 = .ok (.goto (-23), 3) := by decide +kernel
theorem dX5_withLighter_77 : decode cX5_withLighter 77 = .ok (.lload_n 3, 1) := by decide +kernel
theorem dX5_withLighter_78 : decode cX5_withLighter 78 = .ok (.lreturn, 1) := by decide +kernel
theorem dX5_withActs_0 : decode cX5_withActs 0 = .ok (.lload_n 1, 1) := by decide +kernel
theorem dX5_withActs_1 : decode cX5_withActs 1 = .ok (.lstore_n 3, 1) := by decide +kernel
theorem dX5_withActs_2 : decode cX5_withActs 2 = .ok (.getstatic 227, 3) := by decide +kernel
theorem dX5_withActs_5 : decode cX5_withActs 5 = .ok (.astore 5, 2) := by decide +kernel
theorem dX5_withActs_7 : decode cX5_withActs 7 = .ok (.aload 5, 2) := by decide +kernel
theorem dX5_withActs_9 : decode cX5_withActs 9 = .ok (.arraylength, 1) := by decide +kernel
theorem dX5_withActs_10 : decode cX5_withActs 10 = .ok (.istore 6, 2) := by decide +kernel
theorem dX5_withActs_12 : decode cX5_withActs 12 = .ok (.iconst 0, 1) := by decide +kernel
theorem dX5_withActs_13 : decode cX5_withActs 13 = .ok (.istore 7, 2) := by decide +kernel
theorem dX5_withActs_15 : decode cX5_withActs 15 = .ok (.iload 7, 2) := by decide +kernel
theorem dX5_withActs_17 : decode cX5_withActs 17 = .ok (.iload 6, 2) := by decide +kernel
theorem dX5_withActs_19 : decode cX5_withActs 19 = .ok (.if_icmp .ge 30, 3) := by decide +kernel
theorem dX5_withActs_22 : decode cX5_withActs 22 = .ok (.aload 5, 2) := by decide +kernel
theorem dX5_withActs_24 : decode cX5_withActs 24 = .ok (.iload 7, 2) := by decide +kernel
theorem dX5_withActs_26 : decode cX5_withActs 26 = .ok (.iaload, 1) := by decide +kernel
theorem dX5_withActs_27 : decode cX5_withActs 27 = .ok (.istore 8, 2) := by decide +kernel
theorem dX5_withActs_29 : decode cX5_withActs 29 = .ok (.ldc2_w 216, 3) := by decide +kernel
theorem dX5_withActs_32 : decode cX5_withActs 32 = .ok (.lload_n 3, 1) := by decide +kernel
theorem dX5_withActs_33 : decode cX5_withActs 33 = .ok (.lmul, 1) := by decide +kernel
theorem dX5_withActs_34 : decode cX5_withActs 34 = .ok (.aload_n 0, 1) := by decide +kernel
theorem dX5_withActs_35 : decode cX5_withActs 35 = .ok (.iload 8, 2) := by decide +kernel
theorem dX5_withActs_37 : decode cX5_withActs 37 = .ok (.invokevirtual 230, 3) := by decide +kernel
theorem dX5_withActs_40 : decode cX5_withActs 40 = .ok (.i2l, 1) := by decide +kernel
theorem dX5_withActs_41 : decode cX5_withActs 41 = .ok (.ladd, 1) := by decide +kernel
theorem dX5_withActs_42 : decode cX5_withActs 42 = .ok (.lstore_n 3, 1) := by decide +kernel
theorem dX5_withActs_43 : decode cX5_withActs 43 = .ok (.iinc 7 1, 3) := by decide +kernel
theorem dX5_withActs_46 : decode cX5_withActs 46 = .ok (.goto (-31), 3) := by decide +kernel
theorem dX5_withActs_49 : decode cX5_withActs 49 = .ok (.lload_n 3, 1) := by decide +kernel
theorem dX5_withActs_50 : decode cX5_withActs 50 = .ok (.lreturn, 1) := by decide +kernel
theorem dX5_withOutlook_0 : decode cX5_withOutlook 0 = .ok (.lload_n 1, 1) := by decide +kernel
theorem dX5_withOutlook_1 : decode cX5_withOutlook 1 = .ok (.lstore_n 3, 1) := by decide +kernel
theorem dX5_withOutlook_2 : decode cX5_withOutlook 2 = .ok (.ldc2_w 216, 3) := by decide +kernel
theorem dX5_withOutlook_5 : decode cX5_withOutlook 5 = .ok (.lload_n 3, 1) := by decide +kernel
theorem dX5_withOutlook_6 : decode cX5_withOutlook 6 = .ok (.lmul, 1) := by decide +kernel
theorem dX5_withOutlook_7 : decode cX5_withOutlook 7 = .ok (.aload_n 0, 1) := by decide +kernel
theorem dX5_withOutlook_8 : decode cX5_withOutlook 8 = .ok (.getfield 50, 3) := by decide +kernel
theorem dX5_withOutlook_11 : decode cX5_withOutlook 11 = .ok (.getfield 157, 3) := by decide +kernel
theorem dX5_withOutlook_14 : decode cX5_withOutlook 14 = .ok (.iconst 0, 1) := by decide +kernel
theorem dX5_withOutlook_15 : decode cX5_withOutlook 15 = .ok (.iaload, 1) := by decide +kernel
theorem dX5_withOutlook_16 : decode cX5_withOutlook 16 = .ok (.i2l, 1) := by decide +kernel
theorem dX5_withOutlook_17 : decode cX5_withOutlook 17 = .ok (.ladd, 1) := by decide +kernel
theorem dX5_withOutlook_18 : decode cX5_withOutlook 18 = .ok (.lstore_n 3, 1) := by decide +kernel
theorem dX5_withOutlook_19 : decode cX5_withOutlook 19 = .ok (.ldc2_w 216, 3) := by decide +kernel
theorem dX5_withOutlook_22 : decode cX5_withOutlook 22 = .ok (.lload_n 3, 1) := by decide +kernel
theorem dX5_withOutlook_23 : decode cX5_withOutlook 23 = .ok (.lmul, 1) := by decide +kernel
theorem dX5_withOutlook_24 : decode cX5_withOutlook 24 = .ok (.aload_n 0, 1) := by decide +kernel
theorem dX5_withOutlook_25 : decode cX5_withOutlook 25 = .ok (.getfield 50, 3) := by decide +kernel
theorem dX5_withOutlook_28 : decode cX5_withOutlook 28 = .ok (.getfield 159, 3) := by decide +kernel
theorem dX5_withOutlook_31 : decode cX5_withOutlook 31 = .ok (.iconst 0, 1) := by decide +kernel
theorem dX5_withOutlook_32 : decode cX5_withOutlook 32 = .ok (.iaload, 1) := by decide +kernel
theorem dX5_withOutlook_33 : decode cX5_withOutlook 33 = .ok (.i2l, 1) := by decide +kernel
theorem dX5_withOutlook_34 : decode cX5_withOutlook 34 = .ok (.ladd, 1) := by decide +kernel
theorem dX5_withOutlook_35 : decode cX5_withOutlook 35 = .ok (.lstore_n 3, 1) := by decide +kernel
theorem dX5_withOutlook_36 : decode cX5_withOutlook 36 = .ok (.ldc2_w 216, 3) := by decide +kernel
theorem dX5_withOutlook_39 : decode cX5_withOutlook 39 = .ok (.lload_n 3, 1) := by decide +kernel
theorem dX5_withOutlook_40 : decode cX5_withOutlook 40 = .ok (.lmul, 1) := by decide +kernel
theorem dX5_withOutlook_41 : decode cX5_withOutlook 41 = .ok (.aload_n 0, 1) := by decide +kernel
theorem dX5_withOutlook_42 : decode cX5_withOutlook 42 = .ok (.getfield 50, 3) := by decide +kernel
theorem dX5_withOutlook_45 : decode cX5_withOutlook 45 = .ok (.getfield 162, 3) := by decide +kernel
theorem dX5_withOutlook_48 : decode cX5_withOutlook 48 = .ok (.i2l, 1) := by decide +kernel
theorem dX5_withOutlook_49 : decode cX5_withOutlook 49 = .ok (.ladd, 1) := by decide +kernel
theorem dX5_withOutlook_50 : decode cX5_withOutlook 50 = .ok (.lstore_n 3, 1) := by decide +kernel
theorem dX5_withOutlook_51 : decode cX5_withOutlook 51 = .ok (.ldc2_w 216, 3) := by decide +kernel
theorem dX5_withOutlook_54 : decode cX5_withOutlook 54 = .ok (.lload_n 3, 1) := by decide +kernel
theorem dX5_withOutlook_55 : decode cX5_withOutlook 55 = .ok (.lmul, 1) := by decide +kernel
theorem dX5_withOutlook_56 : decode cX5_withOutlook 56 = .ok (.aload_n 0, 1) := by decide +kernel
theorem dX5_withOutlook_57 : decode cX5_withOutlook 57 = .ok (.getfield 50, 3) := by decide +kernel
theorem dX5_withOutlook_60 : decode cX5_withOutlook 60 = .ok (.getfield 165, 3) := by decide +kernel
theorem dX5_withOutlook_63 : decode cX5_withOutlook 63 = .ok (.i2l, 1) := by decide +kernel
theorem dX5_withOutlook_64 : decode cX5_withOutlook 64 = .ok (.ladd, 1) := by decide +kernel
theorem dX5_withOutlook_65 : decode cX5_withOutlook 65 = .ok (.lstore_n 3, 1) := by decide +kernel
theorem dX5_withOutlook_66 : decode cX5_withOutlook 66 = .ok (.ldc2_w 216, 3) := by decide +kernel
theorem dX5_withOutlook_69 : decode cX5_withOutlook 69 = .ok (.lload_n 3, 1) := by decide +kernel
theorem dX5_withOutlook_70 : decode cX5_withOutlook 70 = .ok (.lmul, 1) := by decide +kernel
theorem dX5_withOutlook_71 : decode cX5_withOutlook 71 = .ok (.aload_n 0, 1) := by decide +kernel
theorem dX5_withOutlook_72 : decode cX5_withOutlook 72 = .ok (.getfield 64, 3) := by decide +kernel
theorem dX5_withOutlook_75 : decode cX5_withOutlook 75 = .ok (.getfield 181, 3) := by decide +kernel
theorem dX5_withOutlook_78 : decode cX5_withOutlook 78 = .ok (.i2l, 1) := by decide +kernel
theorem dX5_withOutlook_79 : decode cX5_withOutlook 79 = .ok (.ladd, 1) := by decide +kernel
theorem dX5_withOutlook_80 : decode cX5_withOutlook 80 = .ok (.lstore_n 3, 1) := by decide +kernel
theorem dX5_withOutlook_81 : decode cX5_withOutlook 81 = .ok (.ldc2_w 216, 3) := by decide +kernel
theorem dX5_withOutlook_84 : decode cX5_withOutlook 84 = .ok (.lload_n 3, 1) := by decide +kernel
theorem dX5_withOutlook_85 : decode cX5_withOutlook 85 = .ok (.lmul, 1) := by decide +kernel
theorem dX5_withOutlook_86 : decode cX5_withOutlook 86 = .ok (.aload_n 0, 1) := by decide +kernel
theorem dX5_withOutlook_87 : decode cX5_withOutlook 87 = .ok (.getfield 64, 3) := by decide +kernel
theorem dX5_withOutlook_90 : decode cX5_withOutlook 90 = .ok (.getfield 184, 3) := by decide +kernel
theorem dX5_withOutlook_93 : decode cX5_withOutlook 93 = .ok (.i2l, 1) := by decide +kernel
theorem dX5_withOutlook_94 : decode cX5_withOutlook 94 = .ok (.ladd, 1) := by decide +kernel
theorem dX5_withOutlook_95 : decode cX5_withOutlook 95 = .ok (.lstore_n 3, 1) := by decide +kernel
theorem dX5_withOutlook_96 : decode cX5_withOutlook 96 = .ok (.ldc2_w 216, 3) := by decide +kernel
theorem dX5_withOutlook_99 : decode cX5_withOutlook 99 = .ok (.lload_n 3, 1) := by decide +kernel
theorem dX5_withOutlook_100 : decode cX5_withOutlook 100 = .ok (.lmul, 1) := by decide +kernel
theorem dX5_withOutlook_101 : decode cX5_withOutlook 101 = .ok (.aload_n 0, 1) := by decide +kernel
theorem dX5_withOutlook_102 : decode cX5_withOutlook 102 = .ok (.getfield 64, 3) := by decide +kernel
theorem dX5_withOutlook_105 : decode cX5_withOutlook 105 = .ok (.getfield 187, 3) := by decide +kernel
theorem dX5_withOutlook_108 : decode cX5_withOutlook 108 = .ok (.i2l, 1) := by decide +kernel
theorem dX5_withOutlook_109 : decode cX5_withOutlook 109 = .ok (.ladd, 1) := by decide +kernel
theorem dX5_withOutlook_110 : decode cX5_withOutlook 110 = .ok (.lreturn, 1) := by decide +kernel
theorem dX5_isOfForm_0 : decode cX5_isOfForm 0 = .ok (.iload_n 0, 1) := by decide +kernel
theorem dX5_isOfForm_1 : decode cX5_isOfForm 1 = .ok (.ifCond .lt 12, 3) := by decide +kernel
theorem dX5_isOfForm_4 : decode cX5_isOfForm 4 = .ok (.iload_n 0, 1) := by decide +kernel
theorem dX5_isOfForm_5 : decode cX5_isOfForm 5 = .ok (.ldc 72, 2) := by decide +kernel
theorem dX5_isOfForm_7 : decode cX5_isOfForm 7 = .ok (.invokevirtual 74, 3) := by decide +kernel
theorem dX5_isOfForm_10 : decode cX5_isOfForm 10 = .ok (.if_icmp .lt 5, 3) := by decide +kernel
theorem dX5_isOfForm_13 : decode cX5_isOfForm 13 = .ok (.iconst 0, 1) := by decide +kernel
theorem dX5_isOfForm_14 : decode cX5_isOfForm 14 = .ok (.ireturn, 1) := by decide +kernel
theorem dX5_isOfForm_15 : decode cX5_isOfForm 15 = .ok (.ldc 72, 2) := by decide +kernel
theorem dX5_isOfForm_17 : decode cX5_isOfForm 17 = .ok (.iload_n 0, 1) := by decide +kernel
theorem dX5_isOfForm_18 : decode cX5_isOfForm 18 = .ok (.invokevirtual 233, 3) := by decide +kernel
theorem dX5_isOfForm_21 : decode cX5_isOfForm 21 = .ok (.istore_n 2, 1) := by decide +kernel
theorem dX5_isOfForm_22 : decode cX5_isOfForm 22 = .ok (.iload_n 2, 1) := by decide +kernel
theorem dX5_isOfForm_23 : decode cX5_isOfForm 23 = .ok (.bipush 107, 2) := by decide +kernel
theorem dX5_isOfForm_25 : decode cX5_isOfForm 25 = .ok (.if_icmp .ne 19, 3) := by decide +kernel
theorem dX5_isOfForm_28 : decode cX5_isOfForm 28 = .ok (.ldc 117, 2) := by decide +kernel
theorem dX5_isOfForm_30 : decode cX5_isOfForm 30 = .ok (.iload_n 1, 1) := by decide +kernel
theorem dX5_isOfForm_31 : decode cX5_isOfForm 31 = .ok (.i2c, 1) := by decide +kernel
theorem dX5_isOfForm_32 : decode cX5_isOfForm 32 = .ok (.invokevirtual 237, 3) := by decide +kernel
theorem dX5_isOfForm_35 : decode cX5_isOfForm 35 = .ok (.ifCond .lt 7, 3) := by decide +kernel
theorem dX5_isOfForm_38 : decode cX5_isOfForm 38 = .ok (.iconst 1, 1) := by decide +kernel
theorem dX5_isOfForm_39 : decode cX5_isOfForm 39 = .ok (.goto 4, 3) := by decide +kernel
theorem dX5_isOfForm_42 : decode cX5_isOfForm 42 = .ok (.iconst 0, 1) := by decide +kernel
theorem dX5_isOfForm_43 : decode cX5_isOfForm 43 = .ok (.ireturn, 1) := by decide +kernel
theorem dX5_isOfForm_44 : decode cX5_isOfForm 44 = .ok (.iload_n 2, 1) := by decide +kernel
theorem dX5_isOfForm_45 : decode cX5_isOfForm 45 = .ok (.bipush 48, 2) := by decide +kernel
theorem dX5_isOfForm_47 : decode cX5_isOfForm 47 = .ok (.if_icmp .lt 26, 3) := by decide +kernel
theorem dX5_isOfForm_50 : decode cX5_isOfForm 50 = .ok (.iload_n 2, 1) := by decide +kernel
theorem dX5_isOfForm_51 : decode cX5_isOfForm 51 = .ok (.bipush 57, 2) := by decide +kernel
theorem dX5_isOfForm_53 : decode cX5_isOfForm 53 = .ok (.if_icmp .gt 20, 3) := by decide +kernel
theorem dX5_isOfForm_56 : decode cX5_isOfForm 56 = .ok (.iload_n 1, 1) := by decide +kernel
theorem dX5_isOfForm_57 : decode cX5_isOfForm 57 = .ok (.bipush 48, 2) := by decide +kernel
theorem dX5_isOfForm_59 : decode cX5_isOfForm 59 = .ok (.if_icmp .lt 12, 3) := by decide +kernel
theorem dX5_isOfForm_62 : decode cX5_isOfForm 62 = .ok (.iload_n 1, 1) := by decide +kernel
theorem dX5_isOfForm_63 : decode cX5_isOfForm 63 = .ok (.iload_n 2, 1) := by decide +kernel
theorem dX5_isOfForm_64 : decode cX5_isOfForm 64 = .ok (.if_icmp .gt 7, 3) := by decide +kernel
theorem dX5_isOfForm_67 : decode cX5_isOfForm 67 = .ok (.iconst 1, 1) := by decide +kernel
theorem dX5_isOfForm_68 : decode cX5_isOfForm 68 = .ok (.goto 4, 3) := by decide +kernel
theorem dX5_isOfForm_71 : decode cX5_isOfForm 71 = .ok (.iconst 0, 1) := by decide +kernel
theorem dX5_isOfForm_72 : decode cX5_isOfForm 72 = .ok (.ireturn, 1) := by decide +kernel
theorem dX5_isOfForm_73 : decode cX5_isOfForm 73 = .ok (.iload_n 1, 1) := by decide +kernel
theorem dX5_isOfForm_74 : decode cX5_isOfForm 74 = .ok (.iload_n 2, 1) := by decide +kernel
theorem dX5_isOfForm_75 : decode cX5_isOfForm 75 = .ok (.if_icmp .ne 7, 3) := by decide +kernel
theorem dX5_isOfForm_78 : decode cX5_isOfForm 78 = .ok (.iconst 1, 1) := by decide +kernel
theorem dX5_isOfForm_79 : decode cX5_isOfForm 79 = .ok (.goto 4, 3) := by decide +kernel
theorem dX5_isOfForm_82 : decode cX5_isOfForm 82 = .ok (.iconst 0, 1) := by decide +kernel
theorem dX5_isOfForm_83 : decode cX5_isOfForm 83 = .ok (.ireturn, 1) := by decide +kernel
theorem dX5_readPage_0 : decode cX5_readPage 0 = .ok (.iconst 0, 1) := by decide +kernel
theorem dX5_readPage_1 : decode cX5_readPage 1 = .ok (.istore_n 1, 1) := by decide +kernel
theorem dX5_readPage_2 : decode cX5_readPage 2 = .ok (.iconst 0, 1) := by decide +kernel
theorem dX5_readPage_3 : decode cX5_readPage 3 = .ok (.istore_n 2, 1) := by decide +kernel
theorem dX5_readPage_4 : decode cX5_readPage 4 = .ok (.iload_n 2, 1) := by decide +kernel
theorem dX5_readPage_5 : decode cX5_readPage 5 = .ok (.iconst 3, 1) := by decide +kernel
theorem dX5_readPage_6 : decode cX5_readPage 6 = .ok (.if_icmp .ge 67, 3) := by decide +kernel
theorem dX5_readPage_9 : decode cX5_readPage 9 = .ok (.aload_n 0, 1) := by decide +kernel
theorem dX5_readPage_10 : decode cX5_readPage 10 = .ok (.getfield 20, 3) := by decide +kernel
theorem dX5_readPage_13 : decode cX5_readPage 13 = .ok (.iload_n 2, 1) := by decide +kernel
theorem dX5_readPage_14 : decode cX5_readPage 14 = .ok (.ldc 117, 2) := by decide +kernel
theorem dX5_readPage_16 : decode cX5_readPage 16 = .ok (.aload_n 0, 1) := by decide +kernel
theorem dX5_readPage_17 : decode cX5_readPage 17 = .ok (.getfield 9, 3) := by decide +kernel
theorem dX5_readPage_20 : decode cX5_readPage 20 = .ok (.iconst 4, 1) := by decide +kernel
theorem dX5_readPage_21 : decode cX5_readPage 21 = .ok (.iload_n 2, 1) := by decide +kernel
theorem dX5_readPage_22 : decode cX5_readPage 22 = .ok (.imul, 1) := by decide +kernel
theorem dX5_readPage_23 : decode cX5_readPage 23 = .ok (.invokestatic 103, 3) := by decide +kernel
theorem dX5_readPage_26 : decode cX5_readPage 26 = .ok (.i2c, 1) := by decide +kernel
theorem dX5_readPage_27 : decode cX5_readPage 27 = .ok (.invokevirtual 237, 3) := by decide +kernel
theorem dX5_readPage_30 : decode cX5_readPage 30 = .ok (.invokevirtual 240, 3) := by decide +kernel
theorem dX5_readPage_33 : decode cX5_readPage 33 = .ok (.iload_n 1, 1) := by decide +kernel
theorem dX5_readPage_34 : decode cX5_readPage 34 = .ok (.aload_n 0, 1) := by decide +kernel
theorem dX5_readPage_35 : decode cX5_readPage 35 = .ok (.iconst 4, 1) := by decide +kernel
theorem dX5_readPage_36 : decode cX5_readPage 36 = .ok (.iload_n 2, 1) := by decide +kernel
theorem dX5_readPage_37 : decode cX5_readPage 37 = .ok (.imul, 1) := by decide +kernel
theorem dX5_readPage_38 : decode cX5_readPage 38 = .ok (.iconst 1, 1) := by decide +kernel
theorem dX5_readPage_39 : decode cX5_readPage 39 = .ok (.iadd, 1) := by decide +kernel
theorem dX5_readPage_40 : decode cX5_readPage 40 = .ok (.invokevirtual 244, 3) := by decide +kernel
theorem dX5_readPage_43 : decode cX5_readPage 43 = .ok (.iconst 4, 1) := by decide +kernel
theorem dX5_readPage_44 : decode cX5_readPage 44 = .ok (.iload_n 2, 1) := by decide +kernel
theorem dX5_readPage_45 : decode cX5_readPage 45 = .ok (.imul, 1) := by decide +kernel
theorem dX5_readPage_46 : decode cX5_readPage 46 = .ok (.ishl, 1) := by decide +kernel
theorem dX5_readPage_47 : decode cX5_readPage 47 = .ok (.ior, 1) := by decide +kernel
theorem dX5_readPage_48 : decode cX5_readPage 48 = .ok (.istore_n 1, 1) := by decide +kernel
theorem dX5_readPage_49 : decode cX5_readPage 49 = .ok (.iload_n 1, 1) := by decide +kernel
theorem dX5_readPage_50 : decode cX5_readPage 50 = .ok (.aload_n 0, 1) := by decide +kernel
theorem dX5_readPage_51 : decode cX5_readPage 51 = .ok (.iconst 4, 1) := by decide +kernel
theorem dX5_readPage_52 : decode cX5_readPage 52 = .ok (.iload_n 2, 1) := by decide +kernel
theorem dX5_readPage_53 : decode cX5_readPage 53 = .ok (.imul, 1) := by decide +kernel
theorem dX5_readPage_54 : decode cX5_readPage 54 = .ok (.iconst 2, 1) := by decide +kernel
theorem dX5_readPage_55 : decode cX5_readPage 55 = .ok (.iadd, 1) := by decide +kernel
theorem dX5_readPage_56 : decode cX5_readPage 56 = .ok (.invokevirtual 244, 3) := by decide +kernel
theorem dX5_readPage_59 : decode cX5_readPage 59 = .ok (.iconst 4, 1) := by decide +kernel
theorem dX5_readPage_60 : decode cX5_readPage 60 = .ok (.iload_n 2, 1) := by decide +kernel
theorem dX5_readPage_61 : decode cX5_readPage 61 = .ok (.imul, 1) := by decide +kernel
theorem dX5_readPage_62 : decode cX5_readPage 62 = .ok (.iconst 2, 1) := by decide +kernel
theorem dX5_readPage_63 : decode cX5_readPage 63 = .ok (.iadd, 1) := by decide +kernel
theorem dX5_readPage_64 : decode cX5_readPage 64 = .ok (.ishl, 1) := by decide +kernel
theorem dX5_readPage_65 : decode cX5_readPage 65 = .ok (.ior, 1) := by decide +kernel
theorem dX5_readPage_66 : decode cX5_readPage 66 = .ok (.istore_n 1, 1) := by decide +kernel
theorem dX5_readPage_67 : decode cX5_readPage 67 = .ok (.iinc 2 1, 3) := by decide +kernel
theorem dX5_readPage_70 : decode cX5_readPage 70 = .ok (.goto (-66), 3) := by decide +kernel
theorem dX5_readPage_73 : decode cX5_readPage 73 = .ok (.aload_n 0, 1) := by decide +kernel
theorem dX5_readPage_74 : decode cX5_readPage 74 = .ok (.getfield 20, 3) := by decide +kernel
theorem dX5_readPage_77 : decode cX5_readPage 77 = .ok (.aload_n 0, 1) := by decide +kernel
theorem dX5_readPage_78 : decode cX5_readPage 78 = .ok (.bipush 12, 2) := by decide +kernel
theorem dX5_readPage_80 : decode cX5_readPage 80 = .ok (.invokevirtual 244, 3) := by decide +kernel
theorem dX5_readPage_83 : decode cX5_readPage 83 = .ok (.putfield 198, 3) := by decide +kernel
theorem dX5_readPage_86 : decode cX5_readPage 86 = .ok (.aload_n 0, 1) := by decide +kernel
theorem dX5_readPage_87 : decode cX5_readPage 87 = .ok (.getfield 20, 3) := by decide +kernel
theorem dX5_readPage_90 : decode cX5_readPage 90 = .ok (.aload_n 0, 1) := by decide +kernel
theorem dX5_readPage_91 : decode cX5_readPage 91 = .ok (.bipush 13, 2) := by decide +kernel
theorem dX5_readPage_93 : decode cX5_readPage 93 = .ok (.invokevirtual 244, 3) := by decide +kernel
theorem dX5_readPage_96 : decode cX5_readPage 96 = .ok (.putfield 201, 3) := by decide +kernel
theorem dX5_readPage_99 : decode cX5_readPage 99 = .ok (.iload_n 1, 1) := by decide +kernel
theorem dX5_readPage_100 : decode cX5_readPage 100 = .ok (.ireturn, 1) := by decide +kernel
theorem dX5_digitAt_0 : decode cX5_digitAt 0 = .ok (.aload_n 0, 1) := by decide +kernel
theorem dX5_digitAt_1 : decode cX5_digitAt 1 = .ok (.getfield 9, 3) := by decide +kernel
theorem dX5_digitAt_4 : decode cX5_digitAt 4 = .ok (.iload_n 1, 1) := by decide +kernel
theorem dX5_digitAt_5 : decode cX5_digitAt 5 = .ok (.invokestatic 103, 3) := by decide +kernel
theorem dX5_digitAt_8 : decode cX5_digitAt 8 = .ok (.bipush 48, 2) := by decide +kernel
theorem dX5_digitAt_10 : decode cX5_digitAt 10 = .ok (.isub, 1) := by decide +kernel
theorem dX5_digitAt_11 : decode cX5_digitAt 11 = .ok (.ireturn, 1) := by decide +kernel
theorem dX5_isBay_0 : decode cX5_isBay 0 = .ok (.aload_n 0, 1) := by decide +kernel
theorem dX5_isBay_1 : decode cX5_isBay 1 = .ok (.getfield 24, 3) := by decide +kernel
theorem dX5_isBay_4 : decode cX5_isBay 4 = .ok (.ifCond .eq 16, 3) := by decide +kernel
theorem dX5_isBay_7 : decode cX5_isBay 7 = .ok (.iload_n 1, 1) := by decide +kernel
theorem dX5_isBay_8 : decode cX5_isBay 8 = .ok (.ifCond .lt 12, 3) := by decide +kernel
theorem dX5_isBay_11 : decode cX5_isBay 11 = .ok (.iload_n 1, 1) := by decide +kernel
theorem dX5_isBay_12 : decode cX5_isBay 12 = .ok (.iconst 3, 1) := by decide +kernel
theorem dX5_isBay_13 : decode cX5_isBay 13 = .ok (.if_icmp .ge 7, 3) := by decide +kernel
theorem dX5_isBay_16 : decode cX5_isBay 16 = .ok (.iconst 1, 1) := by decide +kernel
theorem dX5_isBay_17 : decode cX5_isBay 17 = .ok (.goto 4, 3) := by decide +kernel
theorem dX5_isBay_20 : decode cX5_isBay 20 = .ok (.iconst 0, 1) := by decide +kernel
theorem dX5_isBay_21 : decode cX5_isBay 21 = .ok (.ireturn, 1) := by decide +kernel
theorem dX5_bendNow_0 : decode cX5_bendNow 0 = .ok (.aload_n 0, 1) := by decide +kernel
theorem dX5_bendNow_1 : decode cX5_bendNow 1 = .ok (.getfield 31, 3) := by decide +kernel
theorem dX5_bendNow_4 : decode cX5_bendNow 4 = .ok (.getfield 119, 3) := by decide +kernel
theorem dX5_bendNow_7 : decode cX5_bendNow 7 = .ok (.ifCond .eq 15, 3) := by decide +kernel
theorem dX5_bendNow_10 : decode cX5_bendNow 10 = .ok (.aload_n 0, 1) := by decide +kernel
theorem dX5_bendNow_11 : decode cX5_bendNow 11 = .ok (.getfield 20, 3) := by decide +kernel
theorem dX5_bendNow_14 : decode cX5_bendNow 14 = .ok (.getfield 198, 3) := by decide +kernel
theorem dX5_bendNow_17 : decode cX5_bendNow 17 = .ok (.iconst 2, 1) := by decide +kernel
theorem dX5_bendNow_18 : decode cX5_bendNow 18 = .ok (.idiv, 1) := by decide +kernel
theorem dX5_bendNow_19 : decode cX5_bendNow 19 = .ok (.goto 10, 3) := by decide +kernel
theorem dX5_bendNow_22 : decode cX5_bendNow 22 = .ok (.aload_n 0, 1) := by decide +kernel
theorem dX5_bendNow_23 : decode cX5_bendNow 23 = .ok (.getfield 20, 3) := by decide +kernel
theorem dX5_bendNow_26 : decode cX5_bendNow 26 = .ok (.getfield 198, 3) := by decide +kernel
theorem dX5_bendNow_29 : decode cX5_bendNow 29 = .ok (.ireturn, 1) := by decide +kernel
theorem dX5_lookAhead_0 : decode cX5_lookAhead 0 = .ok (.aload_n 0, 1) := by decide +kernel
theorem dX5_lookAhead_1 : decode cX5_lookAhead 1 = .ok (.getfield 50, 3) := by decide +kernel
theorem dX5_lookAhead_4 : decode cX5_lookAhead 4 = .ok (.aload_n 0, 1) := by decide +kernel
theorem dX5_lookAhead_5 : decode cX5_lookAhead 5 = .ok (.getfield 20, 3) := by decide +kernel
theorem dX5_lookAhead_8 : decode cX5_lookAhead 8 = .ok (.aload_n 0, 1) := by decide +kernel
theorem dX5_lookAhead_9 : decode cX5_lookAhead 9 = .ok (.getfield 31, 3) := by decide +kernel
theorem dX5_lookAhead_12 : decode cX5_lookAhead 12 = .ok (.getfield 89, 3) := by decide +kernel
theorem dX5_lookAhead_15 : decode cX5_lookAhead 15 = .ok (.aload_n 0, 1) := by decide +kernel
theorem dX5_lookAhead_16 : decode cX5_lookAhead 16 = .ok (.invokevirtual 132, 3) := by decide +kernel
theorem dX5_lookAhead_19 : decode cX5_lookAhead 19 = .ok (.aload_n 0, 1) := by decide +kernel
theorem dX5_lookAhead_20 : decode cX5_lookAhead 20 = .ok (.getfield 41, 3) := by decide +kernel
theorem dX5_lookAhead_23 : decode cX5_lookAhead 23 = .ok (.invokevirtual 247, 3) := by decide +kernel
theorem dX5_lookAhead_26 : decode cX5_lookAhead 26 = .ok (.return_, 1) := by decide +kernel
theorem dX5_lookBack_0 : decode cX5_lookBack 0 = .ok (.aload_n 0, 1) := by decide +kernel
theorem dX5_lookBack_1 : decode cX5_lookBack 1 = .ok (.getfield 64, 3) := by decide +kernel
theorem dX5_lookBack_4 : decode cX5_lookBack 4 = .ok (.aload_n 0, 1) := by decide +kernel
theorem dX5_lookBack_5 : decode cX5_lookBack 5 = .ok (.getfield 20, 3) := by decide +kernel
theorem dX5_lookBack_8 : decode cX5_lookBack 8 = .ok (.aload_n 0, 1) := by decide +kernel
theorem dX5_lookBack_9 : decode cX5_lookBack 9 = .ok (.getfield 31, 3) := by decide +kernel
theorem dX5_lookBack_12 : decode cX5_lookBack 12 = .ok (.aload_n 0, 1) := by decide +kernel
theorem dX5_lookBack_13 : decode cX5_lookBack 13 = .ok (.invokevirtual 132, 3) := by decide +kernel
theorem dX5_lookBack_16 : decode cX5_lookBack 16 = .ok (.invokevirtual 251, 3) := by decide +kernel
theorem dX5_lookBack_19 : decode cX5_lookBack 19 = .ok (.return_, 1) := by decide +kernel
theorem dX5_at_0 : decode cX5_at 0 = .ok (.iload_n 1, 1) := by decide +kernel
theorem dX5_at_1 : decode cX5_at 1 = .ok (.ifCond .lt 15, 3) := by decide +kernel
theorem dX5_at_4 : decode cX5_at 4 = .ok (.iload_n 1, 1) := by decide +kernel
theorem dX5_at_5 : decode cX5_at 5 = .ok (.aload_n 0, 1) := by decide +kernel
theorem dX5_at_6 : decode cX5_at 6 = .ok (.arraylength, 1) := by decide +kernel
theorem dX5_at_7 : decode cX5_at 7 = .ok (.if_icmp .ge 9, 3) := by decide +kernel
theorem dX5_at_10 : decode cX5_at 10 = .ok (.aload_n 0, 1) := by decide +kernel
theorem dX5_at_11 : decode cX5_at 11 = .ok (.iload_n 1, 1) := by decide +kernel
theorem dX5_at_12 : decode cX5_at 12 = .ok (.iaload, 1) := by decide +kernel
theorem dX5_at_13 : decode cX5_at 13 = .ok (.goto 4, 3) := by decide +kernel
theorem dX5_at_16 : decode cX5_at 16 = .ok (.iconst 0, 1) := by decide +kernel
theorem dX5_at_17 : decode cX5_at 17 = .ok (.ireturn, 1) := by decide +kernel
theorem dX5_asNumber_0 : decode cX5_asNumber 0 = .ok (.iload_n 0, 1) := by decide +kernel
theorem dX5_asNumber_1 : decode cX5_asNumber 1 = .ok (.ifCond .eq 7, 3) := by decide +kernel
theorem dX5_asNumber_4 : decode cX5_asNumber 4 = .ok (.iconst 1, 1) := by decide +kernel
theorem dX5_asNumber_5 : decode cX5_asNumber 5 = .ok (.goto 4, 3) := by decide +kernel
theorem dX5_asNumber_8 : decode cX5_asNumber 8 = .ok (.iconst 0, 1) := by decide +kernel
theorem dX5_asNumber_9 : decode cX5_asNumber 9 = .ok (.ireturn, 1) := by decide +kernel
theorem dX5_nextSeed_0 : decode cX5_nextSeed 0 = .ok (.ldc2_w 255, 3) := by decide +kernel
theorem dX5_nextSeed_3 : decode cX5_nextSeed 3 = .ok (.iload_n 0, 1) := by decide +kernel
theorem dX5_nextSeed_4 : decode cX5_nextSeed 4 = .ok (.i2l, 1) := by decide +kernel
theorem dX5_nextSeed_5 : decode cX5_nextSeed 5 = .ok (.lmul, 1) := by decide +kernel
theorem dX5_nextSeed_6 : decode cX5_nextSeed 6 = .ok (.ldc2_w 257, 3) := by decide +kernel
theorem dX5_nextSeed_9 : decode cX5_nextSeed 9 = .ok (.ladd, 1) := by decide +kernel
theorem dX5_nextSeed_10 : decode cX5_nextSeed 10 = .ok (.ldc2_w 259, 3) := by decide +kernel
theorem dX5_nextSeed_13 : decode cX5_nextSeed 13 = .ok (.lrem, 1) := by decide +kernel
theorem dX5_nextSeed_14 : decode cX5_nextSeed 14 = .ok (.l2i, 1) := by decide +kernel
theorem dX5_nextSeed_15 : decode cX5_nextSeed 15 = .ok (.ireturn, 1) := by decide +kernel
theorem dX5_cellFrom_0 : decode cX5_cellFrom 0 = .ok (.iload_n 0, 1) := by decide +kernel
theorem dX5_cellFrom_1 : decode cX5_cellFrom 1 = .ok (.bipush 6, 2) := by decide +kernel
theorem dX5_cellFrom_3 : decode cX5_cellFrom 3 = .ok (.if_icmp .ge 7, 3) := by decide +kernel
theorem dX5_cellFrom_6 : decode cX5_cellFrom 6 = .ok (.iload_n 0, 1) := by decide +kernel
theorem dX5_cellFrom_7 : decode cX5_cellFrom 7 = .ok (.goto 10, 3) := by decide +kernel
theorem dX5_cellFrom_10 : decode cX5_cellFrom 10 = .ok (.iload_n 0, 1) := by decide +kernel
theorem dX5_cellFrom_11 : decode cX5_cellFrom 11 = .ok (.bipush 6, 2) := by decide +kernel
theorem dX5_cellFrom_13 : decode cX5_cellFrom 13 = .ok (.isub, 1) := by decide +kernel
theorem dX5_cellFrom_14 : decode cX5_cellFrom 14 = .ok (.bipush 6, 2) := by decide +kernel
theorem dX5_cellFrom_16 : decode cX5_cellFrom 16 = .ok (.idiv, 1) := by decide +kernel
theorem dX5_cellFrom_17 : decode cX5_cellFrom 17 = .ok (.ireturn, 1) := by decide +kernel
theorem dX5_cellInto_0 : decode cX5_cellInto 0 = .ok (.iload_n 0, 1) := by decide +kernel
theorem dX5_cellInto_1 : decode cX5_cellInto 1 = .ok (.bipush 6, 2) := by decide +kernel
theorem dX5_cellInto_3 : decode cX5_cellInto 3 = .ok (.if_icmp .ge 7, 3) := by decide +kernel
theorem dX5_cellInto_6 : decode cX5_cellInto 6 = .ok (.iconst (-1), 1) := by decide +kernel
theorem dX5_cellInto_7 : decode cX5_cellInto 7 = .ok (.goto 10, 3) := by decide +kernel
theorem dX5_cellInto_10 : decode cX5_cellInto 10 = .ok (.iload_n 0, 1) := by decide +kernel
theorem dX5_cellInto_11 : decode cX5_cellInto 11 = .ok (.bipush 6, 2) := by decide +kernel
theorem dX5_cellInto_13 : decode cX5_cellInto 13 = .ok (.isub, 1) := by decide +kernel
theorem dX5_cellInto_14 : decode cX5_cellInto 14 = .ok (.bipush 6, 2) := by decide +kernel
theorem dX5_cellInto_16 : decode cX5_cellInto 16 = .ok (.irem, 1) := by decide +kernel
theorem dX5_cellInto_17 : decode cX5_cellInto 17 = .ok (.ireturn, 1) := by decide +kernel
theorem dX5_isAct_0 : decode cX5_isAct 0 = .ok (.iload_n 0, 1) := by decide +kernel
theorem dX5_isAct_1 : decode cX5_isAct 1 = .ok (.ifCond .lt 9, 3) := by decide +kernel
theorem dX5_isAct_4 : decode cX5_isAct 4 = .ok (.iload_n 0, 1) := by decide +kernel
theorem dX5_isAct_5 : decode cX5_isAct 5 = .ok (.bipush 42, 2) := by decide +kernel
theorem dX5_isAct_7 : decode cX5_isAct 7 = .ok (.if_icmp .lt 5, 3) := by decide +kernel
theorem dX5_isAct_10 : decode cX5_isAct 10 = .ok (.iconst 0, 1) := by decide +kernel
theorem dX5_isAct_11 : decode cX5_isAct 11 = .ok (.ireturn, 1) := by decide +kernel
theorem dX5_isAct_12 : decode cX5_isAct 12 = .ok (.iload_n 0, 1) := by decide +kernel
theorem dX5_isAct_13 : decode cX5_isAct 13 = .ok (.bipush 6, 2) := by decide +kernel
theorem dX5_isAct_15 : decode cX5_isAct 15 = .ok (.if_icmp .ge 5, 3) := by decide +kernel
theorem dX5_isAct_18 : decode cX5_isAct 18 = .ok (.iconst 1, 1) := by decide +kernel
theorem dX5_isAct_19 : decode cX5_isAct 19 = .ok (.ireturn, 1) := by decide +kernel
theorem dX5_isAct_20 : decode cX5_isAct 20 = .ok (.iload_n 0, 1) := by decide +kernel
theorem dX5_isAct_21 : decode cX5_isAct 21 = .ok (.invokestatic 261, 3) := by decide +kernel
theorem dX5_isAct_24 : decode cX5_isAct 24 = .ok (.istore_n 1, 1) := by decide +kernel
theorem dX5_isAct_25 : decode cX5_isAct 25 = .ok (.iload_n 0, 1) := by decide +kernel
theorem dX5_isAct_26 : decode cX5_isAct 26 = .ok (.invokestatic 264, 3) := by decide +kernel
theorem dX5_isAct_29 : decode cX5_isAct 29 = .ok (.istore_n 2, 1) := by decide +kernel
theorem dX5_isAct_30 : decode cX5_isAct 30 = .ok (.iload_n 1, 1) := by decide +kernel
theorem dX5_isAct_31 : decode cX5_isAct 31 = .ok (.iconst 2, 1) := by decide +kernel
theorem dX5_isAct_32 : decode cX5_isAct 32 = .ok (.idiv, 1) := by decide +kernel
theorem dX5_isAct_33 : decode cX5_isAct 33 = .ok (.iload_n 2, 1) := by decide +kernel
theorem dX5_isAct_34 : decode cX5_isAct 34 = .ok (.iconst 2, 1) := by decide +kernel
theorem dX5_isAct_35 : decode cX5_isAct 35 = .ok (.idiv, 1) := by decide +kernel
theorem dX5_isAct_36 : decode cX5_isAct 36 = .ok (.isub, 1) := by decide +kernel
theorem dX5_isAct_37 : decode cX5_isAct 37 = .ok (.invokestatic 267, 3) := by decide +kernel
theorem dX5_isAct_40 : decode cX5_isAct 40 = .ok (.istore_n 3, 1) := by decide +kernel
theorem dX5_isAct_41 : decode cX5_isAct 41 = .ok (.iload_n 1, 1) := by decide +kernel
theorem dX5_isAct_42 : decode cX5_isAct 42 = .ok (.iconst 2, 1) := by decide +kernel
theorem dX5_isAct_43 : decode cX5_isAct 43 = .ok (.irem, 1) := by decide +kernel
theorem dX5_isAct_44 : decode cX5_isAct 44 = .ok (.iload_n 2, 1) := by decide +kernel
theorem dX5_isAct_45 : decode cX5_isAct 45 = .ok (.iconst 2, 1) := by decide +kernel
theorem dX5_isAct_46 : decode cX5_isAct 46 = .ok (.irem, 1) := by decide +kernel
theorem dX5_isAct_47 : decode cX5_isAct 47 = .ok (.if_icmp .ne 7, 3) := by decide +kernel
theorem dX5_isAct_50 : decode cX5_isAct 50 = .ok (.iconst 1, 1) := by decide +kernel
theorem dX5_isAct_51 : decode cX5_isAct 51 = .ok (.goto 4, 3) := by decide +kernel
theorem dX5_isAct_54 : decode cX5_isAct 54 = .ok (.iconst 0, 1) := by decide +kernel
theorem dX5_isAct_55 : decode cX5_isAct 55 = .ok (.istore 4, 2) := by decide +kernel
theorem dX5_isAct_57 : decode cX5_isAct 57 = .ok (.iload 4, 2) := by decide +kernel
theorem dX5_isAct_59 : decode cX5_isAct 59 = .ok (.ifCond .eq 16, 3) := by decide +kernel
theorem dX5_isAct_62 : decode cX5_isAct 62 = .ok (.iload_n 3, 1) := by decide +kernel
theorem dX5_isAct_63 : decode cX5_isAct 63 = .ok (.iconst 1, 1) := by decide +kernel
theorem dX5_isAct_64 : decode cX5_isAct 64 = .ok (.if_icmp .ne 7, 3) := by decide +kernel
theorem dX5_isAct_67 : decode cX5_isAct 67 = .ok (.iconst 1, 1) := by decide +kernel
theorem dX5_isAct_68 : decode cX5_isAct 68 = .ok (.goto 16, 3) := by decide +kernel
theorem dX5_isAct_71 : decode cX5_isAct 71 = .ok (.iconst 0, 1) := by decide +kernel
theorem dX5_isAct_72 : decode cX5_isAct 72 = .ok (.goto 12, 3) := by decide +kernel
theorem dX5_isAct_75 : decode cX5_isAct 75 = .ok (.iload_n 3, 1) := by decide +kernel
theorem dX5_isAct_76 : decode cX5_isAct 76 = .ok (.ifCond .ne 7, 3) := by decide +kernel
theorem dX5_isAct_79 : decode cX5_isAct 79 = .ok (.iconst 1, 1) := by decide +kernel
theorem dX5_isAct_80 : decode cX5_isAct 80 = .ok (.goto 4, 3) := by decide +kernel
theorem dX5_isAct_83 : decode cX5_isAct 83 = .ok (.iconst 0, 1) := by decide +kernel
theorem dX5_isAct_84 : decode cX5_isAct 84 = .ok (.ireturn, 1) := by decide +kernel
theorem dX5_tonsAt_0 : decode cX5_tonsAt 0 = .ok (.iload_n 0, 1) := by decide +kernel
theorem dX5_tonsAt_1 : decode cX5_tonsAt 1 = .ok (.iconst 2, 1) := by decide +kernel
theorem dX5_tonsAt_2 : decode cX5_tonsAt 2 = .ok (.iload_n 1, 1) := by decide +kernel
theorem dX5_tonsAt_3 : decode cX5_tonsAt 3 = .ok (.imul, 1) := by decide +kernel
theorem dX5_tonsAt_4 : decode cX5_tonsAt 4 = .ok (.ishr, 1) := by decide +kernel
theorem dX5_tonsAt_5 : decode cX5_tonsAt 5 = .ok (.iconst 3, 1) := by decide +kernel
theorem dX5_tonsAt_6 : decode cX5_tonsAt 6 = .ok (.iand, 1) := by decide +kernel
theorem dX5_tonsAt_7 : decode cX5_tonsAt 7 = .ok (.ireturn, 1) := by decide +kernel
theorem dX5_tonsOf_0 : decode cX5_tonsOf 0 = .ok (.iconst 0, 1) := by decide +kernel
theorem dX5_tonsOf_1 : decode cX5_tonsOf 1 = .ok (.istore_n 1, 1) := by decide +kernel
theorem dX5_tonsOf_2 : decode cX5_tonsOf 2 = .ok (.iconst 0, 1) := by decide +kernel
theorem dX5_tonsOf_3 : decode cX5_tonsOf 3 = .ok (.istore_n 2, 1) := by decide +kernel
theorem dX5_tonsOf_4 : decode cX5_tonsOf 4 = .ok (.iload_n 2, 1) := by decide +kernel
theorem dX5_tonsOf_5 : decode cX5_tonsOf 5 = .ok (.bipush 6, 2) := by decide +kernel
theorem dX5_tonsOf_7 : decode cX5_tonsOf 7 = .ok (.if_icmp .ge 17, 3) := by decide +kernel
theorem dX5_tonsOf_10 : decode cX5_tonsOf 10 = .ok (.iload_n 1, 1) := by decide +kernel
theorem dX5_tonsOf_11 : decode cX5_tonsOf 11 = .ok (.iload_n 0, 1) := by decide +kernel
theorem dX5_tonsOf_12 : decode cX5_tonsOf 12 = .ok (.iload_n 2, 1) := by decide +kernel
theorem dX5_tonsOf_13 : decode cX5_tonsOf 13 = .ok (.invokestatic 107, 3) := by decide +kernel
theorem dX5_tonsOf_16 : decode cX5_tonsOf 16 = .ok (.iadd, 1) := by decide +kernel
theorem dX5_tonsOf_17 : decode cX5_tonsOf 17 = .ok (.istore_n 1, 1) := by decide +kernel
theorem dX5_tonsOf_18 : decode cX5_tonsOf 18 = .ok (.iinc 2 1, 3) := by decide +kernel
theorem dX5_tonsOf_21 : decode cX5_tonsOf 21 = .ok (.goto (-17), 3) := by decide +kernel
theorem dX5_tonsOf_24 : decode cX5_tonsOf 24 = .ok (.iload_n 1, 1) := by decide +kernel
theorem dX5_tonsOf_25 : decode cX5_tonsOf 25 = .ok (.ireturn, 1) := by decide +kernel
theorem dX5_bentBy_0 : decode cX5_bentBy 0 = .ok (.iload_n 0, 1) := by decide +kernel
theorem dX5_bentBy_1 : decode cX5_bentBy 1 = .ok (.iconst 3, 1) := by decide +kernel
theorem dX5_bentBy_2 : decode cX5_bentBy 2 = .ok (.iand, 1) := by decide +kernel
theorem dX5_bentBy_3 : decode cX5_bentBy 3 = .ok (.iload_n 0, 1) := by decide +kernel
theorem dX5_bentBy_4 : decode cX5_bentBy 4 = .ok (.iconst 2, 1) := by decide +kernel
theorem dX5_bentBy_5 : decode cX5_bentBy 5 = .ok (.ishr, 1) := by decide +kernel
theorem dX5_bentBy_6 : decode cX5_bentBy 6 = .ok (.iconst 3, 1) := by decide +kernel
theorem dX5_bentBy_7 : decode cX5_bentBy 7 = .ok (.iand, 1) := by decide +kernel
theorem dX5_bentBy_8 : decode cX5_bentBy 8 = .ok (.iadd, 1) := by decide +kernel
theorem dX5_bentBy_9 : decode cX5_bentBy 9 = .ok (.iload_n 0, 1) := by decide +kernel
theorem dX5_bentBy_10 : decode cX5_bentBy 10 = .ok (.bipush 8, 2) := by decide +kernel
theorem dX5_bentBy_12 : decode cX5_bentBy 12 = .ok (.ishr, 1) := by decide +kernel
theorem dX5_bentBy_13 : decode cX5_bentBy 13 = .ok (.iconst 3, 1) := by decide +kernel
theorem dX5_bentBy_14 : decode cX5_bentBy 14 = .ok (.iand, 1) := by decide +kernel
theorem dX5_bentBy_15 : decode cX5_bentBy 15 = .ok (.iadd, 1) := by decide +kernel
theorem dX5_bentBy_16 : decode cX5_bentBy 16 = .ok (.iload_n 0, 1) := by decide +kernel
theorem dX5_bentBy_17 : decode cX5_bentBy 17 = .ok (.bipush 10, 2) := by decide +kernel
theorem dX5_bentBy_19 : decode cX5_bentBy 19 = .ok (.ishr, 1) := by decide +kernel
theorem dX5_bentBy_20 : decode cX5_bentBy 20 = .ok (.iconst 3, 1) := by decide +kernel
theorem dX5_bentBy_21 : decode cX5_bentBy 21 = .ok (.iand, 1) := by decide +kernel
theorem dX5_bentBy_22 : decode cX5_bentBy 22 = .ok (.iadd, 1) := by decide +kernel
theorem dX5_bentBy_23 : decode cX5_bentBy 23 = .ok (.istore_n 1, 1) := by decide +kernel
theorem dX5_bentBy_24 : decode cX5_bentBy 24 = .ok (.iload_n 0, 1) := by decide +kernel
theorem dX5_bentBy_25 : decode cX5_bentBy 25 = .ok (.iconst 4, 1) := by decide +kernel
theorem dX5_bentBy_26 : decode cX5_bentBy 26 = .ok (.ishr, 1) := by decide +kernel
theorem dX5_bentBy_27 : decode cX5_bentBy 27 = .ok (.iconst 3, 1) := by decide +kernel
theorem dX5_bentBy_28 : decode cX5_bentBy 28 = .ok (.iand, 1) := by decide +kernel
theorem dX5_bentBy_29 : decode cX5_bentBy 29 = .ok (.iload_n 0, 1) := by decide +kernel
theorem dX5_bentBy_30 : decode cX5_bentBy 30 = .ok (.bipush 6, 2) := by decide +kernel
theorem dX5_bentBy_32 : decode cX5_bentBy 32 = .ok (.ishr, 1) := by decide +kernel
theorem dX5_bentBy_33 : decode cX5_bentBy 33 = .ok (.iconst 3, 1) := by decide +kernel
theorem dX5_bentBy_34 : decode cX5_bentBy 34 = .ok (.iand, 1) := by decide +kernel
theorem dX5_bentBy_35 : decode cX5_bentBy 35 = .ok (.iadd, 1) := by decide +kernel
theorem dX5_bentBy_36 : decode cX5_bentBy 36 = .ok (.istore_n 2, 1) := by decide +kernel
theorem dX5_bentBy_37 : decode cX5_bentBy 37 = .ok (.iload_n 1, 1) := by decide +kernel
theorem dX5_bentBy_38 : decode cX5_bentBy 38 = .ok (.iconst 2, 1) := by decide +kernel
theorem dX5_bentBy_39 : decode cX5_bentBy 39 = .ok (.iload_n 2, 1) := by decide +kernel
theorem dX5_bentBy_40 : decode cX5_bentBy 40 = .ok (.imul, 1) := by decide +kernel
theorem dX5_bentBy_41 : decode cX5_bentBy 41 = .ok (.isub, 1) := by decide +kernel
theorem dX5_bentBy_42 : decode cX5_bentBy 42 = .ok (.istore_n 3, 1) := by decide +kernel
theorem dX5_bentBy_43 : decode cX5_bentBy 43 = .ok (.iload_n 3, 1) := by decide +kernel
theorem dX5_bentBy_44 : decode cX5_bentBy 44 = .ok (.ifCond .ge 8, 3) := by decide +kernel
theorem dX5_bentBy_47 : decode cX5_bentBy 47 = .ok (.iload_n 3, 1) := by decide +kernel
theorem dX5_bentBy_48 : decode cX5_bentBy 48 = .ok (.ineg, 1) := by decide +kernel
theorem dX5_bentBy_49 : decode cX5_bentBy 49 = .ok (.goto 4, 3) := by decide +kernel
theorem dX5_bentBy_52 : decode cX5_bentBy 52 = .ok (.iload_n 3, 1) := by decide +kernel
theorem dX5_bentBy_53 : decode cX5_bentBy 53 = .ok (.ireturn, 1) := by decide +kernel
theorem dX5_listingBy_0 : decode cX5_listingBy 0 = .ok (.iload_n 0, 1) := by decide +kernel
theorem dX5_listingBy_1 : decode cX5_listingBy 1 = .ok (.iconst 3, 1) := by decide +kernel
theorem dX5_listingBy_2 : decode cX5_listingBy 2 = .ok (.iand, 1) := by decide +kernel
theorem dX5_listingBy_3 : decode cX5_listingBy 3 = .ok (.iload_n 0, 1) := by decide +kernel
theorem dX5_listingBy_4 : decode cX5_listingBy 4 = .ok (.iconst 4, 1) := by decide +kernel
theorem dX5_listingBy_5 : decode cX5_listingBy 5 = .ok (.ishr, 1) := by decide +kernel
theorem dX5_listingBy_6 : decode cX5_listingBy 6 = .ok (.iconst 3, 1) := by decide +kernel
theorem dX5_listingBy_7 : decode cX5_listingBy 7 = .ok (.iand, 1) := by decide +kernel
theorem dX5_listingBy_8 : decode cX5_listingBy 8 = .ok (.iadd, 1) := by decide +kernel
theorem dX5_listingBy_9 : decode cX5_listingBy 9 = .ok (.iload_n 0, 1) := by decide +kernel
theorem dX5_listingBy_10 : decode cX5_listingBy 10 = .ok (.bipush 8, 2) := by decide +kernel
theorem dX5_listingBy_12 : decode cX5_listingBy 12 = .ok (.ishr, 1) := by decide +kernel
theorem dX5_listingBy_13 : decode cX5_listingBy 13 = .ok (.iconst 3, 1) := by decide +kernel
theorem dX5_listingBy_14 : decode cX5_listingBy 14 = .ok (.iand, 1) := by decide +kernel
theorem dX5_listingBy_15 : decode cX5_listingBy 15 = .ok (.iadd, 1) := by decide +kernel
theorem dX5_listingBy_16 : decode cX5_listingBy 16 = .ok (.istore_n 1, 1) := by decide +kernel
theorem dX5_listingBy_17 : decode cX5_listingBy 17 = .ok (.iload_n 0, 1) := by decide +kernel
theorem dX5_listingBy_18 : decode cX5_listingBy 18 = .ok (.iconst 2, 1) := by decide +kernel
theorem dX5_listingBy_19 : decode cX5_listingBy 19 = .ok (.ishr, 1) := by decide +kernel
theorem dX5_listingBy_20 : decode cX5_listingBy 20 = .ok (.iconst 3, 1) := by decide +kernel
theorem dX5_listingBy_21 : decode cX5_listingBy 21 = .ok (.iand, 1) := by decide +kernel
theorem dX5_listingBy_22 : decode cX5_listingBy 22 = .ok (.iload_n 0, 1) := by decide +kernel
theorem dX5_listingBy_23 : decode cX5_listingBy 23 = .ok (.bipush 6, 2) := by decide +kernel
theorem dX5_listingBy_25 : decode cX5_listingBy 25 = .ok (.ishr, 1) := by decide +kernel
theorem dX5_listingBy_26 : decode cX5_listingBy 26 = .ok (.iconst 3, 1) := by decide +kernel
theorem dX5_listingBy_27 : decode cX5_listingBy 27 = .ok (.iand, 1) := by decide +kernel
theorem dX5_listingBy_28 : decode cX5_listingBy 28 = .ok (.iadd, 1) := by decide +kernel
theorem dX5_listingBy_29 : decode cX5_listingBy 29 = .ok (.iload_n 0, 1) := by decide +kernel
theorem dX5_listingBy_30 : decode cX5_listingBy 30 = .ok (.bipush 10, 2) := by decide +kernel
theorem dX5_listingBy_32 : decode cX5_listingBy 32 = .ok (.ishr, 1) := by decide +kernel
theorem dX5_listingBy_33 : decode cX5_listingBy 33 = .ok (.iconst 3, 1) := by decide +kernel
theorem dX5_listingBy_34 : decode cX5_listingBy 34 = .ok (.iand, 1) := by decide +kernel
theorem dX5_listingBy_35 : decode cX5_listingBy 35 = .ok (.iadd, 1) := by decide +kernel
theorem dX5_listingBy_36 : decode cX5_listingBy 36 = .ok (.istore_n 2, 1) := by decide +kernel
theorem dX5_listingBy_37 : decode cX5_listingBy 37 = .ok (.iload_n 1, 1) := by decide +kernel
theorem dX5_listingBy_38 : decode cX5_listingBy 38 = .ok (.iload_n 2, 1) := by decide +kernel
theorem dX5_listingBy_39 : decode cX5_listingBy 39 = .ok (.if_icmp .ge 9, 3) := by decide +kernel
theorem dX5_listingBy_42 : decode cX5_listingBy 42 = .ok (.iload_n 2, 1) := by decide +kernel
theorem dX5_listingBy_43 : decode cX5_listingBy 43 = .ok (.iload_n 1, 1) := by decide +kernel
theorem dX5_listingBy_44 : decode cX5_listingBy 44 = .ok (.isub, 1) := by decide +kernel
theorem dX5_listingBy_45 : decode cX5_listingBy 45 = .ok (.goto 6, 3) := by decide +kernel
theorem dX5_listingBy_48 : decode cX5_listingBy 48 = .ok (.iload_n 1, 1) := by decide +kernel
theorem dX5_listingBy_49 : decode cX5_listingBy 49 = .ok (.iload_n 2, 1) := by decide +kernel
theorem dX5_listingBy_50 : decode cX5_listingBy 50 = .ok (.isub, 1) := by decide +kernel
theorem dX5_listingBy_51 : decode cX5_listingBy 51 = .ok (.ireturn, 1) := by decide +kernel
