theorem dX6_init_0 : decode cX6_init 0 = .ok (.aload_n 0, 1) := by decide +kernel
theorem dX6_init_1 : decode cX6_init 1 = .ok (.invokespecial 1, 3) := by decide +kernel
theorem dX6_init_4 : decode cX6_init 4 = .ok (.aload_n 0, 1) := by decide +kernel
theorem dX6_init_5 : decode cX6_init 5 = .ok (.bipush 16, 2) := by decide +kernel
theorem dX6_init_7 : decode cX6_init 7 = .ok (.newarray .int, 2) := by decide +kernel
theorem dX6_init_9 : decode cX6_init 9 = .ok (.putfield 7, 3) := by decide +kernel
theorem dX6_init_12 : decode cX6_init 12 = .ok (.aload_n 0, 1) := by decide +kernel
theorem dX6_init_13 : decode cX6_init 13 = .ok (.iconst 3, 1) := by decide +kernel
theorem dX6_init_14 : decode cX6_init 14 = .ok (.newarray .int, 2) := by decide +kernel
theorem dX6_init_16 : decode cX6_init 16 = .ok (.putfield 13, 3) := by decide +kernel
theorem dX6_init_19 : decode cX6_init 19 = .ok (.aload_n 0, 1) := by decide +kernel
theorem dX6_init_20 : decode cX6_init 20 = .ok (.sipush 4096, 3) := by decide +kernel
theorem dX6_init_23 : decode cX6_init 23 = .ok (.newarray .int, 2) := by decide +kernel
theorem dX6_init_25 : decode cX6_init 25 = .ok (.putfield 16, 3) := by decide +kernel
theorem dX6_init_28 : decode cX6_init 28 = .ok (.aload_n 0, 1) := by decide +kernel
theorem dX6_init_29 : decode cX6_init 29 = .ok (.sipush 4096, 3) := by decide +kernel
theorem dX6_init_32 : decode cX6_init 32 = .ok (.newarray .int, 2) := by decide +kernel
theorem dX6_init_34 : decode cX6_init 34 = .ok (.putfield 19, 3) := by decide +kernel
theorem dX6_init_37 : decode cX6_init 37 = .ok (.aload_n 0, 1) := by decide +kernel
theorem dX6_init_38 : decode cX6_init 38 = .ok (.sipush 4096, 3) := by decide +kernel
theorem dX6_init_41 : decode cX6_init 41 = .ok (.newarray .int, 2) := by decide +kernel
theorem dX6_init_43 : decode cX6_init 43 = .ok (.putfield 22, 3) := by decide +kernel
theorem dX6_init_46 : decode cX6_init 46 = .ok (.aload_n 0, 1) := by decide +kernel
theorem dX6_init_47 : decode cX6_init 47 = .ok (.sipush 4096, 3) := by decide +kernel
theorem dX6_init_50 : decode cX6_init 50 = .ok (.newarray .boolean, 2) := by decide +kernel
theorem dX6_init_52 : decode cX6_init 52 = .ok (.putfield 25, 3) := by decide +kernel
theorem dX6_init_55 : decode cX6_init 55 = .ok (.aload_n 0, 1) := by decide +kernel
theorem dX6_init_56 : decode cX6_init 56 = .ok (.iconst 4, 1) := by decide +kernel
theorem dX6_init_57 : decode cX6_init 57 = .ok (.newarray .int, 2) := by decide +kernel
theorem dX6_init_59 : decode cX6_init 59 = .ok (.putfield 29, 3) := by decide +kernel
theorem dX6_init_62 : decode cX6_init 62 = .ok (.aload_n 0, 1) := by decide +kernel
theorem dX6_init_63 : decode cX6_init 63 = .ok (.sipush 4096, 3) := by decide +kernel
theorem dX6_init_66 : decode cX6_init 66 = .ok (.newarray .int, 2) := by decide +kernel
theorem dX6_init_68 : decode cX6_init 68 = .ok (.putfield 32, 3) := by decide +kernel
theorem dX6_init_71 : decode cX6_init 71 = .ok (.aload_n 0, 1) := by decide +kernel
theorem dX6_init_72 : decode cX6_init 72 = .ok (.sipush 4096, 3) := by decide +kernel
theorem dX6_init_75 : decode cX6_init 75 = .ok (.newarray .int, 2) := by decide +kernel
theorem dX6_init_77 : decode cX6_init 77 = .ok (.putfield 35, 3) := by decide +kernel
theorem dX6_init_80 : decode cX6_init 80 = .ok (.aload_n 0, 1) := by decide +kernel
theorem dX6_init_81 : decode cX6_init 81 = .ok (.iconst 4, 1) := by decide +kernel
theorem dX6_init_82 : decode cX6_init 82 = .ok (.newarray .int, 2) := by decide +kernel
theorem dX6_init_84 : decode cX6_init 84 = .ok (.putfield 38, 3) := by decide +kernel
theorem dX6_init_87 : decode cX6_init 87 = .ok (.aload_n 0, 1) := by decide +kernel
theorem dX6_init_88 : decode cX6_init 88 = .ok (.iconst (-1), 1) := by decide +kernel
theorem dX6_init_89 : decode cX6_init 89 = .ok (.putfield 41, 3) := by decide +kernel
theorem dX6_init_92 : decode cX6_init 92 = .ok (.return_, 1) := by decide +kernel
theorem dX6_in_0 : decode cX6_in 0 = .ok (.lload_n 0, 1) := by decide +kernel
theorem dX6_in_1 : decode cX6_in 1 = .ok (.lload_n 2, 1) := by decide +kernel
theorem dX6_in_2 : decode cX6_in 2 = .ok (.lcmp, 1) := by decide +kernel
theorem dX6_in_3 : decode cX6_in 3 = .ok (.ifCond .lt 14, 3) := by decide +kernel
theorem dX6_in_6 : decode cX6_in 6 = .ok (.lload_n 0, 1) := by decide +kernel
theorem dX6_in_7 : decode cX6_in 7 = .ok (.lload 4, 2) := by decide +kernel
theorem dX6_in_9 : decode cX6_in 9 = .ok (.lcmp, 1) := by decide +kernel
theorem dX6_in_10 : decode cX6_in 10 = .ok (.ifCond .gt 7, 3) := by decide +kernel
theorem dX6_in_13 : decode cX6_in 13 = .ok (.iconst 1, 1) := by decide +kernel
theorem dX6_in_14 : decode cX6_in 14 = .ok (.goto 4, 3) := by decide +kernel
theorem dX6_in_17 : decode cX6_in 17 = .ok (.iconst 0, 1) := by decide +kernel
theorem dX6_in_18 : decode cX6_in 18 = .ok (.ireturn, 1) := by decide +kernel
theorem dX6_letter_0 : decode cX6_letter 0 = .ok (.iload_n 1, 1) := by decide +kernel
theorem dX6_letter_1 : decode cX6_letter 1 = .ok (.i2l, 1) := by decide +kernel
theorem dX6_letter_2 : decode cX6_letter 2 = .ok (.lconst 1, 1) := by decide +kernel
theorem dX6_letter_3 : decode cX6_letter 3 = .ok (.ldc2_w 45, 3) := by decide +kernel
theorem dX6_letter_6 : decode cX6_letter 6 = .ok (.invokestatic 47, 3) := by decide +kernel
theorem dX6_letter_9 : decode cX6_letter 9 = .ok (.ifCond .ne 6, 3) := by decide +kernel
theorem dX6_letter_12 : decode cX6_letter 12 = .ok (.bipush (-102), 2) := by decide +kernel
theorem dX6_letter_14 : decode cX6_letter 14 = .ok (.ireturn, 1) := by decide +kernel
theorem dX6_letter_15 : decode cX6_letter 15 = .ok (.aload_n 0, 1) := by decide +kernel
theorem dX6_letter_16 : decode cX6_letter 16 = .ok (.getfield 51, 3) := by decide +kernel
theorem dX6_letter_19 : decode cX6_letter 19 = .ok (.bipush 16, 2) := by decide +kernel
theorem dX6_letter_21 : decode cX6_letter 21 = .ok (.if_icmp .ne 6, 3) := by decide +kernel
theorem dX6_letter_24 : decode cX6_letter 24 = .ok (.bipush (-104), 2) := by decide +kernel
theorem dX6_letter_26 : decode cX6_letter 26 = .ok (.ireturn, 1) := by decide +kernel
theorem dX6_letter_27 : decode cX6_letter 27 = .ok (.aload_n 0, 1) := by decide +kernel
theorem dX6_letter_28 : decode cX6_letter 28 = .ok (.getfield 7, 3) := by decide +kernel
theorem dX6_letter_31 : decode cX6_letter 31 = .ok (.aload_n 0, 1) := by decide +kernel
theorem dX6_letter_32 : decode cX6_letter 32 = .ok (.getfield 51, 3) := by decide +kernel
theorem dX6_letter_35 : decode cX6_letter 35 = .ok (.iload_n 1, 1) := by decide +kernel
theorem dX6_letter_36 : decode cX6_letter 36 = .ok (.iastore, 1) := by decide +kernel
theorem dX6_letter_37 : decode cX6_letter 37 = .ok (.aload_n 0, 1) := by decide +kernel
theorem dX6_letter_38 : decode cX6_letter 38 = .ok (.dup, 1) := by decide +kernel
theorem dX6_letter_39 : decode cX6_letter 39 = .ok (.getfield 51, 3) := by decide +kernel
theorem dX6_letter_42 : decode cX6_letter 42 = .ok (.iconst 1, 1) := by decide +kernel
theorem dX6_letter_43 : decode cX6_letter 43 = .ok (.iadd, 1) := by decide +kernel
theorem dX6_letter_44 : decode cX6_letter 44 = .ok (.putfield 51, 3) := by decide +kernel
theorem dX6_letter_47 : decode cX6_letter 47 = .ok (.aload_n 0, 1) := by decide +kernel
theorem dX6_letter_48 : decode cX6_letter 48 = .ok (.getfield 51, 3) := by decide +kernel
theorem dX6_letter_51 : decode cX6_letter 51 = .ok (.ireturn, 1) := by decide +kernel
theorem dX6_blank_0 : decode cX6_blank 0 = .ok (.aload_n 0, 1) := by decide +kernel
theorem dX6_blank_1 : decode cX6_blank 1 = .ok (.getfield 51, 3) := by decide +kernel
theorem dX6_blank_4 : decode cX6_blank 4 = .ok (.istore_n 1, 1) := by decide +kernel
theorem dX6_blank_5 : decode cX6_blank 5 = .ok (.aload_n 0, 1) := by decide +kernel
theorem dX6_blank_6 : decode cX6_blank 6 = .ok (.iconst 0, 1) := by decide +kernel
theorem dX6_blank_7 : decode cX6_blank 7 = .ok (.putfield 51, 3) := by decide +kernel
theorem dX6_blank_10 : decode cX6_blank 10 = .ok (.iload_n 1, 1) := by decide +kernel
theorem dX6_blank_11 : decode cX6_blank 11 = .ok (.ireturn, 1) := by decide +kernel
theorem dX6_kindBy_0 : decode cX6_kindBy 0 = .ok (.iload_n 0, 1) := by decide +kernel
theorem dX6_kindBy_1 : decode cX6_kindBy 1 = .ok (.bipush 98, 2) := by decide +kernel
theorem dX6_kindBy_3 : decode cX6_kindBy 3 = .ok (.if_icmp .ne 7, 3) := by decide +kernel
theorem dX6_kindBy_6 : decode cX6_kindBy 6 = .ok (.iconst 0, 1) := by decide +kernel
theorem dX6_kindBy_7 : decode cX6_kindBy 7 = .ok (.goto 44, 3) := by decide +kernel
theorem dX6_kindBy_10 : decode cX6_kindBy 10 = .ok (.iload_n 0, 1) := by decide +kernel
theorem dX6_kindBy_11 : decode cX6_kindBy 11 = .ok (.bipush 110, 2) := by decide +kernel
theorem dX6_kindBy_13 : decode cX6_kindBy 13 = .ok (.if_icmp .ne 7, 3) := by decide +kernel
theorem dX6_kindBy_16 : decode cX6_kindBy 16 = .ok (.iconst 1, 1) := by decide +kernel
theorem dX6_kindBy_17 : decode cX6_kindBy 17 = .ok (.goto 34, 3) := by decide +kernel
theorem dX6_kindBy_20 : decode cX6_kindBy 20 = .ok (.iload_n 0, 1) := by decide +kernel
theorem dX6_kindBy_21 : decode cX6_kindBy 21 = .ok (.bipush 102, 2) := by decide +kernel
theorem dX6_kindBy_23 : decode cX6_kindBy 23 = .ok (.if_icmp .ne 7, 3) := by decide +kernel
theorem dX6_kindBy_26 : decode cX6_kindBy 26 = .ok (.iconst 2, 1) := by decide +kernel
theorem dX6_kindBy_27 : decode cX6_kindBy 27 = .ok (.goto 24, 3) := by decide +kernel
theorem dX6_kindBy_30 : decode cX6_kindBy 30 = .ok (.iload_n 0, 1) := by decide +kernel
theorem dX6_kindBy_31 : decode cX6_kindBy 31 = .ok (.bipush 104, 2) := by decide +kernel
theorem dX6_kindBy_33 : decode cX6_kindBy 33 = .ok (.if_icmp .ne 7, 3) := by decide +kernel
theorem dX6_kindBy_36 : decode cX6_kindBy 36 = .ok (.iconst 3, 1) := by decide +kernel
theorem dX6_kindBy_37 : decode cX6_kindBy 37 = .ok (.goto 14, 3) := by decide +kernel
theorem dX6_kindBy_40 : decode cX6_kindBy 40 = .ok (.iload_n 0, 1) := by decide +kernel
theorem dX6_kindBy_41 : decode cX6_kindBy 41 = .ok (.bipush 100, 2) := by decide +kernel
theorem dX6_kindBy_43 : decode cX6_kindBy 43 = .ok (.if_icmp .ne 7, 3) := by decide +kernel
theorem dX6_kindBy_46 : decode cX6_kindBy 46 = .ok (.iconst 4, 1) := by decide +kernel
theorem dX6_kindBy_47 : decode cX6_kindBy 47 = .ok (.goto 4, 3) := by decide +kernel
theorem dX6_kindBy_50 : decode cX6_kindBy 50 = .ok (.iconst (-1), 1) := by decide +kernel
theorem dX6_kindBy_51 : decode cX6_kindBy 51 = .ok (.ireturn, 1) := by decide +kernel
theorem dX6_isGood_0 : decode cX6_isGood 0 = .ok (.iload_n 0, 1) := by decide +kernel
theorem dX6_isGood_1 : decode cX6_isGood 1 = .ok (.bipush 10, 2) := by decide +kernel
theorem dX6_isGood_3 : decode cX6_isGood 3 = .ok (.if_icmp .le 50, 3) := by decide +kernel
theorem dX6_isGood_6 : decode cX6_isGood 6 = .ok (.iload_n 0, 1) := by decide +kernel
theorem dX6_isGood_7 : decode cX6_isGood 7 = .ok (.bipush 11, 2) := by decide +kernel
theorem dX6_isGood_9 : decode cX6_isGood 9 = .ok (.if_icmp .ne 17, 3) := by decide +kernel
theorem dX6_isGood_12 : decode cX6_isGood 12 = .ok (.iload_n 1, 1) := by decide +kernel
theorem dX6_isGood_13 : decode cX6_isGood 13 = .ok (.bipush 59, 2) := by decide +kernel
theorem dX6_isGood_15 : decode cX6_isGood 15 = .ok (.if_icmp .ne 7, 3) := by decide +kernel
theorem dX6_isGood_18 : decode cX6_isGood 18 = .ok (.iconst 1, 1) := by decide +kernel
theorem dX6_isGood_19 : decode cX6_isGood 19 = .ok (.goto 33, 3) := by decide +kernel
theorem dX6_isGood_22 : decode cX6_isGood 22 = .ok (.iconst 0, 1) := by decide +kernel
theorem dX6_isGood_23 : decode cX6_isGood 23 = .ok (.goto 29, 3) := by decide +kernel
theorem dX6_isGood_26 : decode cX6_isGood 26 = .ok (.iload_n 0, 1) := by decide +kernel
theorem dX6_isGood_27 : decode cX6_isGood 27 = .ok (.bipush 14, 2) := by decide +kernel
theorem dX6_isGood_29 : decode cX6_isGood 29 = .ok (.if_icmp .ge 22, 3) := by decide +kernel
theorem dX6_isGood_32 : decode cX6_isGood 32 = .ok (.iload_n 1, 1) := by decide +kernel
theorem dX6_isGood_33 : decode cX6_isGood 33 = .ok (.bipush 48, 2) := by decide +kernel
theorem dX6_isGood_35 : decode cX6_isGood 35 = .ok (.isub, 1) := by decide +kernel
theorem dX6_isGood_36 : decode cX6_isGood 36 = .ok (.i2l, 1) := by decide +kernel
theorem dX6_isGood_37 : decode cX6_isGood 37 = .ok (.lconst 0, 1) := by decide +kernel
theorem dX6_isGood_38 : decode cX6_isGood 38 = .ok (.ldc2_w 54, 3) := by decide +kernel
theorem dX6_isGood_41 : decode cX6_isGood 41 = .ok (.invokestatic 47, 3) := by decide +kernel
theorem dX6_isGood_44 : decode cX6_isGood 44 = .ok (.ifCond .eq 7, 3) := by decide +kernel
theorem dX6_isGood_47 : decode cX6_isGood 47 = .ok (.iconst 1, 1) := by decide +kernel
theorem dX6_isGood_48 : decode cX6_isGood 48 = .ok (.goto 4, 3) := by decide +kernel
theorem dX6_isGood_51 : decode cX6_isGood 51 = .ok (.iconst 0, 1) := by decide +kernel
theorem dX6_isGood_52 : decode cX6_isGood 52 = .ok (.ireturn, 1) := by decide +kernel
theorem dX6_isGood_53 : decode cX6_isGood 53 = .ok (.iload_n 0, 1) := by decide +kernel
theorem dX6_isGood_54 : decode cX6_isGood 54 = .ok (.iconst 4, 1) := by decide +kernel
theorem dX6_isGood_55 : decode cX6_isGood 55 = .ok (.irem, 1) := by decide +kernel
theorem dX6_isGood_56 : decode cX6_isGood 56 = .ok (.istore_n 2, 1) := by decide +kernel
theorem dX6_isGood_57 : decode cX6_isGood 57 = .ok (.iload_n 2, 1) := by decide +kernel
theorem dX6_isGood_58 : decode cX6_isGood 58 = .ok (.ifCond .ne 19, 3) := by decide +kernel
theorem dX6_isGood_61 : decode cX6_isGood 61 = .ok (.iload_n 1, 1) := by decide +kernel
theorem dX6_isGood_62 : decode cX6_isGood 62 = .ok (.invokestatic 56, 3) := by decide +kernel
theorem dX6_isGood_65 : decode cX6_isGood 65 = .ok (.iconst (-1), 1) := by decide +kernel
theorem dX6_isGood_66 : decode cX6_isGood 66 = .ok (.if_icmp .eq 7, 3) := by decide +kernel
theorem dX6_isGood_69 : decode cX6_isGood 69 = .ok (.iconst 1, 1) := by decide +kernel
theorem dX6_isGood_70 : decode cX6_isGood 70 = .ok (.goto 38, 3) := by decide +kernel
theorem dX6_isGood_73 : decode cX6_isGood 73 = .ok (.iconst 0, 1) := by decide +kernel
theorem dX6_isGood_74 : decode cX6_isGood 74 = .ok (.goto 34, 3) := by decide +kernel
theorem dX6_isGood_77 : decode cX6_isGood 77 = .ok (.iload_n 2, 1) := by decide +kernel
theorem dX6_isGood_78 : decode cX6_isGood 78 = .ok (.iconst 3, 1) := by decide +kernel
theorem dX6_isGood_79 : decode cX6_isGood 79 = .ok (.if_icmp .ne 17, 3) := by decide +kernel
theorem dX6_isGood_82 : decode cX6_isGood 82 = .ok (.iload_n 1, 1) := by decide +kernel
theorem dX6_isGood_83 : decode cX6_isGood 83 = .ok (.bipush 44, 2) := by decide +kernel
theorem dX6_isGood_85 : decode cX6_isGood 85 = .ok (.if_icmp .ne 7, 3) := by decide +kernel
theorem dX6_isGood_88 : decode cX6_isGood 88 = .ok (.iconst 1, 1) := by decide +kernel
theorem dX6_isGood_89 : decode cX6_isGood 89 = .ok (.goto 19, 3) := by decide +kernel
theorem dX6_isGood_92 : decode cX6_isGood 92 = .ok (.iconst 0, 1) := by decide +kernel
theorem dX6_isGood_93 : decode cX6_isGood 93 = .ok (.goto 15, 3) := by decide +kernel
theorem dX6_isGood_96 : decode cX6_isGood 96 = .ok (.iload_n 1, 1) := by decide +kernel
theorem dX6_isGood_97 : decode cX6_isGood 97 = .ok (.bipush 48, 2) := by decide +kernel
theorem dX6_isGood_99 : decode cX6_isGood 99 = .ok (.isub, 1) := by decide +kernel
theorem dX6_isGood_100 : decode cX6_isGood 100 = .ok (.i2l, 1) := by decide +kernel
theorem dX6_isGood_101 : decode cX6_isGood 101 = .ok (.lconst 0, 1) := by decide +kernel
theorem dX6_isGood_102 : decode cX6_isGood 102 = .ok (.ldc2_w 60, 3) := by decide +kernel
theorem dX6_isGood_105 : decode cX6_isGood 105 = .ok (.invokestatic 47, 3) := by decide +kernel
theorem dX6_isGood_108 : decode cX6_isGood 108 = .ok (.ireturn, 1) := by decide +kernel
theorem dX6_faultOf_0 : decode cX6_faultOf 0 = .ok (.iconst 0, 1) := by decide +kernel
theorem dX6_faultOf_1 : decode cX6_faultOf 1 = .ok (.istore_n 1, 1) := by decide +kernel
theorem dX6_faultOf_2 : decode cX6_faultOf 2 = .ok (.iload_n 1, 1) := by decide +kernel
theorem dX6_faultOf_3 : decode cX6_faultOf 3 = .ok (.aload_n 0, 1) := by decide +kernel
theorem dX6_faultOf_4 : decode cX6_faultOf 4 = .ok (.getfield 51, 3) := by decide +kernel
theorem dX6_faultOf_7 : decode cX6_faultOf 7 = .ok (.if_icmp .ge 22, 3) := by decide +kernel
theorem dX6_faultOf_10 : decode cX6_faultOf 10 = .ok (.iload_n 1, 1) := by decide +kernel
theorem dX6_faultOf_11 : decode cX6_faultOf 11 = .ok (.aload_n 0, 1) := by decide +kernel
theorem dX6_faultOf_12 : decode cX6_faultOf 12 = .ok (.getfield 7, 3) := by decide +kernel
theorem dX6_faultOf_15 : decode cX6_faultOf 15 = .ok (.iload_n 1, 1) := by decide +kernel
theorem dX6_faultOf_16 : decode cX6_faultOf 16 = .ok (.iaload, 1) := by decide +kernel
theorem dX6_faultOf_17 : decode cX6_faultOf 17 = .ok (.invokestatic 62, 3) := by decide +kernel
theorem dX6_faultOf_20 : decode cX6_faultOf 20 = .ok (.ifCond .eq 9, 3) := by decide +kernel
theorem dX6_faultOf_23 : decode cX6_faultOf 23 = .ok (.iinc 1 1, 3) := by decide +kernel
theorem dX6_faultOf_26 : decode cX6_faultOf 26 = .ok (.goto (-24), 3) := by decide +kernel
theorem dX6_faultOf_29 : decode cX6_faultOf 29 = .ok (.iload_n 1, 1) := by decide +kernel
theorem dX6_faultOf_30 : decode cX6_faultOf 30 = .ok (.ireturn, 1) := by decide +kernel
theorem dX6_fault_0 : decode cX6_fault 0 = .ok (.aload_n 0, 1) := by decide +kernel
theorem dX6_fault_1 : decode cX6_fault 1 = .ok (.invokevirtual 66, 3) := by decide +kernel
theorem dX6_fault_4 : decode cX6_fault 4 = .ok (.ireturn, 1) := by decide +kernel
theorem dX6_hold_0 : decode cX6_hold 0 = .ok (.aload_n 0, 1) := by decide +kernel
theorem dX6_hold_1 : decode cX6_hold 1 = .ok (.getfield 51, 3) := by decide +kernel
theorem dX6_hold_4 : decode cX6_hold 4 = .ok (.bipush 14, 2) := by decide +kernel
theorem dX6_hold_6 : decode cX6_hold 6 = .ok (.if_icmp .ne 12, 3) := by decide +kernel
theorem dX6_hold_9 : decode cX6_hold 9 = .ok (.aload_n 0, 1) := by decide +kernel
theorem dX6_hold_10 : decode cX6_hold 10 = .ok (.invokevirtual 66, 3) := by decide +kernel
theorem dX6_hold_13 : decode cX6_hold 13 = .ok (.bipush 14, 2) := by decide +kernel
theorem dX6_hold_15 : decode cX6_hold 15 = .ok (.if_icmp .ge 6, 3) := by decide +kernel
theorem dX6_hold_18 : decode cX6_hold 18 = .ok (.bipush (-103), 2) := by decide +kernel
theorem dX6_hold_20 : decode cX6_hold 20 = .ok (.ireturn, 1) := by decide +kernel
theorem dX6_hold_21 : decode cX6_hold 21 = .ok (.aload_n 0, 1) := by decide +kernel
theorem dX6_hold_22 : decode cX6_hold 22 = .ok (.iconst 0, 1) := by decide +kernel
theorem dX6_hold_23 : decode cX6_hold 23 = .ok (.putfield 70, 3) := by decide +kernel
theorem dX6_hold_26 : decode cX6_hold 26 = .ok (.iconst 2, 1) := by decide +kernel
theorem dX6_hold_27 : decode cX6_hold 27 = .ok (.istore_n 1, 1) := by decide +kernel
theorem dX6_hold_28 : decode cX6_hold 28 = .ok (.iload_n 1, 1) := by decide +kernel
theorem dX6_hold_29 : decode cX6_hold 29 = .ok (.ifCond .lt 74, 3) := by decide +kernel
theorem dX6_hold_32 : decode cX6_hold 32 = .ok (.aload_n 0, 1) := by decide +kernel
theorem dX6_hold_33 : decode cX6_hold 33 = .ok (.getfield 13, 3) := by decide +kernel
theorem dX6_hold_36 : decode cX6_hold 36 = .ok (.iload_n 1, 1) := by decide +kernel
theorem dX6_hold_37 : decode cX6_hold 37 = .ok (.aload_n 0, 1) := by decide +kernel
theorem dX6_hold_38 : decode cX6_hold 38 = .ok (.getfield 7, 3) := by decide +kernel
theorem dX6_hold_41 : decode cX6_hold 41 = .ok (.iconst 4, 1) := by decide +kernel
theorem dX6_hold_42 : decode cX6_hold 42 = .ok (.iload_n 1, 1) := by decide +kernel
theorem dX6_hold_43 : decode cX6_hold 43 = .ok (.imul, 1) := by decide +kernel
theorem dX6_hold_44 : decode cX6_hold 44 = .ok (.iaload, 1) := by decide +kernel
theorem dX6_hold_45 : decode cX6_hold 45 = .ok (.invokestatic 56, 3) := by decide +kernel
theorem dX6_hold_48 : decode cX6_hold 48 = .ok (.iastore, 1) := by decide +kernel
theorem dX6_hold_49 : decode cX6_hold 49 = .ok (.aload_n 0, 1) := by decide +kernel
theorem dX6_hold_50 : decode cX6_hold 50 = .ok (.iconst 4, 1) := by decide +kernel
theorem dX6_hold_51 : decode cX6_hold 51 = .ok (.aload_n 0, 1) := by decide +kernel
theorem dX6_hold_52 : decode cX6_hold 52 = .ok (.getfield 70, 3) := by decide +kernel
theorem dX6_hold_55 : decode cX6_hold 55 = .ok (.imul, 1) := by decide +kernel
theorem dX6_hold_56 : decode cX6_hold 56 = .ok (.aload_n 0, 1) := by decide +kernel
theorem dX6_hold_57 : decode cX6_hold 57 = .ok (.getfield 7, 3) := by decide +kernel
theorem dX6_hold_60 : decode cX6_hold 60 = .ok (.iconst 4, 1) := by decide +kernel
theorem dX6_hold_61 : decode cX6_hold 61 = .ok (.iload_n 1, 1) := by decide +kernel
theorem dX6_hold_62 : decode cX6_hold 62 = .ok (.imul, 1) := by decide +kernel
theorem dX6_hold_63 : decode cX6_hold 63 = .ok (.iconst 2, 1) := by decide +kernel
theorem dX6_hold_64 : decode cX6_hold 64 = .ok (.iadd, 1) := by decide +kernel
theorem dX6_hold_65 : decode cX6_hold 65 = .ok (.iaload, 1) := by decide +kernel
theorem dX6_hold_66 : decode cX6_hold 66 = .ok (.iadd, 1) := by decide +kernel
theorem dX6_hold_67 : decode cX6_hold 67 = .ok (.bipush 48, 2) := by decide +kernel
theorem dX6_hold_69 : decode cX6_hold 69 = .ok (.isub, 1) := by decide +kernel
theorem dX6_hold_70 : decode cX6_hold 70 = .ok (.putfield 70, 3) := by decide +kernel
theorem dX6_hold_73 : decode cX6_hold 73 = .ok (.aload_n 0, 1) := by decide +kernel
theorem dX6_hold_74 : decode cX6_hold 74 = .ok (.iconst 4, 1) := by decide +kernel
theorem dX6_hold_75 : decode cX6_hold 75 = .ok (.aload_n 0, 1) := by decide +kernel
theorem dX6_hold_76 : decode cX6_hold 76 = .ok (.getfield 70, 3) := by decide +kernel
theorem dX6_hold_79 : decode cX6_hold 79 = .ok (.imul, 1) := by decide +kernel
theorem dX6_hold_80 : decode cX6_hold 80 = .ok (.aload_n 0, 1) := by decide +kernel
theorem dX6_hold_81 : decode cX6_hold 81 = .ok (.getfield 7, 3) := by decide +kernel
theorem dX6_hold_84 : decode cX6_hold 84 = .ok (.iconst 4, 1) := by decide +kernel
theorem dX6_hold_85 : decode cX6_hold 85 = .ok (.iload_n 1, 1) := by decide +kernel
theorem dX6_hold_86 : decode cX6_hold 86 = .ok (.imul, 1) := by decide +kernel
theorem dX6_hold_87 : decode cX6_hold 87 = .ok (.iconst 1, 1) := by decide +kernel
theorem dX6_hold_88 : decode cX6_hold 88 = .ok (.iadd, 1) := by decide +kernel
theorem dX6_hold_89 : decode cX6_hold 89 = .ok (.iaload, 1) := by decide +kernel
theorem dX6_hold_90 : decode cX6_hold 90 = .ok (.iadd, 1) := by decide +kernel
theorem dX6_hold_91 : decode cX6_hold 91 = .ok (.bipush 48, 2) := by decide +kernel
theorem dX6_hold_93 : decode cX6_hold 93 = .ok (.isub, 1) := by decide +kernel
theorem dX6_hold_94 : decode cX6_hold 94 = .ok (.putfield 70, 3) := by decide +kernel
theorem dX6_hold_97 : decode cX6_hold 97 = .ok (.iinc 1 (-1), 3) := by decide +kernel
theorem dX6_hold_100 : decode cX6_hold 100 = .ok (.goto (-72), 3) := by decide +kernel
theorem dX6_hold_103 : decode cX6_hold 103 = .ok (.aload_n 0, 1) := by decide +kernel
theorem dX6_hold_104 : decode cX6_hold 104 = .ok (.aload_n 0, 1) := by decide +kernel
theorem dX6_hold_105 : decode cX6_hold 105 = .ok (.getfield 7, 3) := by decide +kernel
theorem dX6_hold_108 : decode cX6_hold 108 = .ok (.bipush 12, 2) := by decide +kernel
theorem dX6_hold_110 : decode cX6_hold 110 = .ok (.iaload, 1) := by decide +kernel
theorem dX6_hold_111 : decode cX6_hold 111 = .ok (.bipush 48, 2) := by decide +kernel
theorem dX6_hold_113 : decode cX6_hold 113 = .ok (.isub, 1) := by decide +kernel
theorem dX6_hold_114 : decode cX6_hold 114 = .ok (.putfield 73, 3) := by decide +kernel
theorem dX6_hold_117 : decode cX6_hold 117 = .ok (.aload_n 0, 1) := by decide +kernel
theorem dX6_hold_118 : decode cX6_hold 118 = .ok (.aload_n 0, 1) := by decide +kernel
theorem dX6_hold_119 : decode cX6_hold 119 = .ok (.getfield 7, 3) := by decide +kernel
theorem dX6_hold_122 : decode cX6_hold 122 = .ok (.bipush 13, 2) := by decide +kernel
theorem dX6_hold_124 : decode cX6_hold 124 = .ok (.iaload, 1) := by decide +kernel
theorem dX6_hold_125 : decode cX6_hold 125 = .ok (.bipush 48, 2) := by decide +kernel
theorem dX6_hold_127 : decode cX6_hold 127 = .ok (.isub, 1) := by decide +kernel
theorem dX6_hold_128 : decode cX6_hold 128 = .ok (.putfield 76, 3) := by decide +kernel
theorem dX6_hold_131 : decode cX6_hold 131 = .ok (.aload_n 0, 1) := by decide +kernel
theorem dX6_hold_132 : decode cX6_hold 132 = .ok (.iconst 0, 1) := by decide +kernel
theorem dX6_hold_133 : decode cX6_hold 133 = .ok (.putfield 79, 3) := by decide +kernel
theorem dX6_hold_136 : decode cX6_hold 136 = .ok (.aload_n 0, 1) := by decide +kernel
theorem dX6_hold_137 : decode cX6_hold 137 = .ok (.iconst 0, 1) := by decide +kernel
theorem dX6_hold_138 : decode cX6_hold 138 = .ok (.putfield 82, 3) := by decide +kernel
theorem dX6_hold_141 : decode cX6_hold 141 = .ok (.aload_n 0, 1) := by decide +kernel
theorem dX6_hold_142 : decode cX6_hold 142 = .ok (.iconst 0, 1) := by decide +kernel
theorem dX6_hold_143 : decode cX6_hold 143 = .ok (.putfield 85, 3) := by decide +kernel
theorem dX6_hold_146 : decode cX6_hold 146 = .ok (.aload_n 0, 1) := by decide +kernel
theorem dX6_hold_147 : decode cX6_hold 147 = .ok (.iconst 0, 1) := by decide +kernel
theorem dX6_hold_148 : decode cX6_hold 148 = .ok (.putfield 88, 3) := by decide +kernel
theorem dX6_hold_151 : decode cX6_hold 151 = .ok (.aload_n 0, 1) := by decide +kernel
theorem dX6_hold_152 : decode cX6_hold 152 = .ok (.iconst 1, 1) := by decide +kernel
theorem dX6_hold_153 : decode cX6_hold 153 = .ok (.putfield 91, 3) := by decide +kernel
theorem dX6_hold_156 : decode cX6_hold 156 = .ok (.aload_n 0, 1) := by decide +kernel
theorem dX6_hold_157 : decode cX6_hold 157 = .ok (.dup, 1) := by decide +kernel
theorem dX6_hold_158 : decode cX6_hold 158 = .ok (.getfield 95, 3) := by decide +kernel
theorem dX6_hold_161 : decode cX6_hold 161 = .ok (.iconst 1, 1) := by decide +kernel
theorem dX6_hold_162 : decode cX6_hold 162 = .ok (.iadd, 1) := by decide +kernel
theorem dX6_hold_163 : decode cX6_hold 163 = .ok (.putfield 95, 3) := by decide +kernel
theorem dX6_hold_166 : decode cX6_hold 166 = .ok (.aload_n 0, 1) := by decide +kernel
theorem dX6_hold_167 : decode cX6_hold 167 = .ok (.iconst 0, 1) := by decide +kernel
theorem dX6_hold_168 : decode cX6_hold 168 = .ok (.putfield 51, 3) := by decide +kernel
theorem dX6_hold_171 : decode cX6_hold 171 = .ok (.aload_n 0, 1) := by decide +kernel
theorem dX6_hold_172 : decode cX6_hold 172 = .ok (.getfield 70, 3) := by decide +kernel
theorem dX6_hold_175 : decode cX6_hold 175 = .ok (.invokestatic 98, 3) := by decide +kernel
theorem dX6_hold_178 : decode cX6_hold 178 = .ok (.ireturn, 1) := by decide +kernel
theorem dX6_at_0 : decode cX6_at 0 = .ok (.iload_n 0, 1) := by decide +kernel
theorem dX6_at_1 : decode cX6_at 1 = .ok (.iconst 2, 1) := by decide +kernel
theorem dX6_at_2 : decode cX6_at 2 = .ok (.iload_n 1, 1) := by decide +kernel
theorem dX6_at_3 : decode cX6_at 3 = .ok (.imul, 1) := by decide +kernel
theorem dX6_at_4 : decode cX6_at 4 = .ok (.ishr, 1) := by decide +kernel
theorem dX6_at_5 : decode cX6_at 5 = .ok (.iconst 3, 1) := by decide +kernel
theorem dX6_at_6 : decode cX6_at 6 = .ok (.iand, 1) := by decide +kernel
theorem dX6_at_7 : decode cX6_at 7 = .ok (.ireturn, 1) := by decide +kernel
theorem dX6_tonsOf_0 : decode cX6_tonsOf 0 = .ok (.iconst 0, 1) := by decide +kernel
theorem dX6_tonsOf_1 : decode cX6_tonsOf 1 = .ok (.istore_n 1, 1) := by decide +kernel
theorem dX6_tonsOf_2 : decode cX6_tonsOf 2 = .ok (.iconst 0, 1) := by decide +kernel
theorem dX6_tonsOf_3 : decode cX6_tonsOf 3 = .ok (.istore_n 2, 1) := by decide +kernel
theorem dX6_tonsOf_4 : decode cX6_tonsOf 4 = .ok (.iload_n 2, 1) := by decide +kernel
theorem dX6_tonsOf_5 : decode cX6_tonsOf 5 = .ok (.bipush 6, 2) := by decide +kernel
theorem dX6_tonsOf_7 : decode cX6_tonsOf 7 = .ok (.if_icmp .ge 17, 3) := by decide +kernel
theorem dX6_tonsOf_10 : decode cX6_tonsOf 10 = .ok (.iload_n 1, 1) := by decide +kernel
theorem dX6_tonsOf_11 : decode cX6_tonsOf 11 = .ok (.iload_n 0, 1) := by decide +kernel
theorem dX6_tonsOf_12 : decode cX6_tonsOf 12 = .ok (.iload_n 2, 1) := by decide +kernel
theorem dX6_tonsOf_13 : decode cX6_tonsOf 13 = .ok (.invokestatic 101, 3) := by decide +kernel
theorem dX6_tonsOf_16 : decode cX6_tonsOf 16 = .ok (.iadd, 1) := by decide +kernel
theorem dX6_tonsOf_17 : decode cX6_tonsOf 17 = .ok (.istore_n 1, 1) := by decide +kernel
theorem dX6_tonsOf_18 : decode cX6_tonsOf 18 = .ok (.iinc 2 1, 3) := by decide +kernel
theorem dX6_tonsOf_21 : decode cX6_tonsOf 21 = .ok (.goto (-17), 3) := by decide +kernel
theorem dX6_tonsOf_24 : decode cX6_tonsOf 24 = .ok (.iload_n 1, 1) := by decide +kernel
theorem dX6_tonsOf_25 : decode cX6_tonsOf 25 = .ok (.ireturn, 1) := by decide +kernel
theorem dX6_unlike_0 : decode cX6_unlike 0 = .ok (.iload_n 0, 1) := by decide +kernel
theorem dX6_unlike_1 : decode cX6_unlike 1 = .ok (.iload_n 1, 1) := by decide +kernel
theorem dX6_unlike_2 : decode cX6_unlike 2 = .ok (.if_icmp .le 9, 3) := by decide +kernel
theorem dX6_unlike_5 : decode cX6_unlike 5 = .ok (.iload_n 0, 1) := by decide +kernel
theorem dX6_unlike_6 : decode cX6_unlike 6 = .ok (.iload_n 1, 1) := by decide +kernel
theorem dX6_unlike_7 : decode cX6_unlike 7 = .ok (.isub, 1) := by decide +kernel
theorem dX6_unlike_8 : decode cX6_unlike 8 = .ok (.goto 6, 3) := by decide +kernel
theorem dX6_unlike_11 : decode cX6_unlike 11 = .ok (.iload_n 1, 1) := by decide +kernel
theorem dX6_unlike_12 : decode cX6_unlike 12 = .ok (.iload_n 0, 1) := by decide +kernel
theorem dX6_unlike_13 : decode cX6_unlike 13 = .ok (.isub, 1) := by decide +kernel
theorem dX6_unlike_14 : decode cX6_unlike 14 = .ok (.ireturn, 1) := by decide +kernel
theorem dX6_bentOf_0 : decode cX6_bentOf 0 = .ok (.iload_n 0, 1) := by decide +kernel
theorem dX6_bentOf_1 : decode cX6_bentOf 1 = .ok (.iconst 0, 1) := by decide +kernel
theorem dX6_bentOf_2 : decode cX6_bentOf 2 = .ok (.invokestatic 101, 3) := by decide +kernel
theorem dX6_bentOf_5 : decode cX6_bentOf 5 = .ok (.iload_n 0, 1) := by decide +kernel
theorem dX6_bentOf_6 : decode cX6_bentOf 6 = .ok (.iconst 1, 1) := by decide +kernel
theorem dX6_bentOf_7 : decode cX6_bentOf 7 = .ok (.invokestatic 101, 3) := by decide +kernel
theorem dX6_bentOf_10 : decode cX6_bentOf 10 = .ok (.iadd, 1) := by decide +kernel
theorem dX6_bentOf_11 : decode cX6_bentOf 11 = .ok (.iload_n 0, 1) := by decide +kernel
theorem dX6_bentOf_12 : decode cX6_bentOf 12 = .ok (.iconst 4, 1) := by decide +kernel
theorem dX6_bentOf_13 : decode cX6_bentOf 13 = .ok (.invokestatic 101, 3) := by decide +kernel
theorem dX6_bentOf_16 : decode cX6_bentOf 16 = .ok (.iadd, 1) := by decide +kernel
theorem dX6_bentOf_17 : decode cX6_bentOf 17 = .ok (.iload_n 0, 1) := by decide +kernel
theorem dX6_bentOf_18 : decode cX6_bentOf 18 = .ok (.iconst 5, 1) := by decide +kernel
theorem dX6_bentOf_19 : decode cX6_bentOf 19 = .ok (.invokestatic 101, 3) := by decide +kernel
theorem dX6_bentOf_22 : decode cX6_bentOf 22 = .ok (.iadd, 1) := by decide +kernel
theorem dX6_bentOf_23 : decode cX6_bentOf 23 = .ok (.iconst 2, 1) := by decide +kernel
theorem dX6_bentOf_24 : decode cX6_bentOf 24 = .ok (.iload_n 0, 1) := by decide +kernel
theorem dX6_bentOf_25 : decode cX6_bentOf 25 = .ok (.iconst 2, 1) := by decide +kernel
theorem dX6_bentOf_26 : decode cX6_bentOf 26 = .ok (.invokestatic 101, 3) := by decide +kernel
theorem dX6_bentOf_29 : decode cX6_bentOf 29 = .ok (.iload_n 0, 1) := by decide +kernel
theorem dX6_bentOf_30 : decode cX6_bentOf 30 = .ok (.iconst 3, 1) := by decide +kernel
theorem dX6_bentOf_31 : decode cX6_bentOf 31 = .ok (.invokestatic 101, 3) := by decide +kernel
theorem dX6_bentOf_34 : decode cX6_bentOf 34 = .ok (.iadd, 1) := by decide +kernel
theorem dX6_bentOf_35 : decode cX6_bentOf 35 = .ok (.imul, 1) := by decide +kernel
theorem dX6_bentOf_36 : decode cX6_bentOf 36 = .ok (.invokestatic 105, 3) := by decide +kernel
theorem dX6_bentOf_39 : decode cX6_bentOf 39 = .ok (.ireturn, 1) := by decide +kernel
theorem dX6_listingOf_0 : decode cX6_listingOf 0 = .ok (.iload_n 0, 1) := by decide +kernel
theorem dX6_listingOf_1 : decode cX6_listingOf 1 = .ok (.iconst 0, 1) := by decide +kernel
theorem dX6_listingOf_2 : decode cX6_listingOf 2 = .ok (.invokestatic 101, 3) := by decide +kernel
theorem dX6_listingOf_5 : decode cX6_listingOf 5 = .ok (.iload_n 0, 1) := by decide +kernel
theorem dX6_listingOf_6 : decode cX6_listingOf 6 = .ok (.iconst 2, 1) := by decide +kernel
theorem dX6_listingOf_7 : decode cX6_listingOf 7 = .ok (.invokestatic 101, 3) := by decide +kernel
theorem dX6_listingOf_10 : decode cX6_listingOf 10 = .ok (.iadd, 1) := by decide +kernel
theorem dX6_listingOf_11 : decode cX6_listingOf 11 = .ok (.iload_n 0, 1) := by decide +kernel
theorem dX6_listingOf_12 : decode cX6_listingOf 12 = .ok (.iconst 4, 1) := by decide +kernel
theorem dX6_listingOf_13 : decode cX6_listingOf 13 = .ok (.invokestatic 101, 3) := by decide +kernel
theorem dX6_listingOf_16 : decode cX6_listingOf 16 = .ok (.iadd, 1) := by decide +kernel
theorem dX6_listingOf_17 : decode cX6_listingOf 17 = .ok (.iload_n 0, 1) := by decide +kernel
theorem dX6_listingOf_18 : decode cX6_listingOf 18 = .ok (.iconst 1, 1) := by decide +kernel
theorem dX6_listingOf_19 : decode cX6_listingOf 19 = .ok (.invokestatic 101, 3) := by decide +kernel
theorem dX6_listingOf_22 : decode cX6_listingOf 22 = .ok (.iload_n 0, 1) := by decide +kernel
theorem dX6_listingOf_23 : decode cX6_listingOf 23 = .ok (.iconst 3, 1) := by decide +kernel
theorem dX6_listingOf_24 : decode cX6_listingOf 24 = .ok (.invokestatic 101, 3) := by decide +kernel
theorem dX6_listingOf_27 : decode cX6_listingOf 27 = .ok (.iadd, 1) := by decide +kernel
theorem dX6_listingOf_28 : decode cX6_listingOf 28 = .ok (.iload_n 0, 1) := by decide +kernel
theorem dX6_listingOf_29 : decode cX6_listingOf 29 = .ok (.iconst 5, 1) := by decide +kernel
theorem dX6_listingOf_30 : decode cX6_listingOf 30 = .ok (.invokestatic 101, 3) := by decide +kernel
theorem dX6_listingOf_33 : decode cX6_listingOf 33 = .ok (.iadd, 1) := by decide +kernel
theorem dX6_listingOf_34 : decode cX6_listingOf 34 = .ok (.invokestatic 105, 3) := by decide +kernel
theorem dX6_listingOf_37 : decode cX6_listingOf 37 = .ok (.ireturn, 1) := by decide +kernel
theorem dX6_bendNow_0 : decode cX6_bendNow 0 = .ok (.aload_n 0, 1) := by decide +kernel
theorem dX6_bendNow_1 : decode cX6_bendNow 1 = .ok (.getfield 85, 3) := by decide +kernel
theorem dX6_bendNow_4 : decode cX6_bendNow 4 = .ok (.iconst 1, 1) := by decide +kernel
theorem dX6_bendNow_5 : decode cX6_bendNow 5 = .ok (.if_icmp .ne 12, 3) := by decide +kernel
theorem dX6_bendNow_8 : decode cX6_bendNow 8 = .ok (.aload_n 0, 1) := by decide +kernel
theorem dX6_bendNow_9 : decode cX6_bendNow 9 = .ok (.getfield 73, 3) := by decide +kernel
theorem dX6_bendNow_12 : decode cX6_bendNow 12 = .ok (.iconst 2, 1) := by decide +kernel
theorem dX6_bendNow_13 : decode cX6_bendNow 13 = .ok (.idiv, 1) := by decide +kernel
theorem dX6_bendNow_14 : decode cX6_bendNow 14 = .ok (.goto 7, 3) := by decide +kernel
theorem dX6_bendNow_17 : decode cX6_bendNow 17 = .ok (.aload_n 0, 1) := by decide +kernel
theorem dX6_bendNow_18 : decode cX6_bendNow 18 = .ok (.getfield 73, 3) := by decide +kernel
theorem dX6_bendNow_21 : decode cX6_bendNow 21 = .ok (.ireturn, 1) := by decide +kernel
theorem dX6_takingOf_0 : decode cX6_takingOf 0 = .ok (.aload_n 0, 1) := by decide +kernel
theorem dX6_takingOf_1 : decode cX6_takingOf 1 = .ok (.getfield 13, 3) := by decide +kernel
theorem dX6_takingOf_4 : decode cX6_takingOf 4 = .ok (.iload_n 1, 1) := by decide +kernel
theorem dX6_takingOf_5 : decode cX6_takingOf 5 = .ok (.iaload, 1) := by decide +kernel
theorem dX6_takingOf_6 : decode cX6_takingOf 6 = .ok (.istore_n 2, 1) := by decide +kernel
theorem dX6_takingOf_7 : decode cX6_takingOf 7 = .ok (.iload_n 2, 1) := by decide +kernel
theorem dX6_takingOf_8 : decode cX6_takingOf 8 = .ok (.iconst 1, 1) := by decide +kernel
theorem dX6_takingOf_9 : decode cX6_takingOf 9 = .ok (.if_icmp .ne 7, 3) := by decide +kernel
theorem dX6_takingOf_12 : decode cX6_takingOf 12 = .ok (.iconst 1, 1) := by decide +kernel
theorem dX6_takingOf_13 : decode cX6_takingOf 13 = .ok (.goto 22, 3) := by decide +kernel
theorem dX6_takingOf_16 : decode cX6_takingOf 16 = .ok (.iload_n 2, 1) := by decide +kernel
theorem dX6_takingOf_17 : decode cX6_takingOf 17 = .ok (.iconst 2, 1) := by decide +kernel
theorem dX6_takingOf_18 : decode cX6_takingOf 18 = .ok (.if_icmp .ne 7, 3) := by decide +kernel
theorem dX6_takingOf_21 : decode cX6_takingOf 21 = .ok (.iconst 3, 1) := by decide +kernel
theorem dX6_takingOf_22 : decode cX6_takingOf 22 = .ok (.goto 13, 3) := by decide +kernel
theorem dX6_takingOf_25 : decode cX6_takingOf 25 = .ok (.iload_n 2, 1) := by decide +kernel
theorem dX6_takingOf_26 : decode cX6_takingOf 26 = .ok (.iconst 4, 1) := by decide +kernel
theorem dX6_takingOf_27 : decode cX6_takingOf 27 = .ok (.if_icmp .ne 7, 3) := by decide +kernel
theorem dX6_takingOf_30 : decode cX6_takingOf 30 = .ok (.iconst 4, 1) := by decide +kernel
theorem dX6_takingOf_31 : decode cX6_takingOf 31 = .ok (.goto 4, 3) := by decide +kernel
theorem dX6_takingOf_34 : decode cX6_takingOf 34 = .ok (.iconst 2, 1) := by decide +kernel
theorem dX6_takingOf_35 : decode cX6_takingOf 35 = .ok (.ireturn, 1) := by decide +kernel
theorem dX6_carryingOf_0 : decode cX6_carryingOf 0 = .ok (.aload_n 0, 1) := by decide +kernel
theorem dX6_carryingOf_1 : decode cX6_carryingOf 1 = .ok (.getfield 13, 3) := by decide +kernel
theorem dX6_carryingOf_4 : decode cX6_carryingOf 4 = .ok (.iload_n 1, 1) := by decide +kernel
theorem dX6_carryingOf_5 : decode cX6_carryingOf 5 = .ok (.iaload, 1) := by decide +kernel
theorem dX6_carryingOf_6 : decode cX6_carryingOf 6 = .ok (.iconst 4, 1) := by decide +kernel
theorem dX6_carryingOf_7 : decode cX6_carryingOf 7 = .ok (.if_icmp .ne 7, 3) := by decide +kernel
theorem dX6_carryingOf_10 : decode cX6_carryingOf 10 = .ok (.iconst 3, 1) := by decide +kernel
theorem dX6_carryingOf_11 : decode cX6_carryingOf 11 = .ok (.goto 4, 3) := by decide +kernel
theorem dX6_carryingOf_14 : decode cX6_carryingOf 14 = .ok (.iconst 2, 1) := by decide +kernel
theorem dX6_carryingOf_15 : decode cX6_carryingOf 15 = .ok (.ireturn, 1) := by decide +kernel
theorem dX6_bay_0 : decode cX6_bay 0 = .ok (.aload_n 0, 1) := by decide +kernel
theorem dX6_bay_1 : decode cX6_bay 1 = .ok (.getfield 91, 3) := by decide +kernel
theorem dX6_bay_4 : decode cX6_bay 4 = .ok (.ifCond .eq 15, 3) := by decide +kernel
theorem dX6_bay_7 : decode cX6_bay 7 = .ok (.iload_n 1, 1) := by decide +kernel
theorem dX6_bay_8 : decode cX6_bay 8 = .ok (.i2l, 1) := by decide +kernel
theorem dX6_bay_9 : decode cX6_bay 9 = .ok (.lconst 0, 1) := by decide +kernel
theorem dX6_bay_10 : decode cX6_bay 10 = .ok (.ldc2_w 108, 3) := by decide +kernel
theorem dX6_bay_13 : decode cX6_bay 13 = .ok (.invokestatic 47, 3) := by decide +kernel
theorem dX6_bay_16 : decode cX6_bay 16 = .ok (.ifCond .ne 6, 3) := by decide +kernel
theorem dX6_bay_19 : decode cX6_bay 19 = .ok (.bipush (-101), 2) := by decide +kernel
theorem dX6_bay_21 : decode cX6_bay 21 = .ok (.ireturn, 1) := by decide +kernel
theorem dX6_bay_22 : decode cX6_bay 22 = .ok (.iload_n 2, 1) := by decide +kernel
theorem dX6_bay_23 : decode cX6_bay 23 = .ok (.tableswitch 67 0 4 #[33, 40, 40, 55, 61], 33) := by decide +kernel
theorem dX6_bay_56 : decode cX6_bay 56 = .ok (.aload_n 0, 1) := by decide +kernel
theorem dX6_bay_57 : decode cX6_bay 57 = .ok (.getfield 13, 3) := by decide +kernel
theorem dX6_bay_60 : decode cX6_bay 60 = .ok (.iload_n 1, 1) := by decide +kernel
theorem dX6_bay_61 : decode cX6_bay 61 = .ok (.iaload, 1) := by decide +kernel
theorem dX6_bay_62 : decode cX6_bay 62 = .ok (.ireturn, 1) := by decide +kernel
theorem dX6_bay_63 : decode cX6_bay 63 = .ok (.aload_n 0, 1) := by decide +kernel
theorem dX6_bay_64 : decode cX6_bay 64 = .ok (.getfield 70, 3) := by decide +kernel
theorem dX6_bay_67 : decode cX6_bay 67 = .ok (.iconst 2, 1) := by decide +kernel
theorem dX6_bay_68 : decode cX6_bay 68 = .ok (.iload_n 1, 1) := by decide +kernel
theorem dX6_bay_69 : decode cX6_bay 69 = .ok (.imul, 1) := by decide +kernel
theorem dX6_bay_70 : decode cX6_bay 70 = .ok (.iload_n 2, 1) := by decide +kernel
theorem dX6_bay_71 : decode cX6_bay 71 = .ok (.iadd, 1) := by decide +kernel
theorem dX6_bay_72 : decode cX6_bay 72 = .ok (.iconst 1, 1) := by decide +kernel
theorem dX6_bay_73 : decode cX6_bay 73 = .ok (.isub, 1) := by decide +kernel
theorem dX6_bay_74 : decode cX6_bay 74 = .ok (.invokestatic 101, 3) := by decide +kernel
theorem dX6_bay_77 : decode cX6_bay 77 = .ok (.ireturn, 1) := by decide +kernel
theorem dX6_bay_78 : decode cX6_bay 78 = .ok (.aload_n 0, 1) := by decide +kernel
theorem dX6_bay_79 : decode cX6_bay 79 = .ok (.iload_n 1, 1) := by decide +kernel
theorem dX6_bay_80 : decode cX6_bay 80 = .ok (.invokevirtual 110, 3) := by decide +kernel
theorem dX6_bay_83 : decode cX6_bay 83 = .ok (.ireturn, 1) := by decide +kernel
theorem dX6_bay_84 : decode cX6_bay 84 = .ok (.aload_n 0, 1) := by decide +kernel
theorem dX6_bay_85 : decode cX6_bay 85 = .ok (.iload_n 1, 1) := by decide +kernel
theorem dX6_bay_86 : decode cX6_bay 86 = .ok (.invokevirtual 113, 3) := by decide +kernel
theorem dX6_bay_89 : decode cX6_bay 89 = .ok (.ireturn, 1) := by decide +kernel
theorem dX6_bay_90 : decode cX6_bay 90 = .ok (.bipush (-102), 2) := by decide +kernel
theorem dX6_bay_92 : decode cX6_bay 92 = .ok (.ireturn, 1) := by decide +kernel
theorem dX6_as_0 : decode cX6_as 0 = .ok (.aload_n 0, 1) := by decide +kernel
theorem dX6_as_1 : decode cX6_as 1 = .ok (.getfield 91, 3) := by decide +kernel
theorem dX6_as_4 : decode cX6_as 4 = .ok (.ifCond .eq 15, 3) := by decide +kernel
theorem dX6_as_7 : decode cX6_as 7 = .ok (.iload_n 1, 1) := by decide +kernel
theorem dX6_as_8 : decode cX6_as 8 = .ok (.i2l, 1) := by decide +kernel
theorem dX6_as_9 : decode cX6_as 9 = .ok (.lconst 0, 1) := by decide +kernel
theorem dX6_as_10 : decode cX6_as 10 = .ok (.ldc2_w 108, 3) := by decide +kernel
theorem dX6_as_13 : decode cX6_as 13 = .ok (.invokestatic 47, 3) := by decide +kernel
theorem dX6_as_16 : decode cX6_as 16 = .ok (.ifCond .ne 6, 3) := by decide +kernel
theorem dX6_as_19 : decode cX6_as 19 = .ok (.bipush (-101), 2) := by decide +kernel
theorem dX6_as_21 : decode cX6_as 21 = .ok (.ireturn, 1) := by decide +kernel
theorem dX6_as_22 : decode cX6_as 22 = .ok (.iload_n 2, 1) := by decide +kernel
theorem dX6_as_23 : decode cX6_as 23 = .ok (.i2l, 1) := by decide +kernel
theorem dX6_as_24 : decode cX6_as 24 = .ok (.lconst 0, 1) := by decide +kernel
theorem dX6_as_25 : decode cX6_as 25 = .ok (.ldc2_w 116, 3) := by decide +kernel
theorem dX6_as_28 : decode cX6_as 28 = .ok (.invokestatic 47, 3) := by decide +kernel
theorem dX6_as_31 : decode cX6_as 31 = .ok (.ifCond .ne 6, 3) := by decide +kernel
theorem dX6_as_34 : decode cX6_as 34 = .ok (.bipush (-102), 2) := by decide +kernel
theorem dX6_as_36 : decode cX6_as 36 = .ok (.ireturn, 1) := by decide +kernel
theorem dX6_as_37 : decode cX6_as 37 = .ok (.iload_n 2, 1) := by decide +kernel
theorem dX6_as_38 : decode cX6_as 38 = .ok (.ifCond .eq 28, 3) := by decide +kernel
theorem dX6_as_41 : decode cX6_as 41 = .ok (.iload_n 2, 1) := by decide +kernel
theorem dX6_as_42 : decode cX6_as 42 = .ok (.aload_n 0, 1) := by decide +kernel
theorem dX6_as_43 : decode cX6_as 43 = .ok (.getfield 13, 3) := by decide +kernel
theorem dX6_as_46 : decode cX6_as 46 = .ok (.iload_n 1, 1) := by decide +kernel
theorem dX6_as_47 : decode cX6_as 47 = .ok (.iaload, 1) := by decide +kernel
theorem dX6_as_48 : decode cX6_as 48 = .ok (.if_icmp .eq 18, 3) := by decide +kernel
theorem dX6_as_51 : decode cX6_as 51 = .ok (.iload_n 2, 1) := by decide +kernel
theorem dX6_as_52 : decode cX6_as 52 = .ok (.iconst 2, 1) := by decide +kernel
theorem dX6_as_53 : decode cX6_as 53 = .ok (.if_icmp .ne 17, 3) := by decide +kernel
theorem dX6_as_56 : decode cX6_as 56 = .ok (.aload_n 0, 1) := by decide +kernel
theorem dX6_as_57 : decode cX6_as 57 = .ok (.getfield 13, 3) := by decide +kernel
theorem dX6_as_60 : decode cX6_as 60 = .ok (.iload_n 1, 1) := by decide +kernel
theorem dX6_as_61 : decode cX6_as 61 = .ok (.iaload, 1) := by decide +kernel
theorem dX6_as_62 : decode cX6_as 62 = .ok (.iconst 4, 1) := by decide +kernel
theorem dX6_as_63 : decode cX6_as 63 = .ok (.if_icmp .ne 7, 3) := by decide +kernel
theorem dX6_as_66 : decode cX6_as 66 = .ok (.iconst 1, 1) := by decide +kernel
theorem dX6_as_67 : decode cX6_as 67 = .ok (.goto 4, 3) := by decide +kernel
theorem dX6_as_70 : decode cX6_as 70 = .ok (.iconst 0, 1) := by decide +kernel
theorem dX6_as_71 : decode cX6_as 71 = .ok (.istore_n 3, 1) := by decide +kernel
theorem dX6_as_72 : decode cX6_as 72 = .ok (.iload_n 3, 1) := by decide +kernel
theorem dX6_as_73 : decode cX6_as 73 = .ok (.ifCond .eq 7, 3) := by decide +kernel
theorem dX6_as_76 : decode cX6_as 76 = .ok (.iload_n 1, 1) := by decide +kernel
theorem dX6_as_77 : decode cX6_as 77 = .ok (.goto 4, 3) := by decide +kernel
theorem dX6_as_80 : decode cX6_as 80 = .ok (.iconst (-1), 1) := by decide +kernel
theorem dX6_as_81 : decode cX6_as 81 = .ok (.ireturn, 1) := by decide +kernel
theorem dX6_ground_0 : decode cX6_ground 0 = .ok (.aload_n 0, 1) := by decide +kernel
theorem dX6_ground_1 : decode cX6_ground 1 = .ok (.getfield 91, 3) := by decide +kernel
theorem dX6_ground_4 : decode cX6_ground 4 = .ok (.ifCond .ne 6, 3) := by decide +kernel
theorem dX6_ground_7 : decode cX6_ground 7 = .ok (.bipush (-103), 2) := by decide +kernel
theorem dX6_ground_9 : decode cX6_ground 9 = .ok (.ireturn, 1) := by decide +kernel
theorem dX6_ground_10 : decode cX6_ground 10 = .ok (.aload_n 0, 1) := by decide +kernel
theorem dX6_ground_11 : decode cX6_ground 11 = .ok (.getfield 85, 3) := by decide +kernel
theorem dX6_ground_14 : decode cX6_ground 14 = .ok (.istore_n 2, 1) := by decide +kernel
theorem dX6_ground_15 : decode cX6_ground 15 = .ok (.aload_n 0, 1) := by decide +kernel
theorem dX6_ground_16 : decode cX6_ground 16 = .ok (.iload_n 1, 1) := by decide +kernel
theorem dX6_ground_17 : decode cX6_ground 17 = .ok (.ifCond .eq 7, 3) := by decide +kernel
theorem dX6_ground_20 : decode cX6_ground 20 = .ok (.iconst 1, 1) := by decide +kernel
theorem dX6_ground_21 : decode cX6_ground 21 = .ok (.goto 4, 3) := by decide +kernel
theorem dX6_ground_24 : decode cX6_ground 24 = .ok (.iconst 0, 1) := by decide +kernel
theorem dX6_ground_25 : decode cX6_ground 25 = .ok (.putfield 85, 3) := by decide +kernel
theorem dX6_ground_28 : decode cX6_ground 28 = .ok (.iload_n 2, 1) := by decide +kernel
theorem dX6_ground_29 : decode cX6_ground 29 = .ok (.ireturn, 1) := by decide +kernel
theorem dX6_bears_0 : decode cX6_bears 0 = .ok (.iload_n 1, 1) := by decide +kernel
theorem dX6_bears_1 : decode cX6_bears 1 = .ok (.invokestatic 118, 3) := by decide +kernel
theorem dX6_bears_4 : decode cX6_bears 4 = .ok (.iload_n 2, 1) := by decide +kernel
theorem dX6_bears_5 : decode cX6_bears 5 = .ok (.if_icmp .gt 18, 3) := by decide +kernel
theorem dX6_bears_8 : decode cX6_bears 8 = .ok (.iload_n 1, 1) := by decide +kernel
theorem dX6_bears_9 : decode cX6_bears 9 = .ok (.invokestatic 121, 3) := by decide +kernel
theorem dX6_bears_12 : decode cX6_bears 12 = .ok (.aload_n 0, 1) := by decide +kernel
theorem dX6_bears_13 : decode cX6_bears 13 = .ok (.getfield 76, 3) := by decide +kernel
theorem dX6_bears_16 : decode cX6_bears 16 = .ok (.if_icmp .gt 7, 3) := by decide +kernel
theorem dX6_bears_19 : decode cX6_bears 19 = .ok (.iconst 1, 1) := by decide +kernel
theorem dX6_bears_20 : decode cX6_bears 20 = .ok (.goto 4, 3) := by decide +kernel
theorem dX6_bears_23 : decode cX6_bears 23 = .ok (.iconst 0, 1) := by decide +kernel
theorem dX6_bears_24 : decode cX6_bears 24 = .ok (.ireturn, 1) := by decide +kernel
theorem dX6_hullOf_0 : decode cX6_hullOf 0 = .ok (.iload_n 1, 1) := by decide +kernel
theorem dX6_hullOf_1 : decode cX6_hullOf 1 = .ok (.ifCond .ne 13, 3) := by decide +kernel
theorem dX6_hullOf_4 : decode cX6_hullOf 4 = .ok (.aload_n 0, 1) := by decide +kernel
theorem dX6_hullOf_5 : decode cX6_hullOf 5 = .ok (.getfield 70, 3) := by decide +kernel
theorem dX6_hullOf_8 : decode cX6_hullOf 8 = .ok (.invokestatic 118, 3) := by decide +kernel
theorem dX6_hullOf_11 : decode cX6_hullOf 11 = .ok (.goto 50, 3) := by decide +kernel
theorem dX6_hullOf_14 : decode cX6_hullOf 14 = .ok (.iload_n 1, 1) := by decide +kernel
theorem dX6_hullOf_15 : decode cX6_hullOf 15 = .ok (.iconst 1, 1) := by decide +kernel
theorem dX6_hullOf_16 : decode cX6_hullOf 16 = .ok (.if_icmp .ne 13, 3) := by decide +kernel
theorem dX6_hullOf_19 : decode cX6_hullOf 19 = .ok (.aload_n 0, 1) := by decide +kernel
theorem dX6_hullOf_20 : decode cX6_hullOf 20 = .ok (.getfield 70, 3) := by decide +kernel
theorem dX6_hullOf_23 : decode cX6_hullOf 23 = .ok (.invokestatic 121, 3) := by decide +kernel
theorem dX6_hullOf_26 : decode cX6_hullOf 26 = .ok (.goto 35, 3) := by decide +kernel
theorem dX6_hullOf_29 : decode cX6_hullOf 29 = .ok (.iload_n 1, 1) := by decide +kernel
theorem dX6_hullOf_30 : decode cX6_hullOf 30 = .ok (.iconst 2, 1) := by decide +kernel
theorem dX6_hullOf_31 : decode cX6_hullOf 31 = .ok (.if_icmp .ne 26, 3) := by decide +kernel
theorem dX6_hullOf_34 : decode cX6_hullOf 34 = .ok (.aload_n 0, 1) := by decide +kernel
theorem dX6_hullOf_35 : decode cX6_hullOf 35 = .ok (.aload_n 0, 1) := by decide +kernel
theorem dX6_hullOf_36 : decode cX6_hullOf 36 = .ok (.getfield 70, 3) := by decide +kernel
theorem dX6_hullOf_39 : decode cX6_hullOf 39 = .ok (.aload_n 0, 1) := by decide +kernel
theorem dX6_hullOf_40 : decode cX6_hullOf 40 = .ok (.invokevirtual 124, 3) := by decide +kernel
theorem dX6_hullOf_43 : decode cX6_hullOf 43 = .ok (.invokevirtual 127, 3) := by decide +kernel
theorem dX6_hullOf_46 : decode cX6_hullOf 46 = .ok (.ifCond .eq 7, 3) := by decide +kernel
theorem dX6_hullOf_49 : decode cX6_hullOf 49 = .ok (.iconst 1, 1) := by decide +kernel
theorem dX6_hullOf_50 : decode cX6_hullOf 50 = .ok (.goto 11, 3) := by decide +kernel
theorem dX6_hullOf_53 : decode cX6_hullOf 53 = .ok (.iconst 0, 1) := by decide +kernel
theorem dX6_hullOf_54 : decode cX6_hullOf 54 = .ok (.goto 7, 3) := by decide +kernel
theorem dX6_hullOf_57 : decode cX6_hullOf 57 = .ok (.aload_n 0, 1) := by decide +kernel
theorem dX6_hullOf_58 : decode cX6_hullOf 58 = .ok (.invokevirtual 124, 3) := by decide +kernel
theorem dX6_hullOf_61 : decode cX6_hullOf 61 = .ok (.ireturn, 1) := by decide +kernel
theorem dX6_hull_0 : decode cX6_hull 0 = .ok (.iload_n 1, 1) := by decide +kernel
theorem dX6_hull_1 : decode cX6_hull 1 = .ok (.i2l, 1) := by decide +kernel
theorem dX6_hull_2 : decode cX6_hull 2 = .ok (.lconst 0, 1) := by decide +kernel
theorem dX6_hull_3 : decode cX6_hull 3 = .ok (.ldc2_w 60, 3) := by decide +kernel
theorem dX6_hull_6 : decode cX6_hull 6 = .ok (.invokestatic 47, 3) := by decide +kernel
theorem dX6_hull_9 : decode cX6_hull 9 = .ok (.ifCond .ne 6, 3) := by decide +kernel
theorem dX6_hull_12 : decode cX6_hull 12 = .ok (.bipush (-102), 2) := by decide +kernel
theorem dX6_hull_14 : decode cX6_hull 14 = .ok (.ireturn, 1) := by decide +kernel
theorem dX6_hull_15 : decode cX6_hull 15 = .ok (.aload_n 0, 1) := by decide +kernel
theorem dX6_hull_16 : decode cX6_hull 16 = .ok (.getfield 91, 3) := by decide +kernel
theorem dX6_hull_19 : decode cX6_hull 19 = .ok (.ifCond .eq 11, 3) := by decide +kernel
theorem dX6_hull_22 : decode cX6_hull 22 = .ok (.aload_n 0, 1) := by decide +kernel
theorem dX6_hull_23 : decode cX6_hull 23 = .ok (.iload_n 1, 1) := by decide +kernel
theorem dX6_hull_24 : decode cX6_hull 24 = .ok (.invokevirtual 130, 3) := by decide +kernel
theorem dX6_hull_27 : decode cX6_hull 27 = .ok (.goto 5, 3) := by decide +kernel
theorem dX6_hull_30 : decode cX6_hull 30 = .ok (.bipush (-103), 2) := by decide +kernel
theorem dX6_hull_32 : decode cX6_hull 32 = .ok (.ireturn, 1) := by decide +kernel
theorem dX6_isAct_0 : decode cX6_isAct 0 = .ok (.iload_n 0, 1) := by decide +kernel
theorem dX6_isAct_1 : decode cX6_isAct 1 = .ok (.i2l, 1) := by decide +kernel
theorem dX6_isAct_2 : decode cX6_isAct 2 = .ok (.lconst 0, 1) := by decide +kernel
theorem dX6_isAct_3 : decode cX6_isAct 3 = .ok (.ldc2_w 133, 3) := by decide +kernel
theorem dX6_isAct_6 : decode cX6_isAct 6 = .ok (.invokestatic 47, 3) := by decide +kernel
theorem dX6_isAct_9 : decode cX6_isAct 9 = .ok (.ifCond .ne 5, 3) := by decide +kernel
theorem dX6_isAct_12 : decode cX6_isAct 12 = .ok (.iconst 0, 1) := by decide +kernel
theorem dX6_isAct_13 : decode cX6_isAct 13 = .ok (.ireturn, 1) := by decide +kernel
theorem dX6_isAct_14 : decode cX6_isAct 14 = .ok (.iload_n 0, 1) := by decide +kernel
theorem dX6_isAct_15 : decode cX6_isAct 15 = .ok (.bipush 6, 2) := by decide +kernel
theorem dX6_isAct_17 : decode cX6_isAct 17 = .ok (.idiv, 1) := by decide +kernel
theorem dX6_isAct_18 : decode cX6_isAct 18 = .ok (.iconst 1, 1) := by decide +kernel
theorem dX6_isAct_19 : decode cX6_isAct 19 = .ok (.isub, 1) := by decide +kernel
theorem dX6_isAct_20 : decode cX6_isAct 20 = .ok (.istore_n 1, 1) := by decide +kernel
theorem dX6_isAct_21 : decode cX6_isAct 21 = .ok (.iload_n 0, 1) := by decide +kernel
theorem dX6_isAct_22 : decode cX6_isAct 22 = .ok (.bipush 6, 2) := by decide +kernel
theorem dX6_isAct_24 : decode cX6_isAct 24 = .ok (.irem, 1) := by decide +kernel
theorem dX6_isAct_25 : decode cX6_isAct 25 = .ok (.istore_n 2, 1) := by decide +kernel
theorem dX6_isAct_26 : decode cX6_isAct 26 = .ok (.iload_n 0, 1) := by decide +kernel
theorem dX6_isAct_27 : decode cX6_isAct 27 = .ok (.bipush 6, 2) := by decide +kernel
theorem dX6_isAct_29 : decode cX6_isAct 29 = .ok (.if_icmp .lt 26, 3) := by decide +kernel
theorem dX6_isAct_32 : decode cX6_isAct 32 = .ok (.iload_n 1, 1) := by decide +kernel
theorem dX6_isAct_33 : decode cX6_isAct 33 = .ok (.iconst 2, 1) := by decide +kernel
theorem dX6_isAct_34 : decode cX6_isAct 34 = .ok (.idiv, 1) := by decide +kernel
theorem dX6_isAct_35 : decode cX6_isAct 35 = .ok (.iload_n 2, 1) := by decide +kernel
theorem dX6_isAct_36 : decode cX6_isAct 36 = .ok (.iconst 2, 1) := by decide +kernel
theorem dX6_isAct_37 : decode cX6_isAct 37 = .ok (.idiv, 1) := by decide +kernel
theorem dX6_isAct_38 : decode cX6_isAct 38 = .ok (.if_icmp .ne 8, 3) := by decide +kernel
theorem dX6_isAct_41 : decode cX6_isAct 41 = .ok (.iload_n 1, 1) := by decide +kernel
theorem dX6_isAct_42 : decode cX6_isAct 42 = .ok (.iload_n 2, 1) := by decide +kernel
theorem dX6_isAct_43 : decode cX6_isAct 43 = .ok (.if_icmp .ne 12, 3) := by decide +kernel
theorem dX6_isAct_46 : decode cX6_isAct 46 = .ok (.iload_n 1, 1) := by decide +kernel
theorem dX6_isAct_47 : decode cX6_isAct 47 = .ok (.iload_n 2, 1) := by decide +kernel
theorem dX6_isAct_48 : decode cX6_isAct 48 = .ok (.invokestatic 105, 3) := by decide +kernel
theorem dX6_isAct_51 : decode cX6_isAct 51 = .ok (.iconst 2, 1) := by decide +kernel
theorem dX6_isAct_52 : decode cX6_isAct 52 = .ok (.if_icmp .ne 7, 3) := by decide +kernel
theorem dX6_isAct_55 : decode cX6_isAct 55 = .ok (.iconst 1, 1) := by decide +kernel
theorem dX6_isAct_56 : decode cX6_isAct 56 = .ok (.goto 4, 3) := by decide +kernel
theorem dX6_isAct_59 : decode cX6_isAct 59 = .ok (.iconst 0, 1) := by decide +kernel
theorem dX6_isAct_60 : decode cX6_isAct 60 = .ok (.ireturn, 1) := by decide +kernel
theorem dX6_behind_0 : decode cX6_behind 0 = .ok (.iload_n 2, 1) := by decide +kernel
theorem dX6_behind_1 : decode cX6_behind 1 = .ok (.bipush 6, 2) := by decide +kernel
theorem dX6_behind_3 : decode cX6_behind 3 = .ok (.if_icmp .ge 7, 3) := by decide +kernel
theorem dX6_behind_6 : decode cX6_behind 6 = .ok (.iload_n 2, 1) := by decide +kernel
theorem dX6_behind_7 : decode cX6_behind 7 = .ok (.goto 9, 3) := by decide +kernel
theorem dX6_behind_10 : decode cX6_behind 10 = .ok (.iload_n 2, 1) := by decide +kernel
theorem dX6_behind_11 : decode cX6_behind 11 = .ok (.bipush 6, 2) := by decide +kernel
theorem dX6_behind_13 : decode cX6_behind 13 = .ok (.idiv, 1) := by decide +kernel
theorem dX6_behind_14 : decode cX6_behind 14 = .ok (.iconst 1, 1) := by decide +kernel
theorem dX6_behind_15 : decode cX6_behind 15 = .ok (.isub, 1) := by decide +kernel
theorem dX6_behind_16 : decode cX6_behind 16 = .ok (.istore_n 3, 1) := by decide +kernel
theorem dX6_behind_17 : decode cX6_behind 17 = .ok (.iload_n 2, 1) := by decide +kernel
theorem dX6_behind_18 : decode cX6_behind 18 = .ok (.bipush 6, 2) := by decide +kernel
theorem dX6_behind_20 : decode cX6_behind 20 = .ok (.if_icmp .ge 7, 3) := by decide +kernel
theorem dX6_behind_23 : decode cX6_behind 23 = .ok (.iconst (-1), 1) := by decide +kernel
theorem dX6_behind_24 : decode cX6_behind 24 = .ok (.goto 7, 3) := by decide +kernel
theorem dX6_behind_27 : decode cX6_behind 27 = .ok (.iload_n 2, 1) := by decide +kernel
theorem dX6_behind_28 : decode cX6_behind 28 = .ok (.bipush 6, 2) := by decide +kernel
theorem dX6_behind_30 : decode cX6_behind 30 = .ok (.irem, 1) := by decide +kernel
theorem dX6_behind_31 : decode cX6_behind 31 = .ok (.istore 4, 2) := by decide +kernel
theorem dX6_behind_33 : decode cX6_behind 33 = .ok (.iload_n 1, 1) := by decide +kernel
theorem dX6_behind_34 : decode cX6_behind 34 = .ok (.iload_n 3, 1) := by decide +kernel
theorem dX6_behind_35 : decode cX6_behind 35 = .ok (.invokestatic 101, 3) := by decide +kernel
theorem dX6_behind_38 : decode cX6_behind 38 = .ok (.ifCond .eq 19, 3) := by decide +kernel
theorem dX6_behind_41 : decode cX6_behind 41 = .ok (.iload 4, 2) := by decide +kernel
theorem dX6_behind_43 : decode cX6_behind 43 = .ok (.iconst (-1), 1) := by decide +kernel
theorem dX6_behind_44 : decode cX6_behind 44 = .ok (.if_icmp .eq 15, 3) := by decide +kernel
theorem dX6_behind_47 : decode cX6_behind 47 = .ok (.iload_n 1, 1) := by decide +kernel
theorem dX6_behind_48 : decode cX6_behind 48 = .ok (.iload 4, 2) := by decide +kernel
theorem dX6_behind_50 : decode cX6_behind 50 = .ok (.invokestatic 101, 3) := by decide +kernel
theorem dX6_behind_53 : decode cX6_behind 53 = .ok (.iconst 3, 1) := by decide +kernel
theorem dX6_behind_54 : decode cX6_behind 54 = .ok (.if_icmp .ne 5, 3) := by decide +kernel
theorem dX6_behind_57 : decode cX6_behind 57 = .ok (.iconst (-1), 1) := by decide +kernel
theorem dX6_behind_58 : decode cX6_behind 58 = .ok (.ireturn, 1) := by decide +kernel
theorem dX6_behind_59 : decode cX6_behind 59 = .ok (.iload_n 1, 1) := by decide +kernel
theorem dX6_behind_60 : decode cX6_behind 60 = .ok (.iconst 1, 1) := by decide +kernel
theorem dX6_behind_61 : decode cX6_behind 61 = .ok (.iconst 2, 1) := by decide +kernel
theorem dX6_behind_62 : decode cX6_behind 62 = .ok (.iload_n 3, 1) := by decide +kernel
theorem dX6_behind_63 : decode cX6_behind 63 = .ok (.imul, 1) := by decide +kernel
theorem dX6_behind_64 : decode cX6_behind 64 = .ok (.ishl, 1) := by decide +kernel
theorem dX6_behind_65 : decode cX6_behind 65 = .ok (.isub, 1) := by decide +kernel
theorem dX6_behind_66 : decode cX6_behind 66 = .ok (.iload 4, 2) := by decide +kernel
theorem dX6_behind_68 : decode cX6_behind 68 = .ok (.iconst (-1), 1) := by decide +kernel
theorem dX6_behind_69 : decode cX6_behind 69 = .ok (.if_icmp .ne 7, 3) := by decide +kernel
theorem dX6_behind_72 : decode cX6_behind 72 = .ok (.iconst 0, 1) := by decide +kernel
theorem dX6_behind_73 : decode cX6_behind 73 = .ok (.goto 9, 3) := by decide +kernel
theorem dX6_behind_76 : decode cX6_behind 76 = .ok (.iconst 1, 1) := by decide +kernel
theorem dX6_behind_77 : decode cX6_behind 77 = .ok (.iconst 2, 1) := by decide +kernel
theorem dX6_behind_78 : decode cX6_behind 78 = .ok (.iload 4, 2) := by decide +kernel
theorem dX6_behind_80 : decode cX6_behind 80 = .ok (.imul, 1) := by decide +kernel
theorem dX6_behind_81 : decode cX6_behind 81 = .ok (.ishl, 1) := by decide +kernel
theorem dX6_behind_82 : decode cX6_behind 82 = .ok (.iadd, 1) := by decide +kernel
theorem dX6_behind_83 : decode cX6_behind 83 = .ok (.istore 5, 2) := by decide +kernel
theorem dX6_behind_85 : decode cX6_behind 85 = .ok (.iconst 0, 1) := by decide +kernel
theorem dX6_behind_86 : decode cX6_behind 86 = .ok (.istore 6, 2) := by decide +kernel
theorem dX6_behind_88 : decode cX6_behind 88 = .ok (.iload 6, 2) := by decide +kernel
theorem dX6_behind_90 : decode cX6_behind 90 = .ok (.iconst 3, 1) := by decide +kernel
theorem dX6_behind_91 : decode cX6_behind 91 = .ok (.if_icmp .ge 88, 3) := by decide +kernel
theorem dX6_behind_94 : decode cX6_behind 94 = .ok (.iload 5, 2) := by decide +kernel
theorem dX6_behind_96 : decode cX6_behind 96 = .ok (.iconst 2, 1) := by decide +kernel
theorem dX6_behind_97 : decode cX6_behind 97 = .ok (.iload 6, 2) := by decide +kernel
theorem dX6_behind_99 : decode cX6_behind 99 = .ok (.imul, 1) := by decide +kernel
theorem dX6_behind_100 : decode cX6_behind 100 = .ok (.invokestatic 101, 3) := by decide +kernel
theorem dX6_behind_103 : decode cX6_behind 103 = .ok (.iload 5, 2) := by decide +kernel
theorem dX6_behind_105 : decode cX6_behind 105 = .ok (.iconst 2, 1) := by decide +kernel
theorem dX6_behind_106 : decode cX6_behind 106 = .ok (.iload 6, 2) := by decide +kernel
theorem dX6_behind_108 : decode cX6_behind 108 = .ok (.imul, 1) := by decide +kernel
theorem dX6_behind_109 : decode cX6_behind 109 = .ok (.iconst 1, 1) := by decide +kernel
theorem dX6_behind_110 : decode cX6_behind 110 = .ok (.iadd, 1) := by decide +kernel
theorem dX6_behind_111 : decode cX6_behind 111 = .ok (.invokestatic 101, 3) := by decide +kernel
theorem dX6_behind_114 : decode cX6_behind 114 = .ok (.isub, 1) := by decide +kernel
theorem dX6_behind_115 : decode cX6_behind 115 = .ok (.istore 7, 2) := by decide +kernel
theorem dX6_behind_117 : decode cX6_behind 117 = .ok (.iconst 1, 1) := by decide +kernel
theorem dX6_behind_118 : decode cX6_behind 118 = .ok (.iconst 4, 1) := by decide +kernel
theorem dX6_behind_119 : decode cX6_behind 119 = .ok (.iload 6, 2) := by decide +kernel
theorem dX6_behind_121 : decode cX6_behind 121 = .ok (.imul, 1) := by decide +kernel
theorem dX6_behind_122 : decode cX6_behind 122 = .ok (.iconst 2, 1) := by decide +kernel
theorem dX6_behind_123 : decode cX6_behind 123 = .ok (.iadd, 1) := by decide +kernel
theorem dX6_behind_124 : decode cX6_behind 124 = .ok (.ishl, 1) := by decide +kernel
theorem dX6_behind_125 : decode cX6_behind 125 = .ok (.iconst 1, 1) := by decide +kernel
theorem dX6_behind_126 : decode cX6_behind 126 = .ok (.iconst 4, 1) := by decide +kernel
theorem dX6_behind_127 : decode cX6_behind 127 = .ok (.iload 6, 2) := by decide +kernel
theorem dX6_behind_129 : decode cX6_behind 129 = .ok (.imul, 1) := by decide +kernel
theorem dX6_behind_130 : decode cX6_behind 130 = .ok (.ishl, 1) := by decide +kernel
theorem dX6_behind_131 : decode cX6_behind 131 = .ok (.isub, 1) := by decide +kernel
theorem dX6_behind_132 : decode cX6_behind 132 = .ok (.istore 8, 2) := by decide +kernel
theorem dX6_behind_134 : decode cX6_behind 134 = .ok (.aload_n 0, 1) := by decide +kernel
theorem dX6_behind_135 : decode cX6_behind 135 = .ok (.getfield 13, 3) := by decide +kernel
theorem dX6_behind_138 : decode cX6_behind 138 = .ok (.iload 6, 2) := by decide +kernel
theorem dX6_behind_140 : decode cX6_behind 140 = .ok (.iaload, 1) := by decide +kernel
theorem dX6_behind_141 : decode cX6_behind 141 = .ok (.iconst 3, 1) := by decide +kernel
theorem dX6_behind_142 : decode cX6_behind 142 = .ok (.if_icmp .ne 31, 3) := by decide +kernel
theorem dX6_behind_145 : decode cX6_behind 145 = .ok (.iload 7, 2) := by decide +kernel
theorem dX6_behind_147 : decode cX6_behind 147 = .ok (.iconst 0, 1) := by decide +kernel
theorem dX6_behind_148 : decode cX6_behind 148 = .ok (.invokestatic 105, 3) := by decide +kernel
theorem dX6_behind_151 : decode cX6_behind 151 = .ok (.iconst 1, 1) := by decide +kernel
theorem dX6_behind_152 : decode cX6_behind 152 = .ok (.if_icmp .le 21, 3) := by decide +kernel
theorem dX6_behind_155 : decode cX6_behind 155 = .ok (.iload 5, 2) := by decide +kernel
theorem dX6_behind_157 : decode cX6_behind 157 = .ok (.iload 7, 2) := by decide +kernel
theorem dX6_behind_159 : decode cX6_behind 159 = .ok (.ifCond .le 8, 3) := by decide +kernel
theorem dX6_behind_162 : decode cX6_behind 162 = .ok (.iload 8, 2) := by decide +kernel
theorem dX6_behind_164 : decode cX6_behind 164 = .ok (.goto 6, 3) := by decide +kernel
theorem dX6_behind_167 : decode cX6_behind 167 = .ok (.iload 8, 2) := by decide +kernel
theorem dX6_behind_169 : decode cX6_behind 169 = .ok (.ineg, 1) := by decide +kernel
theorem dX6_behind_170 : decode cX6_behind 170 = .ok (.iadd, 1) := by decide +kernel
theorem dX6_behind_171 : decode cX6_behind 171 = .ok (.istore 5, 2) := by decide +kernel
theorem dX6_behind_173 : decode cX6_behind 173 = .ok (.iinc 6 1, 3) := by decide +kernel
theorem dX6_behind_176 : decode cX6_behind 176 = .ok (.goto (-88), 3) := by decide +kernel
theorem dX6_behind_179 : decode cX6_behind 179 = .ok (.iload 5, 2) := by decide +kernel
theorem dX6_behind_181 : decode cX6_behind 181 = .ok (.ireturn, 1) := by decide +kernel
theorem dX6_goes_0 : decode cX6_goes 0 = .ok (.iload_n 2, 1) := by decide +kernel
theorem dX6_goes_1 : decode cX6_goes 1 = .ok (.invokestatic 135, 3) := by decide +kernel
theorem dX6_goes_4 : decode cX6_goes 4 = .ok (.ifCond .eq 12, 3) := by decide +kernel
theorem dX6_goes_7 : decode cX6_goes 7 = .ok (.aload_n 0, 1) := by decide +kernel
theorem dX6_goes_8 : decode cX6_goes 8 = .ok (.iload_n 1, 1) := by decide +kernel
theorem dX6_goes_9 : decode cX6_goes 9 = .ok (.iload_n 2, 1) := by decide +kernel
theorem dX6_goes_10 : decode cX6_goes 10 = .ok (.invokevirtual 139, 3) := by decide +kernel
theorem dX6_goes_13 : decode cX6_goes 13 = .ok (.goto 4, 3) := by decide +kernel
theorem dX6_goes_16 : decode cX6_goes 16 = .ok (.iconst (-1), 1) := by decide +kernel
theorem dX6_goes_17 : decode cX6_goes 17 = .ok (.istore 4, 2) := by decide +kernel
theorem dX6_goes_19 : decode cX6_goes 19 = .ok (.iload 4, 2) := by decide +kernel
theorem dX6_goes_21 : decode cX6_goes 21 = .ok (.iconst (-1), 1) := by decide +kernel
theorem dX6_goes_22 : decode cX6_goes 22 = .ok (.if_icmp .eq 18, 3) := by decide +kernel
theorem dX6_goes_25 : decode cX6_goes 25 = .ok (.aload_n 0, 1) := by decide +kernel
theorem dX6_goes_26 : decode cX6_goes 26 = .ok (.iload 4, 2) := by decide +kernel
theorem dX6_goes_28 : decode cX6_goes 28 = .ok (.iload_n 3, 1) := by decide +kernel
theorem dX6_goes_29 : decode cX6_goes 29 = .ok (.invokevirtual 127, 3) := by decide +kernel
theorem dX6_goes_32 : decode cX6_goes 32 = .ok (.ifCond .eq 8, 3) := by decide +kernel
theorem dX6_goes_35 : decode cX6_goes 35 = .ok (.iload 4, 2) := by decide +kernel
theorem dX6_goes_37 : decode cX6_goes 37 = .ok (.goto 4, 3) := by decide +kernel
theorem dX6_goes_40 : decode cX6_goes 40 = .ok (.iconst (-1), 1) := by decide +kernel
theorem dX6_goes_41 : decode cX6_goes 41 = .ok (.ireturn, 1) := by decide +kernel
theorem dX6_lasts_0 : decode cX6_lasts 0 = .ok (.iload_n 1, 1) := by decide +kernel
theorem dX6_lasts_1 : decode cX6_lasts 1 = .ok (.bipush 6, 2) := by decide +kernel
theorem dX6_lasts_3 : decode cX6_lasts 3 = .ok (.if_icmp .ge 13, 3) := by decide +kernel
theorem dX6_lasts_6 : decode cX6_lasts 6 = .ok (.aload_n 0, 1) := by decide +kernel
theorem dX6_lasts_7 : decode cX6_lasts 7 = .ok (.iload_n 1, 1) := by decide +kernel
theorem dX6_lasts_8 : decode cX6_lasts 8 = .ok (.iconst 2, 1) := by decide +kernel
theorem dX6_lasts_9 : decode cX6_lasts 9 = .ok (.idiv, 1) := by decide +kernel
theorem dX6_lasts_10 : decode cX6_lasts 10 = .ok (.invokevirtual 110, 3) := by decide +kernel
theorem dX6_lasts_13 : decode cX6_lasts 13 = .ok (.goto 15, 3) := by decide +kernel
theorem dX6_lasts_16 : decode cX6_lasts 16 = .ok (.aload_n 0, 1) := by decide +kernel
theorem dX6_lasts_17 : decode cX6_lasts 17 = .ok (.iload_n 1, 1) := by decide +kernel
theorem dX6_lasts_18 : decode cX6_lasts 18 = .ok (.bipush 6, 2) := by decide +kernel
theorem dX6_lasts_20 : decode cX6_lasts 20 = .ok (.idiv, 1) := by decide +kernel
theorem dX6_lasts_21 : decode cX6_lasts 21 = .ok (.iconst 1, 1) := by decide +kernel
theorem dX6_lasts_22 : decode cX6_lasts 22 = .ok (.isub, 1) := by decide +kernel
theorem dX6_lasts_23 : decode cX6_lasts 23 = .ok (.iconst 2, 1) := by decide +kernel
theorem dX6_lasts_24 : decode cX6_lasts 24 = .ok (.idiv, 1) := by decide +kernel
theorem dX6_lasts_25 : decode cX6_lasts 25 = .ok (.invokevirtual 113, 3) := by decide +kernel
theorem dX6_lasts_28 : decode cX6_lasts 28 = .ok (.ireturn, 1) := by decide +kernel
theorem dX6_may_0 : decode cX6_may 0 = .ok (.aload_n 0, 1) := by decide +kernel
theorem dX6_may_1 : decode cX6_may 1 = .ok (.getfield 91, 3) := by decide +kernel
theorem dX6_may_4 : decode cX6_may 4 = .ok (.ifCond .eq 10, 3) := by decide +kernel
theorem dX6_may_7 : decode cX6_may 7 = .ok (.iload_n 1, 1) := by decide +kernel
theorem dX6_may_8 : decode cX6_may 8 = .ok (.invokestatic 135, 3) := by decide +kernel
theorem dX6_may_11 : decode cX6_may 11 = .ok (.ifCond .ne 6, 3) := by decide +kernel
theorem dX6_may_14 : decode cX6_may 14 = .ok (.bipush (-101), 2) := by decide +kernel
theorem dX6_may_16 : decode cX6_may 16 = .ok (.ireturn, 1) := by decide +kernel
theorem dX6_may_17 : decode cX6_may 17 = .ok (.aload_n 0, 1) := by decide +kernel
theorem dX6_may_18 : decode cX6_may 18 = .ok (.aload_n 0, 1) := by decide +kernel
theorem dX6_may_19 : decode cX6_may 19 = .ok (.getfield 70, 3) := by decide +kernel
theorem dX6_may_22 : decode cX6_may 22 = .ok (.iload_n 1, 1) := by decide +kernel
theorem dX6_may_23 : decode cX6_may 23 = .ok (.aload_n 0, 1) := by decide +kernel
theorem dX6_may_24 : decode cX6_may 24 = .ok (.invokevirtual 124, 3) := by decide +kernel
theorem dX6_may_27 : decode cX6_may 27 = .ok (.invokevirtual 142, 3) := by decide +kernel
theorem dX6_may_30 : decode cX6_may 30 = .ok (.iconst (-1), 1) := by decide +kernel
theorem dX6_may_31 : decode cX6_may 31 = .ok (.if_icmp .ne 7, 3) := by decide +kernel
theorem dX6_may_34 : decode cX6_may 34 = .ok (.iconst 0, 1) := by decide +kernel
theorem dX6_may_35 : decode cX6_may 35 = .ok (.goto 4, 3) := by decide +kernel
theorem dX6_may_38 : decode cX6_may 38 = .ok (.iconst 1, 1) := by decide +kernel
theorem dX6_may_39 : decode cX6_may 39 = .ok (.ireturn, 1) := by decide +kernel
theorem dX6_act_0 : decode cX6_act 0 = .ok (.aload_n 0, 1) := by decide +kernel
theorem dX6_act_1 : decode cX6_act 1 = .ok (.getfield 91, 3) := by decide +kernel
theorem dX6_act_4 : decode cX6_act 4 = .ok (.ifCond .eq 10, 3) := by decide +kernel
theorem dX6_act_7 : decode cX6_act 7 = .ok (.iload_n 1, 1) := by decide +kernel
theorem dX6_act_8 : decode cX6_act 8 = .ok (.invokestatic 135, 3) := by decide +kernel
theorem dX6_act_11 : decode cX6_act 11 = .ok (.ifCond .ne 6, 3) := by decide +kernel
theorem dX6_act_14 : decode cX6_act 14 = .ok (.bipush (-101), 2) := by decide +kernel
theorem dX6_act_16 : decode cX6_act 16 = .ok (.ireturn, 1) := by decide +kernel
theorem dX6_act_17 : decode cX6_act 17 = .ok (.aload_n 0, 1) := by decide +kernel
theorem dX6_act_18 : decode cX6_act 18 = .ok (.aload_n 0, 1) := by decide +kernel
theorem dX6_act_19 : decode cX6_act 19 = .ok (.getfield 70, 3) := by decide +kernel
theorem dX6_act_22 : decode cX6_act 22 = .ok (.iload_n 1, 1) := by decide +kernel
theorem dX6_act_23 : decode cX6_act 23 = .ok (.aload_n 0, 1) := by decide +kernel
theorem dX6_act_24 : decode cX6_act 24 = .ok (.invokevirtual 124, 3) := by decide +kernel
theorem dX6_act_27 : decode cX6_act 27 = .ok (.invokevirtual 142, 3) := by decide +kernel
theorem dX6_act_30 : decode cX6_act 30 = .ok (.istore_n 2, 1) := by decide +kernel
theorem dX6_act_31 : decode cX6_act 31 = .ok (.iload_n 2, 1) := by decide +kernel
theorem dX6_act_32 : decode cX6_act 32 = .ok (.iconst (-1), 1) := by decide +kernel
theorem dX6_act_33 : decode cX6_act 33 = .ok (.if_icmp .ne 6, 3) := by decide +kernel
theorem dX6_act_36 : decode cX6_act 36 = .ok (.bipush (-103), 2) := by decide +kernel
theorem dX6_act_38 : decode cX6_act 38 = .ok (.ireturn, 1) := by decide +kernel
theorem dX6_act_39 : decode cX6_act 39 = .ok (.aload_n 0, 1) := by decide +kernel
theorem dX6_act_40 : decode cX6_act 40 = .ok (.iload_n 2, 1) := by decide +kernel
theorem dX6_act_41 : decode cX6_act 41 = .ok (.putfield 70, 3) := by decide +kernel
theorem dX6_act_44 : decode cX6_act 44 = .ok (.aload_n 0, 1) := by decide +kernel
theorem dX6_act_45 : decode cX6_act 45 = .ok (.dup, 1) := by decide +kernel
theorem dX6_act_46 : decode cX6_act 46 = .ok (.getfield 79, 3) := by decide +kernel
theorem dX6_act_49 : decode cX6_act 49 = .ok (.iload_n 1, 1) := by decide +kernel
theorem dX6_act_50 : decode cX6_act 50 = .ok (.bipush 6, 2) := by decide +kernel
theorem dX6_act_52 : decode cX6_act 52 = .ok (.if_icmp .ge 7, 3) := by decide +kernel
theorem dX6_act_55 : decode cX6_act 55 = .ok (.iconst 1, 1) := by decide +kernel
theorem dX6_act_56 : decode cX6_act 56 = .ok (.goto 4, 3) := by decide +kernel
theorem dX6_act_59 : decode cX6_act 59 = .ok (.iconst 0, 1) := by decide +kernel
theorem dX6_act_60 : decode cX6_act 60 = .ok (.iadd, 1) := by decide +kernel
theorem dX6_act_61 : decode cX6_act 61 = .ok (.putfield 79, 3) := by decide +kernel
theorem dX6_act_64 : decode cX6_act 64 = .ok (.aload_n 0, 1) := by decide +kernel
theorem dX6_act_65 : decode cX6_act 65 = .ok (.dup, 1) := by decide +kernel
theorem dX6_act_66 : decode cX6_act 66 = .ok (.getfield 82, 3) := by decide +kernel
theorem dX6_act_69 : decode cX6_act 69 = .ok (.aload_n 0, 1) := by decide +kernel
theorem dX6_act_70 : decode cX6_act 70 = .ok (.iload_n 1, 1) := by decide +kernel
theorem dX6_act_71 : decode cX6_act 71 = .ok (.invokevirtual 146, 3) := by decide +kernel
theorem dX6_act_74 : decode cX6_act 74 = .ok (.iadd, 1) := by decide +kernel
theorem dX6_act_75 : decode cX6_act 75 = .ok (.putfield 82, 3) := by decide +kernel
theorem dX6_act_78 : decode cX6_act 78 = .ok (.aload_n 0, 1) := by decide +kernel
theorem dX6_act_79 : decode cX6_act 79 = .ok (.getfield 82, 3) := by decide +kernel
theorem dX6_act_82 : decode cX6_act 82 = .ok (.ireturn, 1) := by decide +kernel
theorem dX6_layFar_0 : decode cX6_layFar 0 = .ok (.iconst 0, 1) := by decide +kernel
theorem dX6_layFar_1 : decode cX6_layFar 1 = .ok (.istore_n 2, 1) := by decide +kernel
theorem dX6_layFar_2 : decode cX6_layFar 2 = .ok (.iload_n 2, 1) := by decide +kernel
theorem dX6_layFar_3 : decode cX6_layFar 3 = .ok (.sipush 4096, 3) := by decide +kernel
theorem dX6_layFar_6 : decode cX6_layFar 6 = .ok (.if_icmp .ge 30, 3) := by decide +kernel
theorem dX6_layFar_9 : decode cX6_layFar 9 = .ok (.aload_n 0, 1) := by decide +kernel
theorem dX6_layFar_10 : decode cX6_layFar 10 = .ok (.getfield 16, 3) := by decide +kernel
theorem dX6_layFar_13 : decode cX6_layFar 13 = .ok (.iload_n 2, 1) := by decide +kernel
theorem dX6_layFar_14 : decode cX6_layFar 14 = .ok (.iconst (-1), 1) := by decide +kernel
theorem dX6_layFar_15 : decode cX6_layFar 15 = .ok (.iastore, 1) := by decide +kernel
theorem dX6_layFar_16 : decode cX6_layFar 16 = .ok (.aload_n 0, 1) := by decide +kernel
theorem dX6_layFar_17 : decode cX6_layFar 17 = .ok (.getfield 19, 3) := by decide +kernel
theorem dX6_layFar_20 : decode cX6_layFar 20 = .ok (.iload_n 2, 1) := by decide +kernel
theorem dX6_layFar_21 : decode cX6_layFar 21 = .ok (.iconst (-1), 1) := by decide +kernel
theorem dX6_layFar_22 : decode cX6_layFar 22 = .ok (.iastore, 1) := by decide +kernel
theorem dX6_layFar_23 : decode cX6_layFar 23 = .ok (.aload_n 0, 1) := by decide +kernel
theorem dX6_layFar_24 : decode cX6_layFar 24 = .ok (.getfield 25, 3) := by decide +kernel
theorem dX6_layFar_27 : decode cX6_layFar 27 = .ok (.iload_n 2, 1) := by decide +kernel
theorem dX6_layFar_28 : decode cX6_layFar 28 = .ok (.iconst 0, 1) := by decide +kernel
theorem dX6_layFar_29 : decode cX6_layFar 29 = .ok (.bastore, 1) := by decide +kernel
theorem dX6_layFar_30 : decode cX6_layFar 30 = .ok (.iinc 2 1, 3) := by decide +kernel
theorem dX6_layFar_33 : decode cX6_layFar 33 = .ok (.goto (-31), 3) := by decide +kernel
theorem dX6_layFar_36 : decode cX6_layFar 36 = .ok (.aload_n 0, 1) := by decide +kernel
theorem dX6_layFar_37 : decode cX6_layFar 37 = .ok (.getfield 16, 3) := by decide +kernel
theorem dX6_layFar_40 : decode cX6_layFar 40 = .ok (.aload_n 0, 1) := by decide +kernel
theorem dX6_layFar_41 : decode cX6_layFar 41 = .ok (.getfield 70, 3) := by decide +kernel
theorem dX6_layFar_44 : decode cX6_layFar 44 = .ok (.iconst 0, 1) := by decide +kernel
theorem dX6_layFar_45 : decode cX6_layFar 45 = .ok (.iastore, 1) := by decide +kernel
theorem dX6_layFar_46 : decode cX6_layFar 46 = .ok (.aload_n 0, 1) := by decide +kernel
theorem dX6_layFar_47 : decode cX6_layFar 47 = .ok (.getfield 22, 3) := by decide +kernel
theorem dX6_layFar_50 : decode cX6_layFar 50 = .ok (.iconst 0, 1) := by decide +kernel
theorem dX6_layFar_51 : decode cX6_layFar 51 = .ok (.aload_n 0, 1) := by decide +kernel
theorem dX6_layFar_52 : decode cX6_layFar 52 = .ok (.getfield 70, 3) := by decide +kernel
theorem dX6_layFar_55 : decode cX6_layFar 55 = .ok (.iastore, 1) := by decide +kernel
theorem dX6_layFar_56 : decode cX6_layFar 56 = .ok (.aload_n 0, 1) := by decide +kernel
theorem dX6_layFar_57 : decode cX6_layFar 57 = .ok (.getfield 25, 3) := by decide +kernel
theorem dX6_layFar_60 : decode cX6_layFar 60 = .ok (.aload_n 0, 1) := by decide +kernel
theorem dX6_layFar_61 : decode cX6_layFar 61 = .ok (.getfield 70, 3) := by decide +kernel
theorem dX6_layFar_64 : decode cX6_layFar 64 = .ok (.iconst 1, 1) := by decide +kernel
theorem dX6_layFar_65 : decode cX6_layFar 65 = .ok (.bastore, 1) := by decide +kernel
theorem dX6_layFar_66 : decode cX6_layFar 66 = .ok (.iconst 0, 1) := by decide +kernel
theorem dX6_layFar_67 : decode cX6_layFar 67 = .ok (.istore_n 2, 1) := by decide +kernel
theorem dX6_layFar_68 : decode cX6_layFar 68 = .ok (.iconst 1, 1) := by decide +kernel
theorem dX6_layFar_69 : decode cX6_layFar 69 = .ok (.istore_n 3, 1) := by decide +kernel
theorem dX6_layFar_70 : decode cX6_layFar 70 = .ok (.iload_n 3, 1) := by decide +kernel
theorem dX6_layFar_71 : decode cX6_layFar 71 = .ok (.ifCond .le 114, 3) := by decide +kernel
theorem dX6_layFar_74 : decode cX6_layFar 74 = .ok (.aload_n 0, 1) := by decide +kernel
theorem dX6_layFar_75 : decode cX6_layFar 75 = .ok (.getfield 22, 3) := by decide +kernel
theorem dX6_layFar_78 : decode cX6_layFar 78 = .ok (.iload_n 2, 1) := by decide +kernel
theorem dX6_layFar_79 : decode cX6_layFar 79 = .ok (.iaload, 1) := by decide +kernel
theorem dX6_layFar_80 : decode cX6_layFar 80 = .ok (.istore 4, 2) := by decide +kernel
theorem dX6_layFar_82 : decode cX6_layFar 82 = .ok (.iload_n 2, 1) := by decide +kernel
theorem dX6_layFar_83 : decode cX6_layFar 83 = .ok (.iconst 1, 1) := by decide +kernel
theorem dX6_layFar_84 : decode cX6_layFar 84 = .ok (.iadd, 1) := by decide +kernel
theorem dX6_layFar_85 : decode cX6_layFar 85 = .ok (.sipush 4096, 3) := by decide +kernel
theorem dX6_layFar_88 : decode cX6_layFar 88 = .ok (.irem, 1) := by decide +kernel
theorem dX6_layFar_89 : decode cX6_layFar 89 = .ok (.istore_n 2, 1) := by decide +kernel
theorem dX6_layFar_90 : decode cX6_layFar 90 = .ok (.iinc 3 (-1), 3) := by decide +kernel
theorem dX6_layFar_93 : decode cX6_layFar 93 = .ok (.aload_n 0, 1) := by decide +kernel
theorem dX6_layFar_94 : decode cX6_layFar 94 = .ok (.getfield 25, 3) := by decide +kernel
theorem dX6_layFar_97 : decode cX6_layFar 97 = .ok (.iload 4, 2) := by decide +kernel
theorem dX6_layFar_99 : decode cX6_layFar 99 = .ok (.iconst 0, 1) := by decide +kernel
theorem dX6_layFar_100 : decode cX6_layFar 100 = .ok (.bastore, 1) := by decide +kernel
theorem dX6_layFar_101 : decode cX6_layFar 101 = .ok (.iconst 0, 1) := by decide +kernel
theorem dX6_layFar_102 : decode cX6_layFar 102 = .ok (.istore 5, 2) := by decide +kernel
theorem dX6_layFar_104 : decode cX6_layFar 104 = .ok (.iload 5, 2) := by decide +kernel
theorem dX6_layFar_106 : decode cX6_layFar 106 = .ok (.bipush 42, 2) := by decide +kernel
theorem dX6_layFar_108 : decode cX6_layFar 108 = .ok (.if_icmp .ge 74, 3) := by decide +kernel
theorem dX6_layFar_111 : decode cX6_layFar 111 = .ok (.aload_n 0, 1) := by decide +kernel
theorem dX6_layFar_112 : decode cX6_layFar 112 = .ok (.iload 4, 2) := by decide +kernel
theorem dX6_layFar_114 : decode cX6_layFar 114 = .ok (.iload 5, 2) := by decide +kernel
theorem dX6_layFar_116 : decode cX6_layFar 116 = .ok (.iload_n 1, 1) := by decide +kernel
theorem dX6_layFar_117 : decode cX6_layFar 117 = .ok (.invokevirtual 142, 3) := by decide +kernel
theorem dX6_layFar_120 : decode cX6_layFar 120 = .ok (.istore 6, 2) := by decide +kernel
theorem dX6_layFar_122 : decode cX6_layFar 122 = .ok (.iload 6, 2) := by decide +kernel
theorem dX6_layFar_124 : decode cX6_layFar 124 = .ok (.iconst (-1), 1) := by decide +kernel
theorem dX6_layFar_125 : decode cX6_layFar 125 = .ok (.if_icmp .eq 51, 3) := by decide +kernel
theorem dX6_layFar_128 : decode cX6_layFar 128 = .ok (.aload_n 0, 1) := by decide +kernel
theorem dX6_layFar_129 : decode cX6_layFar 129 = .ok (.iload 4, 2) := by decide +kernel
theorem dX6_layFar_131 : decode cX6_layFar 131 = .ok (.iload 6, 2) := by decide +kernel
theorem dX6_layFar_133 : decode cX6_layFar 133 = .ok (.iload 5, 2) := by decide +kernel
theorem dX6_layFar_135 : decode cX6_layFar 135 = .ok (.invokevirtual 149, 3) := by decide +kernel
theorem dX6_layFar_138 : decode cX6_layFar 138 = .ok (.ifCond .eq 38, 3) := by decide +kernel
theorem dX6_layFar_141 : decode cX6_layFar 141 = .ok (.aload_n 0, 1) := by decide +kernel
theorem dX6_layFar_142 : decode cX6_layFar 142 = .ok (.getfield 25, 3) := by decide +kernel
theorem dX6_layFar_145 : decode cX6_layFar 145 = .ok (.iload 6, 2) := by decide +kernel
theorem dX6_layFar_147 : decode cX6_layFar 147 = .ok (.baload, 1) := by decide +kernel
theorem dX6_layFar_148 : decode cX6_layFar 148 = .ok (.ifCond .ne 28, 3) := by decide +kernel
theorem dX6_layFar_151 : decode cX6_layFar 151 = .ok (.aload_n 0, 1) := by decide +kernel
theorem dX6_layFar_152 : decode cX6_layFar 152 = .ok (.getfield 22, 3) := by decide +kernel
theorem dX6_layFar_155 : decode cX6_layFar 155 = .ok (.iload_n 2, 1) := by decide +kernel
theorem dX6_layFar_156 : decode cX6_layFar 156 = .ok (.iload_n 3, 1) := by decide +kernel
theorem dX6_layFar_157 : decode cX6_layFar 157 = .ok (.iadd, 1) := by decide +kernel
theorem dX6_layFar_158 : decode cX6_layFar 158 = .ok (.sipush 4096, 3) := by decide +kernel
theorem dX6_layFar_161 : decode cX6_layFar 161 = .ok (.irem, 1) := by decide +kernel
theorem dX6_layFar_162 : decode cX6_layFar 162 = .ok (.iload 6, 2) := by decide +kernel
theorem dX6_layFar_164 : decode cX6_layFar 164 = .ok (.iastore, 1) := by decide +kernel
theorem dX6_layFar_165 : decode cX6_layFar 165 = .ok (.aload_n 0, 1) := by decide +kernel
theorem dX6_layFar_166 : decode cX6_layFar 166 = .ok (.getfield 25, 3) := by decide +kernel
theorem dX6_layFar_169 : decode cX6_layFar 169 = .ok (.iload 6, 2) := by decide +kernel
theorem dX6_layFar_171 : decode cX6_layFar 171 = .ok (.iconst 1, 1) := by decide +kernel
theorem dX6_layFar_172 : decode cX6_layFar 172 = .ok (.bastore, 1) := by decide +kernel
theorem dX6_layFar_173 : decode cX6_layFar 173 = .ok (.iinc 3 1, 3) := by decide +kernel
theorem dX6_layFar_176 : decode cX6_layFar 176 = .ok (.iinc 5 1, 3) := by decide +kernel
theorem dX6_layFar_179 : decode cX6_layFar 179 = .ok (.goto (-75), 3) := by decide +kernel
theorem dX6_layFar_182 : decode cX6_layFar 182 = .ok (.goto (-112), 3) := by decide +kernel
theorem dX6_layFar_185 : decode cX6_layFar 185 = .ok (.return_, 1) := by decide +kernel
theorem dX6_isBetter_0 : decode cX6_isBetter 0 = .ok (.aload_n 0, 1) := by decide +kernel
theorem dX6_isBetter_1 : decode cX6_isBetter 1 = .ok (.getfield 16, 3) := by decide +kernel
theorem dX6_isBetter_4 : decode cX6_isBetter 4 = .ok (.iload_n 1, 1) := by decide +kernel
theorem dX6_isBetter_5 : decode cX6_isBetter 5 = .ok (.iaload, 1) := by decide +kernel
theorem dX6_isBetter_6 : decode cX6_isBetter 6 = .ok (.aload_n 0, 1) := by decide +kernel
theorem dX6_isBetter_7 : decode cX6_isBetter 7 = .ok (.iload_n 3, 1) := by decide +kernel
theorem dX6_isBetter_8 : decode cX6_isBetter 8 = .ok (.invokevirtual 146, 3) := by decide +kernel
theorem dX6_isBetter_11 : decode cX6_isBetter 11 = .ok (.iadd, 1) := by decide +kernel
theorem dX6_isBetter_12 : decode cX6_isBetter 12 = .ok (.istore 4, 2) := by decide +kernel
theorem dX6_isBetter_14 : decode cX6_isBetter 14 = .ok (.iload_n 1, 1) := by decide +kernel
theorem dX6_isBetter_15 : decode cX6_isBetter 15 = .ok (.aload_n 0, 1) := by decide +kernel
theorem dX6_isBetter_16 : decode cX6_isBetter 16 = .ok (.getfield 70, 3) := by decide +kernel
theorem dX6_isBetter_19 : decode cX6_isBetter 19 = .ok (.if_icmp .ne 7, 3) := by decide +kernel
theorem dX6_isBetter_22 : decode cX6_isBetter 22 = .ok (.iload_n 3, 1) := by decide +kernel
theorem dX6_isBetter_23 : decode cX6_isBetter 23 = .ok (.goto 9, 3) := by decide +kernel
theorem dX6_isBetter_26 : decode cX6_isBetter 26 = .ok (.aload_n 0, 1) := by decide +kernel
theorem dX6_isBetter_27 : decode cX6_isBetter 27 = .ok (.getfield 19, 3) := by decide +kernel
theorem dX6_isBetter_30 : decode cX6_isBetter 30 = .ok (.iload_n 1, 1) := by decide +kernel
theorem dX6_isBetter_31 : decode cX6_isBetter 31 = .ok (.iaload, 1) := by decide +kernel
theorem dX6_isBetter_32 : decode cX6_isBetter 32 = .ok (.istore 5, 2) := by decide +kernel
theorem dX6_isBetter_34 : decode cX6_isBetter 34 = .ok (.aload_n 0, 1) := by decide +kernel
theorem dX6_isBetter_35 : decode cX6_isBetter 35 = .ok (.getfield 16, 3) := by decide +kernel
theorem dX6_isBetter_38 : decode cX6_isBetter 38 = .ok (.iload_n 2, 1) := by decide +kernel
theorem dX6_isBetter_39 : decode cX6_isBetter 39 = .ok (.iaload, 1) := by decide +kernel
theorem dX6_isBetter_40 : decode cX6_isBetter 40 = .ok (.iconst (-1), 1) := by decide +kernel
theorem dX6_isBetter_41 : decode cX6_isBetter 41 = .ok (.if_icmp .eq 36, 3) := by decide +kernel
theorem dX6_isBetter_44 : decode cX6_isBetter 44 = .ok (.iload 4, 2) := by decide +kernel
theorem dX6_isBetter_46 : decode cX6_isBetter 46 = .ok (.aload_n 0, 1) := by decide +kernel
theorem dX6_isBetter_47 : decode cX6_isBetter 47 = .ok (.getfield 16, 3) := by decide +kernel
theorem dX6_isBetter_50 : decode cX6_isBetter 50 = .ok (.iload_n 2, 1) := by decide +kernel
theorem dX6_isBetter_51 : decode cX6_isBetter 51 = .ok (.iaload, 1) := by decide +kernel
theorem dX6_isBetter_52 : decode cX6_isBetter 52 = .ok (.if_icmp .lt 25, 3) := by decide +kernel
theorem dX6_isBetter_55 : decode cX6_isBetter 55 = .ok (.iload 4, 2) := by decide +kernel
theorem dX6_isBetter_57 : decode cX6_isBetter 57 = .ok (.aload_n 0, 1) := by decide +kernel
theorem dX6_isBetter_58 : decode cX6_isBetter 58 = .ok (.getfield 16, 3) := by decide +kernel
theorem dX6_isBetter_61 : decode cX6_isBetter 61 = .ok (.iload_n 2, 1) := by decide +kernel
theorem dX6_isBetter_62 : decode cX6_isBetter 62 = .ok (.iaload, 1) := by decide +kernel
theorem dX6_isBetter_63 : decode cX6_isBetter 63 = .ok (.if_icmp .ne 18, 3) := by decide +kernel
theorem dX6_isBetter_66 : decode cX6_isBetter 66 = .ok (.iload 5, 2) := by decide +kernel
theorem dX6_isBetter_68 : decode cX6_isBetter 68 = .ok (.aload_n 0, 1) := by decide +kernel
theorem dX6_isBetter_69 : decode cX6_isBetter 69 = .ok (.getfield 19, 3) := by decide +kernel
theorem dX6_isBetter_72 : decode cX6_isBetter 72 = .ok (.iload_n 2, 1) := by decide +kernel
theorem dX6_isBetter_73 : decode cX6_isBetter 73 = .ok (.iaload, 1) := by decide +kernel
theorem dX6_isBetter_74 : decode cX6_isBetter 74 = .ok (.if_icmp .ge 7, 3) := by decide +kernel
theorem dX6_isBetter_77 : decode cX6_isBetter 77 = .ok (.iconst 1, 1) := by decide +kernel
theorem dX6_isBetter_78 : decode cX6_isBetter 78 = .ok (.goto 4, 3) := by decide +kernel
theorem dX6_isBetter_81 : decode cX6_isBetter 81 = .ok (.iconst 0, 1) := by decide +kernel
theorem dX6_isBetter_82 : decode cX6_isBetter 82 = .ok (.istore 6, 2) := by decide +kernel
theorem dX6_isBetter_84 : decode cX6_isBetter 84 = .ok (.iload 6, 2) := by decide +kernel
theorem dX6_isBetter_86 : decode cX6_isBetter 86 = .ok (.ifCond .eq 19, 3) := by decide +kernel
theorem dX6_isBetter_89 : decode cX6_isBetter 89 = .ok (.aload_n 0, 1) := by decide +kernel
theorem dX6_isBetter_90 : decode cX6_isBetter 90 = .ok (.getfield 16, 3) := by decide +kernel
theorem dX6_isBetter_93 : decode cX6_isBetter 93 = .ok (.iload_n 2, 1) := by decide +kernel
theorem dX6_isBetter_94 : decode cX6_isBetter 94 = .ok (.iload 4, 2) := by decide +kernel
theorem dX6_isBetter_96 : decode cX6_isBetter 96 = .ok (.iastore, 1) := by decide +kernel
theorem dX6_isBetter_97 : decode cX6_isBetter 97 = .ok (.aload_n 0, 1) := by decide +kernel
theorem dX6_isBetter_98 : decode cX6_isBetter 98 = .ok (.getfield 19, 3) := by decide +kernel
theorem dX6_isBetter_101 : decode cX6_isBetter 101 = .ok (.iload_n 2, 1) := by decide +kernel
theorem dX6_isBetter_102 : decode cX6_isBetter 102 = .ok (.iload 5, 2) := by decide +kernel
theorem dX6_isBetter_104 : decode cX6_isBetter 104 = .ok (.iastore, 1) := by decide +kernel
theorem dX6_isBetter_105 : decode cX6_isBetter 105 = .ok (.iload 6, 2) := by decide +kernel
theorem dX6_isBetter_107 : decode cX6_isBetter 107 = .ok (.ireturn, 1) := by decide +kernel
theorem dX6_soonest_0 : decode cX6_soonest 0 = .ok (.iload_n 1, 1) := by decide +kernel
theorem dX6_soonest_1 : decode cX6_soonest 1 = .ok (.i2l, 1) := by decide +kernel
theorem dX6_soonest_2 : decode cX6_soonest 2 = .ok (.lconst 0, 1) := by decide +kernel
theorem dX6_soonest_3 : decode cX6_soonest 3 = .ok (.lconst 1, 1) := by decide +kernel
theorem dX6_soonest_4 : decode cX6_soonest 4 = .ok (.invokestatic 47, 3) := by decide +kernel
theorem dX6_soonest_7 : decode cX6_soonest 7 = .ok (.ifCond .ne 6, 3) := by decide +kernel
theorem dX6_soonest_10 : decode cX6_soonest 10 = .ok (.bipush (-102), 2) := by decide +kernel
theorem dX6_soonest_12 : decode cX6_soonest 12 = .ok (.ireturn, 1) := by decide +kernel
theorem dX6_soonest_13 : decode cX6_soonest 13 = .ok (.aload_n 0, 1) := by decide +kernel
theorem dX6_soonest_14 : decode cX6_soonest 14 = .ok (.getfield 91, 3) := by decide +kernel
theorem dX6_soonest_17 : decode cX6_soonest 17 = .ok (.ifCond .ne 6, 3) := by decide +kernel
theorem dX6_soonest_20 : decode cX6_soonest 20 = .ok (.bipush (-103), 2) := by decide +kernel
theorem dX6_soonest_22 : decode cX6_soonest 22 = .ok (.ireturn, 1) := by decide +kernel
theorem dX6_soonest_23 : decode cX6_soonest 23 = .ok (.aload_n 0, 1) := by decide +kernel
theorem dX6_soonest_24 : decode cX6_soonest 24 = .ok (.aload_n 0, 1) := by decide +kernel
theorem dX6_soonest_25 : decode cX6_soonest 25 = .ok (.invokevirtual 124, 3) := by decide +kernel
theorem dX6_soonest_28 : decode cX6_soonest 28 = .ok (.invokevirtual 153, 3) := by decide +kernel
theorem dX6_soonest_31 : decode cX6_soonest 31 = .ok (.iload_n 1, 1) := by decide +kernel
theorem dX6_soonest_32 : decode cX6_soonest 32 = .ok (.ifCond .ne 12, 3) := by decide +kernel
theorem dX6_soonest_35 : decode cX6_soonest 35 = .ok (.aload_n 0, 1) := by decide +kernel
theorem dX6_soonest_36 : decode cX6_soonest 36 = .ok (.getfield 16, 3) := by decide +kernel
theorem dX6_soonest_39 : decode cX6_soonest 39 = .ok (.iconst 0, 1) := by decide +kernel
theorem dX6_soonest_40 : decode cX6_soonest 40 = .ok (.iaload, 1) := by decide +kernel
theorem dX6_soonest_41 : decode cX6_soonest 41 = .ok (.goto 9, 3) := by decide +kernel
theorem dX6_soonest_44 : decode cX6_soonest 44 = .ok (.aload_n 0, 1) := by decide +kernel
theorem dX6_soonest_45 : decode cX6_soonest 45 = .ok (.getfield 19, 3) := by decide +kernel
theorem dX6_soonest_48 : decode cX6_soonest 48 = .ok (.iconst 0, 1) := by decide +kernel
theorem dX6_soonest_49 : decode cX6_soonest 49 = .ok (.iaload, 1) := by decide +kernel
theorem dX6_soonest_50 : decode cX6_soonest 50 = .ok (.ireturn, 1) := by decide +kernel
theorem dX6_mostOf_0 : decode cX6_mostOf 0 = .ok (.bipush 18, 2) := by decide +kernel
theorem dX6_mostOf_2 : decode cX6_mostOf 2 = .ok (.istore_n 1, 1) := by decide +kernel
theorem dX6_mostOf_3 : decode cX6_mostOf 3 = .ok (.iconst 0, 1) := by decide +kernel
theorem dX6_mostOf_4 : decode cX6_mostOf 4 = .ok (.istore_n 2, 1) := by decide +kernel
theorem dX6_mostOf_5 : decode cX6_mostOf 5 = .ok (.iload_n 2, 1) := by decide +kernel
theorem dX6_mostOf_6 : decode cX6_mostOf 6 = .ok (.sipush 4096, 3) := by decide +kernel
theorem dX6_mostOf_9 : decode cX6_mostOf 9 = .ok (.if_icmp .ge 36, 3) := by decide +kernel
theorem dX6_mostOf_12 : decode cX6_mostOf 12 = .ok (.aload_n 0, 1) := by decide +kernel
theorem dX6_mostOf_13 : decode cX6_mostOf 13 = .ok (.getfield 16, 3) := by decide +kernel
theorem dX6_mostOf_16 : decode cX6_mostOf 16 = .ok (.iload_n 2, 1) := by decide +kernel
theorem dX6_mostOf_17 : decode cX6_mostOf 17 = .ok (.iaload, 1) := by decide +kernel
theorem dX6_mostOf_18 : decode cX6_mostOf 18 = .ok (.iconst (-1), 1) := by decide +kernel
theorem dX6_mostOf_19 : decode cX6_mostOf 19 = .ok (.if_icmp .eq 18, 3) := by decide +kernel
theorem dX6_mostOf_22 : decode cX6_mostOf 22 = .ok (.iload_n 2, 1) := by decide +kernel
theorem dX6_mostOf_23 : decode cX6_mostOf 23 = .ok (.invokestatic 98, 3) := by decide +kernel
theorem dX6_mostOf_26 : decode cX6_mostOf 26 = .ok (.iload_n 1, 1) := by decide +kernel
theorem dX6_mostOf_27 : decode cX6_mostOf 27 = .ok (.if_icmp .ge 10, 3) := by decide +kernel
theorem dX6_mostOf_30 : decode cX6_mostOf 30 = .ok (.iload_n 2, 1) := by decide +kernel
theorem dX6_mostOf_31 : decode cX6_mostOf 31 = .ok (.invokestatic 98, 3) := by decide +kernel
theorem dX6_mostOf_34 : decode cX6_mostOf 34 = .ok (.goto 4, 3) := by decide +kernel
theorem dX6_mostOf_37 : decode cX6_mostOf 37 = .ok (.iload_n 1, 1) := by decide +kernel
theorem dX6_mostOf_38 : decode cX6_mostOf 38 = .ok (.istore_n 1, 1) := by decide +kernel
theorem dX6_mostOf_39 : decode cX6_mostOf 39 = .ok (.iinc 2 1, 3) := by decide +kernel
theorem dX6_mostOf_42 : decode cX6_mostOf 42 = .ok (.goto (-37), 3) := by decide +kernel
theorem dX6_mostOf_45 : decode cX6_mostOf 45 = .ok (.aload_n 0, 1) := by decide +kernel
theorem dX6_mostOf_46 : decode cX6_mostOf 46 = .ok (.getfield 70, 3) := by decide +kernel
theorem dX6_mostOf_49 : decode cX6_mostOf 49 = .ok (.invokestatic 98, 3) := by decide +kernel
theorem dX6_mostOf_52 : decode cX6_mostOf 52 = .ok (.iload_n 1, 1) := by decide +kernel
theorem dX6_mostOf_53 : decode cX6_mostOf 53 = .ok (.isub, 1) := by decide +kernel
theorem dX6_mostOf_54 : decode cX6_mostOf 54 = .ok (.ireturn, 1) := by decide +kernel
theorem dX6_most_0 : decode cX6_most 0 = .ok (.aload_n 0, 1) := by decide +kernel
theorem dX6_most_1 : decode cX6_most 1 = .ok (.getfield 91, 3) := by decide +kernel
theorem dX6_most_4 : decode cX6_most 4 = .ok (.ifCond .ne 6, 3) := by decide +kernel
theorem dX6_most_7 : decode cX6_most 7 = .ok (.bipush (-103), 2) := by decide +kernel
theorem dX6_most_9 : decode cX6_most 9 = .ok (.ireturn, 1) := by decide +kernel
theorem dX6_most_10 : decode cX6_most 10 = .ok (.aload_n 0, 1) := by decide +kernel
theorem dX6_most_11 : decode cX6_most 11 = .ok (.aload_n 0, 1) := by decide +kernel
theorem dX6_most_12 : decode cX6_most 12 = .ok (.invokevirtual 124, 3) := by decide +kernel
theorem dX6_most_15 : decode cX6_most 15 = .ok (.invokevirtual 153, 3) := by decide +kernel
theorem dX6_most_18 : decode cX6_most 18 = .ok (.aload_n 0, 1) := by decide +kernel
theorem dX6_most_19 : decode cX6_most 19 = .ok (.invokevirtual 157, 3) := by decide +kernel
theorem dX6_most_22 : decode cX6_most 22 = .ok (.ireturn, 1) := by decide +kernel
theorem dX6_manyOf_0 : decode cX6_manyOf 0 = .ok (.iconst 0, 1) := by decide +kernel
theorem dX6_manyOf_1 : decode cX6_manyOf 1 = .ok (.istore_n 1, 1) := by decide +kernel
theorem dX6_manyOf_2 : decode cX6_manyOf 2 = .ok (.iconst 0, 1) := by decide +kernel
theorem dX6_manyOf_3 : decode cX6_manyOf 3 = .ok (.istore_n 2, 1) := by decide +kernel
theorem dX6_manyOf_4 : decode cX6_manyOf 4 = .ok (.iload_n 2, 1) := by decide +kernel
theorem dX6_manyOf_5 : decode cX6_manyOf 5 = .ok (.sipush 4096, 3) := by decide +kernel
theorem dX6_manyOf_8 : decode cX6_manyOf 8 = .ok (.if_icmp .ge 27, 3) := by decide +kernel
theorem dX6_manyOf_11 : decode cX6_manyOf 11 = .ok (.iload_n 1, 1) := by decide +kernel
theorem dX6_manyOf_12 : decode cX6_manyOf 12 = .ok (.aload_n 0, 1) := by decide +kernel
theorem dX6_manyOf_13 : decode cX6_manyOf 13 = .ok (.getfield 16, 3) := by decide +kernel
theorem dX6_manyOf_16 : decode cX6_manyOf 16 = .ok (.iload_n 2, 1) := by decide +kernel
theorem dX6_manyOf_17 : decode cX6_manyOf 17 = .ok (.iaload, 1) := by decide +kernel
theorem dX6_manyOf_18 : decode cX6_manyOf 18 = .ok (.iconst (-1), 1) := by decide +kernel
theorem dX6_manyOf_19 : decode cX6_manyOf 19 = .ok (.if_icmp .ne 7, 3) := by decide +kernel
theorem dX6_manyOf_22 : decode cX6_manyOf 22 = .ok (.iconst 0, 1) := by decide +kernel
theorem dX6_manyOf_23 : decode cX6_manyOf 23 = .ok (.goto 4, 3) := by decide +kernel
theorem dX6_manyOf_26 : decode cX6_manyOf 26 = .ok (.iconst 1, 1) := by decide +kernel
theorem dX6_manyOf_27 : decode cX6_manyOf 27 = .ok (.iadd, 1) := by decide +kernel
theorem dX6_manyOf_28 : decode cX6_manyOf 28 = .ok (.istore_n 1, 1) := by decide +kernel
theorem dX6_manyOf_29 : decode cX6_manyOf 29 = .ok (.iinc 2 1, 3) := by decide +kernel
theorem dX6_manyOf_32 : decode cX6_manyOf 32 = .ok (.goto (-28), 3) := by decide +kernel
theorem dX6_manyOf_35 : decode cX6_manyOf 35 = .ok (.iload_n 1, 1) := by decide +kernel
theorem dX6_manyOf_36 : decode cX6_manyOf 36 = .ok (.ireturn, 1) := by decide +kernel
theorem dX6_holds_0 : decode cX6_holds 0 = .ok (.aload_n 0, 1) := by decide +kernel
theorem dX6_holds_1 : decode cX6_holds 1 = .ok (.getfield 91, 3) := by decide +kernel
theorem dX6_holds_4 : decode cX6_holds 4 = .ok (.ifCond .ne 6, 3) := by decide +kernel
theorem dX6_holds_7 : decode cX6_holds 7 = .ok (.bipush (-103), 2) := by decide +kernel
theorem dX6_holds_9 : decode cX6_holds 9 = .ok (.ireturn, 1) := by decide +kernel
theorem dX6_holds_10 : decode cX6_holds 10 = .ok (.aload_n 0, 1) := by decide +kernel
theorem dX6_holds_11 : decode cX6_holds 11 = .ok (.aload_n 0, 1) := by decide +kernel
theorem dX6_holds_12 : decode cX6_holds 12 = .ok (.invokevirtual 124, 3) := by decide +kernel
theorem dX6_holds_15 : decode cX6_holds 15 = .ok (.invokevirtual 153, 3) := by decide +kernel
theorem dX6_holds_18 : decode cX6_holds 18 = .ok (.aload_n 0, 1) := by decide +kernel
theorem dX6_holds_19 : decode cX6_holds 19 = .ok (.invokevirtual 160, 3) := by decide +kernel
theorem dX6_holds_22 : decode cX6_holds 22 = .ok (.ireturn, 1) := by decide +kernel
theorem dX6_leastBend_0 : decode cX6_leastBend 0 = .ok (.aload_n 0, 1) := by decide +kernel
theorem dX6_leastBend_1 : decode cX6_leastBend 1 = .ok (.getfield 91, 3) := by decide +kernel
theorem dX6_leastBend_4 : decode cX6_leastBend 4 = .ok (.ifCond .eq 12, 3) := by decide +kernel
theorem dX6_leastBend_7 : decode cX6_leastBend 7 = .ok (.aload_n 0, 1) := by decide +kernel
theorem dX6_leastBend_8 : decode cX6_leastBend 8 = .ok (.getfield 163, 3) := by decide +kernel
theorem dX6_leastBend_11 : decode cX6_leastBend 11 = .ok (.bipush 12, 2) := by decide +kernel
theorem dX6_leastBend_13 : decode cX6_leastBend 13 = .ok (.if_icmp .ne 6, 3) := by decide +kernel
theorem dX6_leastBend_16 : decode cX6_leastBend 16 = .ok (.bipush (-103), 2) := by decide +kernel
theorem dX6_leastBend_18 : decode cX6_leastBend 18 = .ok (.ireturn, 1) := by decide +kernel
theorem dX6_leastBend_19 : decode cX6_leastBend 19 = .ok (.aload_n 0, 1) := by decide +kernel
theorem dX6_leastBend_20 : decode cX6_leastBend 20 = .ok (.dup, 1) := by decide +kernel
theorem dX6_leastBend_21 : decode cX6_leastBend 21 = .ok (.getfield 163, 3) := by decide +kernel
theorem dX6_leastBend_24 : decode cX6_leastBend 24 = .ok (.iconst 1, 1) := by decide +kernel
theorem dX6_leastBend_25 : decode cX6_leastBend 25 = .ok (.iadd, 1) := by decide +kernel
theorem dX6_leastBend_26 : decode cX6_leastBend 26 = .ok (.putfield 163, 3) := by decide +kernel
theorem dX6_leastBend_29 : decode cX6_leastBend 29 = .ok (.iconst 0, 1) := by decide +kernel
theorem dX6_leastBend_30 : decode cX6_leastBend 30 = .ok (.istore_n 1, 1) := by decide +kernel
theorem dX6_leastBend_31 : decode cX6_leastBend 31 = .ok (.iload_n 1, 1) := by decide +kernel
theorem dX6_leastBend_32 : decode cX6_leastBend 32 = .ok (.bipush 13, 2) := by decide +kernel
theorem dX6_leastBend_34 : decode cX6_leastBend 34 = .ok (.if_icmp .ge 26, 3) := by decide +kernel
theorem dX6_leastBend_37 : decode cX6_leastBend 37 = .ok (.aload_n 0, 1) := by decide +kernel
theorem dX6_leastBend_38 : decode cX6_leastBend 38 = .ok (.iload_n 1, 1) := by decide +kernel
theorem dX6_leastBend_39 : decode cX6_leastBend 39 = .ok (.invokevirtual 153, 3) := by decide +kernel
theorem dX6_leastBend_42 : decode cX6_leastBend 42 = .ok (.aload_n 0, 1) := by decide +kernel
theorem dX6_leastBend_43 : decode cX6_leastBend 43 = .ok (.getfield 16, 3) := by decide +kernel
theorem dX6_leastBend_46 : decode cX6_leastBend 46 = .ok (.iconst 0, 1) := by decide +kernel
theorem dX6_leastBend_47 : decode cX6_leastBend 47 = .ok (.iaload, 1) := by decide +kernel
theorem dX6_leastBend_48 : decode cX6_leastBend 48 = .ok (.iconst (-1), 1) := by decide +kernel
theorem dX6_leastBend_49 : decode cX6_leastBend 49 = .ok (.if_icmp .eq 5, 3) := by decide +kernel
theorem dX6_leastBend_52 : decode cX6_leastBend 52 = .ok (.iload_n 1, 1) := by decide +kernel
theorem dX6_leastBend_53 : decode cX6_leastBend 53 = .ok (.ireturn, 1) := by decide +kernel
theorem dX6_leastBend_54 : decode cX6_leastBend 54 = .ok (.iinc 1 1, 3) := by decide +kernel
theorem dX6_leastBend_57 : decode cX6_leastBend 57 = .ok (.goto (-26), 3) := by decide +kernel
theorem dX6_leastBend_60 : decode cX6_leastBend 60 = .ok (.iconst (-1), 1) := by decide +kernel
theorem dX6_leastBend_61 : decode cX6_leastBend 61 = .ok (.ireturn, 1) := by decide +kernel
theorem dX6_string_0 : decode cX6_string 0 = .ok (.iload_n 1, 1) := by decide +kernel
theorem dX6_string_1 : decode cX6_string 1 = .ok (.i2l, 1) := by decide +kernel
theorem dX6_string_2 : decode cX6_string 2 = .ok (.lconst 0, 1) := by decide +kernel
theorem dX6_string_3 : decode cX6_string 3 = .ok (.ldc2_w 166, 3) := by decide +kernel
theorem dX6_string_6 : decode cX6_string 6 = .ok (.invokestatic 47, 3) := by decide +kernel
theorem dX6_string_9 : decode cX6_string 9 = .ok (.ifCond .ne 6, 3) := by decide +kernel
theorem dX6_string_12 : decode cX6_string 12 = .ok (.bipush (-102), 2) := by decide +kernel
theorem dX6_string_14 : decode cX6_string 14 = .ok (.ireturn, 1) := by decide +kernel
theorem dX6_string_15 : decode cX6_string 15 = .ok (.aload_n 0, 1) := by decide +kernel
theorem dX6_string_16 : decode cX6_string 16 = .ok (.getfield 88, 3) := by decide +kernel
theorem dX6_string_19 : decode cX6_string 19 = .ok (.iconst 4, 1) := by decide +kernel
theorem dX6_string_20 : decode cX6_string 20 = .ok (.if_icmp .ne 6, 3) := by decide +kernel
theorem dX6_string_23 : decode cX6_string 23 = .ok (.bipush (-104), 2) := by decide +kernel
theorem dX6_string_25 : decode cX6_string 25 = .ok (.ireturn, 1) := by decide +kernel
theorem dX6_string_26 : decode cX6_string 26 = .ok (.aload_n 0, 1) := by decide +kernel
theorem dX6_string_27 : decode cX6_string 27 = .ok (.getfield 29, 3) := by decide +kernel
theorem dX6_string_30 : decode cX6_string 30 = .ok (.aload_n 0, 1) := by decide +kernel
theorem dX6_string_31 : decode cX6_string 31 = .ok (.getfield 88, 3) := by decide +kernel
theorem dX6_string_34 : decode cX6_string 34 = .ok (.iload_n 1, 1) := by decide +kernel
theorem dX6_string_35 : decode cX6_string 35 = .ok (.iastore, 1) := by decide +kernel
theorem dX6_string_36 : decode cX6_string 36 = .ok (.aload_n 0, 1) := by decide +kernel
theorem dX6_string_37 : decode cX6_string 37 = .ok (.dup, 1) := by decide +kernel
theorem dX6_string_38 : decode cX6_string 38 = .ok (.getfield 88, 3) := by decide +kernel
theorem dX6_string_41 : decode cX6_string 41 = .ok (.iconst 1, 1) := by decide +kernel
theorem dX6_string_42 : decode cX6_string 42 = .ok (.iadd, 1) := by decide +kernel
theorem dX6_string_43 : decode cX6_string 43 = .ok (.putfield 88, 3) := by decide +kernel
theorem dX6_string_46 : decode cX6_string 46 = .ok (.aload_n 0, 1) := by decide +kernel
theorem dX6_string_47 : decode cX6_string 47 = .ok (.getfield 88, 3) := by decide +kernel
theorem dX6_string_50 : decode cX6_string 50 = .ok (.ireturn, 1) := by decide +kernel
theorem dX6_forget_0 : decode cX6_forget 0 = .ok (.aload_n 0, 1) := by decide +kernel
theorem dX6_forget_1 : decode cX6_forget 1 = .ok (.getfield 88, 3) := by decide +kernel
theorem dX6_forget_4 : decode cX6_forget 4 = .ok (.istore_n 1, 1) := by decide +kernel
theorem dX6_forget_5 : decode cX6_forget 5 = .ok (.aload_n 0, 1) := by decide +kernel
theorem dX6_forget_6 : decode cX6_forget 6 = .ok (.iconst 0, 1) := by decide +kernel
theorem dX6_forget_7 : decode cX6_forget 7 = .ok (.putfield 88, 3) := by decide +kernel
theorem dX6_forget_10 : decode cX6_forget 10 = .ok (.iload_n 1, 1) := by decide +kernel
theorem dX6_forget_11 : decode cX6_forget 11 = .ok (.ireturn, 1) := by decide +kernel
theorem dX6_rowsFrom_0 : decode cX6_rowsFrom 0 = .ok (.iconst 0, 1) := by decide +kernel
theorem dX6_rowsFrom_1 : decode cX6_rowsFrom 1 = .ok (.istore_n 3, 1) := by decide +kernel
theorem dX6_rowsFrom_2 : decode cX6_rowsFrom 2 = .ok (.iload_n 3, 1) := by decide +kernel
theorem dX6_rowsFrom_3 : decode cX6_rowsFrom 3 = .ok (.sipush 4096, 3) := by decide +kernel
theorem dX6_rowsFrom_6 : decode cX6_rowsFrom 6 = .ok (.if_icmp .ge 16, 3) := by decide +kernel
theorem dX6_rowsFrom_9 : decode cX6_rowsFrom 9 = .ok (.aload_n 0, 1) := by decide +kernel
theorem dX6_rowsFrom_10 : decode cX6_rowsFrom 10 = .ok (.getfield 32, 3) := by decide +kernel
theorem dX6_rowsFrom_13 : decode cX6_rowsFrom 13 = .ok (.iload_n 3, 1) := by decide +kernel
theorem dX6_rowsFrom_14 : decode cX6_rowsFrom 14 = .ok (.iconst 0, 1) := by decide +kernel
theorem dX6_rowsFrom_15 : decode cX6_rowsFrom 15 = .ok (.iastore, 1) := by decide +kernel
theorem dX6_rowsFrom_16 : decode cX6_rowsFrom 16 = .ok (.iinc 3 1, 3) := by decide +kernel
theorem dX6_rowsFrom_19 : decode cX6_rowsFrom 19 = .ok (.goto (-17), 3) := by decide +kernel
theorem dX6_rowsFrom_22 : decode cX6_rowsFrom 22 = .ok (.aload_n 0, 1) := by decide +kernel
theorem dX6_rowsFrom_23 : decode cX6_rowsFrom 23 = .ok (.getfield 32, 3) := by decide +kernel
theorem dX6_rowsFrom_26 : decode cX6_rowsFrom 26 = .ok (.iload_n 1, 1) := by decide +kernel
theorem dX6_rowsFrom_27 : decode cX6_rowsFrom 27 = .ok (.iconst 1, 1) := by decide +kernel
theorem dX6_rowsFrom_28 : decode cX6_rowsFrom 28 = .ok (.iastore, 1) := by decide +kernel
theorem dX6_rowsFrom_29 : decode cX6_rowsFrom 29 = .ok (.iload_n 2, 1) := by decide +kernel
theorem dX6_rowsFrom_30 : decode cX6_rowsFrom 30 = .ok (.istore_n 3, 1) := by decide +kernel
theorem dX6_rowsFrom_31 : decode cX6_rowsFrom 31 = .ok (.iload_n 3, 1) := by decide +kernel
theorem dX6_rowsFrom_32 : decode cX6_rowsFrom 32 = .ok (.aload_n 0, 1) := by decide +kernel
theorem dX6_rowsFrom_33 : decode cX6_rowsFrom 33 = .ok (.getfield 88, 3) := by decide +kernel
theorem dX6_rowsFrom_36 : decode cX6_rowsFrom 36 = .ok (.if_icmp .ge 19, 3) := by decide +kernel
theorem dX6_rowsFrom_39 : decode cX6_rowsFrom 39 = .ok (.aload_n 0, 1) := by decide +kernel
theorem dX6_rowsFrom_40 : decode cX6_rowsFrom 40 = .ok (.aload_n 0, 1) := by decide +kernel
theorem dX6_rowsFrom_41 : decode cX6_rowsFrom 41 = .ok (.getfield 29, 3) := by decide +kernel
theorem dX6_rowsFrom_44 : decode cX6_rowsFrom 44 = .ok (.iload_n 3, 1) := by decide +kernel
theorem dX6_rowsFrom_45 : decode cX6_rowsFrom 45 = .ok (.iaload, 1) := by decide +kernel
theorem dX6_rowsFrom_46 : decode cX6_rowsFrom 46 = .ok (.invokevirtual 168, 3) := by decide +kernel
theorem dX6_rowsFrom_49 : decode cX6_rowsFrom 49 = .ok (.iinc 3 1, 3) := by decide +kernel
theorem dX6_rowsFrom_52 : decode cX6_rowsFrom 52 = .ok (.goto (-21), 3) := by decide +kernel
theorem dX6_rowsFrom_55 : decode cX6_rowsFrom 55 = .ok (.iconst 0, 1) := by decide +kernel
theorem dX6_rowsFrom_56 : decode cX6_rowsFrom 56 = .ok (.istore_n 3, 1) := by decide +kernel
theorem dX6_rowsFrom_57 : decode cX6_rowsFrom 57 = .ok (.iconst 0, 1) := by decide +kernel
theorem dX6_rowsFrom_58 : decode cX6_rowsFrom 58 = .ok (.istore 4, 2) := by decide +kernel
theorem dX6_rowsFrom_60 : decode cX6_rowsFrom 60 = .ok (.iload 4, 2) := by decide +kernel
theorem dX6_rowsFrom_62 : decode cX6_rowsFrom 62 = .ok (.sipush 4096, 3) := by decide +kernel
theorem dX6_rowsFrom_65 : decode cX6_rowsFrom 65 = .ok (.if_icmp .ge 19, 3) := by decide +kernel
theorem dX6_rowsFrom_68 : decode cX6_rowsFrom 68 = .ok (.iload_n 3, 1) := by decide +kernel
theorem dX6_rowsFrom_69 : decode cX6_rowsFrom 69 = .ok (.aload_n 0, 1) := by decide +kernel
theorem dX6_rowsFrom_70 : decode cX6_rowsFrom 70 = .ok (.getfield 32, 3) := by decide +kernel
theorem dX6_rowsFrom_73 : decode cX6_rowsFrom 73 = .ok (.iload 4, 2) := by decide +kernel
theorem dX6_rowsFrom_75 : decode cX6_rowsFrom 75 = .ok (.iaload, 1) := by decide +kernel
theorem dX6_rowsFrom_76 : decode cX6_rowsFrom 76 = .ok (.iadd, 1) := by decide +kernel
theorem dX6_rowsFrom_77 : decode cX6_rowsFrom 77 = .ok (.istore_n 3, 1) := by decide +kernel
theorem dX6_rowsFrom_78 : decode cX6_rowsFrom 78 = .ok (.iinc 4 1, 3) := by decide +kernel
theorem dX6_rowsFrom_81 : decode cX6_rowsFrom 81 = .ok (.goto (-21), 3) := by decide +kernel
theorem dX6_rowsFrom_84 : decode cX6_rowsFrom 84 = .ok (.iload_n 3, 1) := by decide +kernel
theorem dX6_rowsFrom_85 : decode cX6_rowsFrom 85 = .ok (.ireturn, 1) := by decide +kernel
theorem dX6_stepAll_0 : decode cX6_stepAll 0 = .ok (.iconst 0, 1) := by decide +kernel
theorem dX6_stepAll_1 : decode cX6_stepAll 1 = .ok (.istore_n 2, 1) := by decide +kernel
theorem dX6_stepAll_2 : decode cX6_stepAll 2 = .ok (.iload_n 2, 1) := by decide +kernel
theorem dX6_stepAll_3 : decode cX6_stepAll 3 = .ok (.sipush 4096, 3) := by decide +kernel
theorem dX6_stepAll_6 : decode cX6_stepAll 6 = .ok (.if_icmp .ge 16, 3) := by decide +kernel
theorem dX6_stepAll_9 : decode cX6_stepAll 9 = .ok (.aload_n 0, 1) := by decide +kernel
theorem dX6_stepAll_10 : decode cX6_stepAll 10 = .ok (.getfield 35, 3) := by decide +kernel
theorem dX6_stepAll_13 : decode cX6_stepAll 13 = .ok (.iload_n 2, 1) := by decide +kernel
theorem dX6_stepAll_14 : decode cX6_stepAll 14 = .ok (.iconst 0, 1) := by decide +kernel
theorem dX6_stepAll_15 : decode cX6_stepAll 15 = .ok (.iastore, 1) := by decide +kernel
theorem dX6_stepAll_16 : decode cX6_stepAll 16 = .ok (.iinc 2 1, 3) := by decide +kernel
theorem dX6_stepAll_19 : decode cX6_stepAll 19 = .ok (.goto (-17), 3) := by decide +kernel
theorem dX6_stepAll_22 : decode cX6_stepAll 22 = .ok (.iconst 0, 1) := by decide +kernel
theorem dX6_stepAll_23 : decode cX6_stepAll 23 = .ok (.istore_n 2, 1) := by decide +kernel
theorem dX6_stepAll_24 : decode cX6_stepAll 24 = .ok (.iload_n 2, 1) := by decide +kernel
theorem dX6_stepAll_25 : decode cX6_stepAll 25 = .ok (.sipush 4096, 3) := by decide +kernel
theorem dX6_stepAll_28 : decode cX6_stepAll 28 = .ok (.if_icmp .ge 75, 3) := by decide +kernel
theorem dX6_stepAll_31 : decode cX6_stepAll 31 = .ok (.iconst 0, 1) := by decide +kernel
theorem dX6_stepAll_32 : decode cX6_stepAll 32 = .ok (.istore_n 3, 1) := by decide +kernel
theorem dX6_stepAll_33 : decode cX6_stepAll 33 = .ok (.iload_n 3, 1) := by decide +kernel
theorem dX6_stepAll_34 : decode cX6_stepAll 34 = .ok (.bipush 42, 2) := by decide +kernel
theorem dX6_stepAll_36 : decode cX6_stepAll 36 = .ok (.if_icmp .ge 61, 3) := by decide +kernel
theorem dX6_stepAll_39 : decode cX6_stepAll 39 = .ok (.aload_n 0, 1) := by decide +kernel
theorem dX6_stepAll_40 : decode cX6_stepAll 40 = .ok (.getfield 32, 3) := by decide +kernel
theorem dX6_stepAll_43 : decode cX6_stepAll 43 = .ok (.iload_n 2, 1) := by decide +kernel
theorem dX6_stepAll_44 : decode cX6_stepAll 44 = .ok (.iaload, 1) := by decide +kernel
theorem dX6_stepAll_45 : decode cX6_stepAll 45 = .ok (.ifCond .le 52, 3) := by decide +kernel
theorem dX6_stepAll_48 : decode cX6_stepAll 48 = .ok (.aload_n 0, 1) := by decide +kernel
theorem dX6_stepAll_49 : decode cX6_stepAll 49 = .ok (.iload_n 2, 1) := by decide +kernel
theorem dX6_stepAll_50 : decode cX6_stepAll 50 = .ok (.iload_n 3, 1) := by decide +kernel
theorem dX6_stepAll_51 : decode cX6_stepAll 51 = .ok (.aload_n 0, 1) := by decide +kernel
theorem dX6_stepAll_52 : decode cX6_stepAll 52 = .ok (.invokevirtual 124, 3) := by decide +kernel
theorem dX6_stepAll_55 : decode cX6_stepAll 55 = .ok (.invokevirtual 142, 3) := by decide +kernel
theorem dX6_stepAll_58 : decode cX6_stepAll 58 = .ok (.istore 4, 2) := by decide +kernel
theorem dX6_stepAll_60 : decode cX6_stepAll 60 = .ok (.iload 4, 2) := by decide +kernel
theorem dX6_stepAll_62 : decode cX6_stepAll 62 = .ok (.iconst (-1), 1) := by decide +kernel
theorem dX6_stepAll_63 : decode cX6_stepAll 63 = .ok (.if_icmp .eq 28, 3) := by decide +kernel
theorem dX6_stepAll_66 : decode cX6_stepAll 66 = .ok (.iload 4, 2) := by decide +kernel
theorem dX6_stepAll_68 : decode cX6_stepAll 68 = .ok (.invokestatic 118, 3) := by decide +kernel
theorem dX6_stepAll_71 : decode cX6_stepAll 71 = .ok (.iload_n 1, 1) := by decide +kernel
theorem dX6_stepAll_72 : decode cX6_stepAll 72 = .ok (.if_icmp .ne 19, 3) := by decide +kernel
theorem dX6_stepAll_75 : decode cX6_stepAll 75 = .ok (.aload_n 0, 1) := by decide +kernel
theorem dX6_stepAll_76 : decode cX6_stepAll 76 = .ok (.getfield 35, 3) := by decide +kernel
theorem dX6_stepAll_79 : decode cX6_stepAll 79 = .ok (.iload 4, 2) := by decide +kernel
theorem dX6_stepAll_81 : decode cX6_stepAll 81 = .ok (.dup2, 1) := by decide +kernel
theorem dX6_stepAll_82 : decode cX6_stepAll 82 = .ok (.iaload, 1) := by decide +kernel
theorem dX6_stepAll_83 : decode cX6_stepAll 83 = .ok (.aload_n 0, 1) := by decide +kernel
theorem dX6_stepAll_84 : decode cX6_stepAll 84 = .ok (.getfield 32, 3) := by decide +kernel
theorem dX6_stepAll_87 : decode cX6_stepAll 87 = .ok (.iload_n 2, 1) := by decide +kernel
theorem dX6_stepAll_88 : decode cX6_stepAll 88 = .ok (.iaload, 1) := by decide +kernel
theorem dX6_stepAll_89 : decode cX6_stepAll 89 = .ok (.iadd, 1) := by decide +kernel
theorem dX6_stepAll_90 : decode cX6_stepAll 90 = .ok (.iastore, 1) := by decide +kernel
theorem dX6_stepAll_91 : decode cX6_stepAll 91 = .ok (.iinc 3 1, 3) := by decide +kernel
theorem dX6_stepAll_94 : decode cX6_stepAll 94 = .ok (.goto (-61), 3) := by decide +kernel
theorem dX6_stepAll_97 : decode cX6_stepAll 97 = .ok (.iinc 2 1, 3) := by decide +kernel
theorem dX6_stepAll_100 : decode cX6_stepAll 100 = .ok (.goto (-76), 3) := by decide +kernel
theorem dX6_stepAll_103 : decode cX6_stepAll 103 = .ok (.iconst 0, 1) := by decide +kernel
theorem dX6_stepAll_104 : decode cX6_stepAll 104 = .ok (.istore_n 2, 1) := by decide +kernel
theorem dX6_stepAll_105 : decode cX6_stepAll 105 = .ok (.iload_n 2, 1) := by decide +kernel
theorem dX6_stepAll_106 : decode cX6_stepAll 106 = .ok (.sipush 4096, 3) := by decide +kernel
theorem dX6_stepAll_109 : decode cX6_stepAll 109 = .ok (.if_icmp .ge 21, 3) := by decide +kernel
theorem dX6_stepAll_112 : decode cX6_stepAll 112 = .ok (.aload_n 0, 1) := by decide +kernel
theorem dX6_stepAll_113 : decode cX6_stepAll 113 = .ok (.getfield 32, 3) := by decide +kernel
theorem dX6_stepAll_116 : decode cX6_stepAll 116 = .ok (.iload_n 2, 1) := by decide +kernel
theorem dX6_stepAll_117 : decode cX6_stepAll 117 = .ok (.aload_n 0, 1) := by decide +kernel
theorem dX6_stepAll_118 : decode cX6_stepAll 118 = .ok (.getfield 35, 3) := by decide +kernel
theorem dX6_stepAll_121 : decode cX6_stepAll 121 = .ok (.iload_n 2, 1) := by decide +kernel
theorem dX6_stepAll_122 : decode cX6_stepAll 122 = .ok (.iaload, 1) := by decide +kernel
theorem dX6_stepAll_123 : decode cX6_stepAll 123 = .ok (.iastore, 1) := by decide +kernel
theorem dX6_stepAll_124 : decode cX6_stepAll 124 = .ok (.iinc 2 1, 3) := by decide +kernel
theorem dX6_stepAll_127 : decode cX6_stepAll 127 = .ok (.goto (-22), 3) := by decide +kernel
theorem dX6_stepAll_130 : decode cX6_stepAll 130 = .ok (.return_, 1) := by decide +kernel
theorem dX6_layFits_0 : decode cX6_layFits 0 = .ok (.aload_n 0, 1) := by decide +kernel
theorem dX6_layFits_1 : decode cX6_layFits 1 = .ok (.aload_n 0, 1) := by decide +kernel
theorem dX6_layFits_2 : decode cX6_layFits 2 = .ok (.getfield 88, 3) := by decide +kernel
theorem dX6_layFits_5 : decode cX6_layFits 5 = .ok (.ifCond .ne 7, 3) := by decide +kernel
theorem dX6_layFits_8 : decode cX6_layFits 8 = .ok (.iconst 1, 1) := by decide +kernel
theorem dX6_layFits_9 : decode cX6_layFits 9 = .ok (.goto 4, 3) := by decide +kernel
theorem dX6_layFits_12 : decode cX6_layFits 12 = .ok (.iconst 0, 1) := by decide +kernel
theorem dX6_layFits_13 : decode cX6_layFits 13 = .ok (.putfield 171, 3) := by decide +kernel
theorem dX6_layFits_16 : decode cX6_layFits 16 = .ok (.aload_n 0, 1) := by decide +kernel
theorem dX6_layFits_17 : decode cX6_layFits 17 = .ok (.iconst 0, 1) := by decide +kernel
theorem dX6_layFits_18 : decode cX6_layFits 18 = .ok (.putfield 174, 3) := by decide +kernel
theorem dX6_layFits_21 : decode cX6_layFits 21 = .ok (.aload_n 0, 1) := by decide +kernel
theorem dX6_layFits_22 : decode cX6_layFits 22 = .ok (.iconst (-1), 1) := by decide +kernel
theorem dX6_layFits_23 : decode cX6_layFits 23 = .ok (.putfield 177, 3) := by decide +kernel
theorem dX6_layFits_26 : decode cX6_layFits 26 = .ok (.iconst 0, 1) := by decide +kernel
theorem dX6_layFits_27 : decode cX6_layFits 27 = .ok (.istore_n 1, 1) := by decide +kernel
theorem dX6_layFits_28 : decode cX6_layFits 28 = .ok (.iload_n 1, 1) := by decide +kernel
theorem dX6_layFits_29 : decode cX6_layFits 29 = .ok (.bipush 42, 2) := by decide +kernel
theorem dX6_layFits_31 : decode cX6_layFits 31 = .ok (.if_icmp .ge 111, 3) := by decide +kernel
theorem dX6_layFits_34 : decode cX6_layFits 34 = .ok (.aload_n 0, 1) := by decide +kernel
theorem dX6_layFits_35 : decode cX6_layFits 35 = .ok (.getfield 88, 3) := by decide +kernel
theorem dX6_layFits_38 : decode cX6_layFits 38 = .ok (.ifCond .le 104, 3) := by decide +kernel
theorem dX6_layFits_41 : decode cX6_layFits 41 = .ok (.aload_n 0, 1) := by decide +kernel
theorem dX6_layFits_42 : decode cX6_layFits 42 = .ok (.aload_n 0, 1) := by decide +kernel
theorem dX6_layFits_43 : decode cX6_layFits 43 = .ok (.getfield 70, 3) := by decide +kernel
theorem dX6_layFits_46 : decode cX6_layFits 46 = .ok (.iload_n 1, 1) := by decide +kernel
theorem dX6_layFits_47 : decode cX6_layFits 47 = .ok (.aload_n 0, 1) := by decide +kernel
theorem dX6_layFits_48 : decode cX6_layFits 48 = .ok (.invokevirtual 124, 3) := by decide +kernel
theorem dX6_layFits_51 : decode cX6_layFits 51 = .ok (.invokevirtual 142, 3) := by decide +kernel
theorem dX6_layFits_54 : decode cX6_layFits 54 = .ok (.istore_n 2, 1) := by decide +kernel
theorem dX6_layFits_55 : decode cX6_layFits 55 = .ok (.iload_n 2, 1) := by decide +kernel
theorem dX6_layFits_56 : decode cX6_layFits 56 = .ok (.iconst (-1), 1) := by decide +kernel
theorem dX6_layFits_57 : decode cX6_layFits 57 = .ok (.if_icmp .eq 25, 3) := by decide +kernel
theorem dX6_layFits_60 : decode cX6_layFits 60 = .ok (.iload_n 2, 1) := by decide +kernel
theorem dX6_layFits_61 : decode cX6_layFits 61 = .ok (.invokestatic 118, 3) := by decide +kernel
theorem dX6_layFits_64 : decode cX6_layFits 64 = .ok (.aload_n 0, 1) := by decide +kernel
theorem dX6_layFits_65 : decode cX6_layFits 65 = .ok (.getfield 29, 3) := by decide +kernel
theorem dX6_layFits_68 : decode cX6_layFits 68 = .ok (.iconst 0, 1) := by decide +kernel
theorem dX6_layFits_69 : decode cX6_layFits 69 = .ok (.iaload, 1) := by decide +kernel
theorem dX6_layFits_70 : decode cX6_layFits 70 = .ok (.if_icmp .ne 12, 3) := by decide +kernel
theorem dX6_layFits_73 : decode cX6_layFits 73 = .ok (.aload_n 0, 1) := by decide +kernel
theorem dX6_layFits_74 : decode cX6_layFits 74 = .ok (.iload_n 2, 1) := by decide +kernel
theorem dX6_layFits_75 : decode cX6_layFits 75 = .ok (.iconst 1, 1) := by decide +kernel
theorem dX6_layFits_76 : decode cX6_layFits 76 = .ok (.invokevirtual 180, 3) := by decide +kernel
theorem dX6_layFits_79 : decode cX6_layFits 79 = .ok (.goto 4, 3) := by decide +kernel
theorem dX6_layFits_82 : decode cX6_layFits 82 = .ok (.iconst 0, 1) := by decide +kernel
theorem dX6_layFits_83 : decode cX6_layFits 83 = .ok (.istore_n 3, 1) := by decide +kernel
theorem dX6_layFits_84 : decode cX6_layFits 84 = .ok (.aload_n 0, 1) := by decide +kernel
theorem dX6_layFits_85 : decode cX6_layFits 85 = .ok (.dup, 1) := by decide +kernel
theorem dX6_layFits_86 : decode cX6_layFits 86 = .ok (.getfield 171, 3) := by decide +kernel
theorem dX6_layFits_89 : decode cX6_layFits 89 = .ok (.iload_n 3, 1) := by decide +kernel
theorem dX6_layFits_90 : decode cX6_layFits 90 = .ok (.iadd, 1) := by decide +kernel
theorem dX6_layFits_91 : decode cX6_layFits 91 = .ok (.putfield 171, 3) := by decide +kernel
theorem dX6_layFits_94 : decode cX6_layFits 94 = .ok (.aload_n 0, 1) := by decide +kernel
theorem dX6_layFits_95 : decode cX6_layFits 95 = .ok (.dup, 1) := by decide +kernel
theorem dX6_layFits_96 : decode cX6_layFits 96 = .ok (.getfield 174, 3) := by decide +kernel
theorem dX6_layFits_99 : decode cX6_layFits 99 = .ok (.iload_n 3, 1) := by decide +kernel
theorem dX6_layFits_100 : decode cX6_layFits 100 = .ok (.ifCond .le 7, 3) := by decide +kernel
theorem dX6_layFits_103 : decode cX6_layFits 103 = .ok (.iconst 1, 1) := by decide +kernel
theorem dX6_layFits_104 : decode cX6_layFits 104 = .ok (.goto 4, 3) := by decide +kernel
theorem dX6_layFits_107 : decode cX6_layFits 107 = .ok (.iconst 0, 1) := by decide +kernel
theorem dX6_layFits_108 : decode cX6_layFits 108 = .ok (.iadd, 1) := by decide +kernel
theorem dX6_layFits_109 : decode cX6_layFits 109 = .ok (.putfield 174, 3) := by decide +kernel
theorem dX6_layFits_112 : decode cX6_layFits 112 = .ok (.aload_n 0, 1) := by decide +kernel
theorem dX6_layFits_113 : decode cX6_layFits 113 = .ok (.iload_n 3, 1) := by decide +kernel
theorem dX6_layFits_114 : decode cX6_layFits 114 = .ok (.ifCond .le 15, 3) := by decide +kernel
theorem dX6_layFits_117 : decode cX6_layFits 117 = .ok (.aload_n 0, 1) := by decide +kernel
theorem dX6_layFits_118 : decode cX6_layFits 118 = .ok (.getfield 177, 3) := by decide +kernel
theorem dX6_layFits_121 : decode cX6_layFits 121 = .ok (.iconst (-1), 1) := by decide +kernel
theorem dX6_layFits_122 : decode cX6_layFits 122 = .ok (.if_icmp .ne 7, 3) := by decide +kernel
theorem dX6_layFits_125 : decode cX6_layFits 125 = .ok (.iload_n 1, 1) := by decide +kernel
theorem dX6_layFits_126 : decode cX6_layFits 126 = .ok (.goto 7, 3) := by decide +kernel
theorem dX6_layFits_129 : decode cX6_layFits 129 = .ok (.aload_n 0, 1) := by decide +kernel
theorem dX6_layFits_130 : decode cX6_layFits 130 = .ok (.getfield 177, 3) := by decide +kernel
theorem dX6_layFits_133 : decode cX6_layFits 133 = .ok (.putfield 177, 3) := by decide +kernel
theorem dX6_layFits_136 : decode cX6_layFits 136 = .ok (.iinc 1 1, 3) := by decide +kernel
theorem dX6_layFits_139 : decode cX6_layFits 139 = .ok (.goto (-111), 3) := by decide +kernel
theorem dX6_layFits_142 : decode cX6_layFits 142 = .ok (.return_, 1) := by decide +kernel
theorem dX6_fits_0 : decode cX6_fits 0 = .ok (.iload_n 1, 1) := by decide +kernel
theorem dX6_fits_1 : decode cX6_fits 1 = .ok (.i2l, 1) := by decide +kernel
theorem dX6_fits_2 : decode cX6_fits 2 = .ok (.lconst 0, 1) := by decide +kernel
theorem dX6_fits_3 : decode cX6_fits 3 = .ok (.ldc2_w 108, 3) := by decide +kernel
theorem dX6_fits_6 : decode cX6_fits 6 = .ok (.invokestatic 47, 3) := by decide +kernel
theorem dX6_fits_9 : decode cX6_fits 9 = .ok (.ifCond .ne 6, 3) := by decide +kernel
theorem dX6_fits_12 : decode cX6_fits 12 = .ok (.bipush (-102), 2) := by decide +kernel
theorem dX6_fits_14 : decode cX6_fits 14 = .ok (.ireturn, 1) := by decide +kernel
theorem dX6_fits_15 : decode cX6_fits 15 = .ok (.aload_n 0, 1) := by decide +kernel
theorem dX6_fits_16 : decode cX6_fits 16 = .ok (.getfield 91, 3) := by decide +kernel
theorem dX6_fits_19 : decode cX6_fits 19 = .ok (.ifCond .ne 6, 3) := by decide +kernel
theorem dX6_fits_22 : decode cX6_fits 22 = .ok (.bipush (-103), 2) := by decide +kernel
theorem dX6_fits_24 : decode cX6_fits 24 = .ok (.ireturn, 1) := by decide +kernel
theorem dX6_fits_25 : decode cX6_fits 25 = .ok (.aload_n 0, 1) := by decide +kernel
theorem dX6_fits_26 : decode cX6_fits 26 = .ok (.invokevirtual 183, 3) := by decide +kernel
theorem dX6_fits_29 : decode cX6_fits 29 = .ok (.iload_n 1, 1) := by decide +kernel
theorem dX6_fits_30 : decode cX6_fits 30 = .ok (.ifCond .ne 10, 3) := by decide +kernel
theorem dX6_fits_33 : decode cX6_fits 33 = .ok (.aload_n 0, 1) := by decide +kernel
theorem dX6_fits_34 : decode cX6_fits 34 = .ok (.getfield 171, 3) := by decide +kernel
theorem dX6_fits_37 : decode cX6_fits 37 = .ok (.goto 19, 3) := by decide +kernel
theorem dX6_fits_40 : decode cX6_fits 40 = .ok (.iload_n 1, 1) := by decide +kernel
theorem dX6_fits_41 : decode cX6_fits 41 = .ok (.iconst 1, 1) := by decide +kernel
theorem dX6_fits_42 : decode cX6_fits 42 = .ok (.if_icmp .ne 10, 3) := by decide +kernel
theorem dX6_fits_45 : decode cX6_fits 45 = .ok (.aload_n 0, 1) := by decide +kernel
theorem dX6_fits_46 : decode cX6_fits 46 = .ok (.getfield 174, 3) := by decide +kernel
theorem dX6_fits_49 : decode cX6_fits 49 = .ok (.goto 7, 3) := by decide +kernel
theorem dX6_fits_52 : decode cX6_fits 52 = .ok (.aload_n 0, 1) := by decide +kernel
theorem dX6_fits_53 : decode cX6_fits 53 = .ok (.getfield 177, 3) := by decide +kernel
theorem dX6_fits_56 : decode cX6_fits 56 = .ok (.ireturn, 1) := by decide +kernel
theorem dX6_draw_0 : decode cX6_draw 0 = .ok (.aload_n 0, 1) := by decide +kernel
theorem dX6_draw_1 : decode cX6_draw 1 = .ok (.ldc2_w 186, 3) := by decide +kernel
theorem dX6_draw_4 : decode cX6_draw 4 = .ok (.aload_n 0, 1) := by decide +kernel
theorem dX6_draw_5 : decode cX6_draw 5 = .ok (.getfield 188, 3) := by decide +kernel
theorem dX6_draw_8 : decode cX6_draw 8 = .ok (.i2l, 1) := by decide +kernel
theorem dX6_draw_9 : decode cX6_draw 9 = .ok (.lmul, 1) := by decide +kernel
theorem dX6_draw_10 : decode cX6_draw 10 = .ok (.ldc2_w 191, 3) := by decide +kernel
theorem dX6_draw_13 : decode cX6_draw 13 = .ok (.ladd, 1) := by decide +kernel
theorem dX6_draw_14 : decode cX6_draw 14 = .ok (.ldc2_w 193, 3) := by decide +kernel
theorem dX6_draw_17 : decode cX6_draw 17 = .ok (.land, 1) := by decide +kernel
theorem dX6_draw_18 : decode cX6_draw 18 = .ok (.l2i, 1) := by decide +kernel
theorem dX6_draw_19 : decode cX6_draw 19 = .ok (.putfield 188, 3) := by decide +kernel
theorem dX6_draw_22 : decode cX6_draw 22 = .ok (.aload_n 0, 1) := by decide +kernel
theorem dX6_draw_23 : decode cX6_draw 23 = .ok (.getfield 188, 3) := by decide +kernel
theorem dX6_draw_26 : decode cX6_draw 26 = .ok (.ldc 195, 2) := by decide +kernel
theorem dX6_draw_28 : decode cX6_draw 28 = .ok (.idiv, 1) := by decide +kernel
theorem dX6_draw_29 : decode cX6_draw 29 = .ok (.iload_n 1, 1) := by decide +kernel
theorem dX6_draw_30 : decode cX6_draw 30 = .ok (.irem, 1) := by decide +kernel
theorem dX6_draw_31 : decode cX6_draw 31 = .ok (.ireturn, 1) := by decide +kernel
theorem dX6_days_0 : decode cX6_days 0 = .ok (.iload_n 1, 1) := by decide +kernel
theorem dX6_days_1 : decode cX6_days 1 = .ok (.i2l, 1) := by decide +kernel
theorem dX6_days_2 : decode cX6_days 2 = .ok (.lconst 1, 1) := by decide +kernel
theorem dX6_days_3 : decode cX6_days 3 = .ok (.ldc2_w 196, 3) := by decide +kernel
theorem dX6_days_6 : decode cX6_days 6 = .ok (.invokestatic 47, 3) := by decide +kernel
theorem dX6_days_9 : decode cX6_days 9 = .ok (.ifCond .eq 19, 3) := by decide +kernel
theorem dX6_days_12 : decode cX6_days 12 = .ok (.iload_n 2, 1) := by decide +kernel
theorem dX6_days_13 : decode cX6_days 13 = .ok (.ifCond .lt 15, 3) := by decide +kernel
theorem dX6_days_16 : decode cX6_days 16 = .ok (.iload_n 3, 1) := by decide +kernel
theorem dX6_days_17 : decode cX6_days 17 = .ok (.i2l, 1) := by decide +kernel
theorem dX6_days_18 : decode cX6_days 18 = .ok (.lconst 0, 1) := by decide +kernel
theorem dX6_days_19 : decode cX6_days 19 = .ok (.ldc2_w 60, 3) := by decide +kernel
theorem dX6_days_22 : decode cX6_days 22 = .ok (.invokestatic 47, 3) := by decide +kernel
theorem dX6_days_25 : decode cX6_days 25 = .ok (.ifCond .ne 6, 3) := by decide +kernel
theorem dX6_days_28 : decode cX6_days 28 = .ok (.bipush (-102), 2) := by decide +kernel
theorem dX6_days_30 : decode cX6_days 30 = .ok (.ireturn, 1) := by decide +kernel
theorem dX6_days_31 : decode cX6_days 31 = .ok (.aload_n 0, 1) := by decide +kernel
theorem dX6_days_32 : decode cX6_days 32 = .ok (.getfield 91, 3) := by decide +kernel
theorem dX6_days_35 : decode cX6_days 35 = .ok (.ifCond .ne 6, 3) := by decide +kernel
theorem dX6_days_38 : decode cX6_days 38 = .ok (.bipush (-103), 2) := by decide +kernel
theorem dX6_days_40 : decode cX6_days 40 = .ok (.ireturn, 1) := by decide +kernel
theorem dX6_days_41 : decode cX6_days 41 = .ok (.aload_n 0, 1) := by decide +kernel
theorem dX6_days_42 : decode cX6_days 42 = .ok (.iload_n 2, 1) := by decide +kernel
theorem dX6_days_43 : decode cX6_days 43 = .ok (.putfield 188, 3) := by decide +kernel
theorem dX6_days_46 : decode cX6_days 46 = .ok (.aload_n 0, 1) := by decide +kernel
theorem dX6_days_47 : decode cX6_days 47 = .ok (.getfield 70, 3) := by decide +kernel
theorem dX6_days_50 : decode cX6_days 50 = .ok (.istore 4, 2) := by decide +kernel
theorem dX6_days_52 : decode cX6_days 52 = .ok (.iconst 0, 1) := by decide +kernel
theorem dX6_days_53 : decode cX6_days 53 = .ok (.istore 5, 2) := by decide +kernel
theorem dX6_days_55 : decode cX6_days 55 = .ok (.iconst 0, 1) := by decide +kernel
theorem dX6_days_56 : decode cX6_days 56 = .ok (.istore 6, 2) := by decide +kernel
theorem dX6_days_58 : decode cX6_days 58 = .ok (.iconst 0, 1) := by decide +kernel
theorem dX6_days_59 : decode cX6_days 59 = .ok (.istore 7, 2) := by decide +kernel
theorem dX6_days_61 : decode cX6_days 61 = .ok (.iload 7, 2) := by decide +kernel
theorem dX6_days_63 : decode cX6_days 63 = .ok (.iload_n 1, 1) := by decide +kernel
theorem dX6_days_64 : decode cX6_days 64 = .ok (.if_icmp .ge 55, 3) := by decide +kernel
theorem dX6_days_67 : decode cX6_days 67 = .ok (.aload_n 0, 1) := by decide +kernel
theorem dX6_days_68 : decode cX6_days 68 = .ok (.bipush 42, 2) := by decide +kernel
theorem dX6_days_70 : decode cX6_days 70 = .ok (.invokevirtual 198, 3) := by decide +kernel
theorem dX6_days_73 : decode cX6_days 73 = .ok (.istore 8, 2) := by decide +kernel
theorem dX6_days_75 : decode cX6_days 75 = .ok (.aload_n 0, 1) := by decide +kernel
theorem dX6_days_76 : decode cX6_days 76 = .ok (.iload 4, 2) := by decide +kernel
theorem dX6_days_78 : decode cX6_days 78 = .ok (.iload 8, 2) := by decide +kernel
theorem dX6_days_80 : decode cX6_days 80 = .ok (.aload_n 0, 1) := by decide +kernel
theorem dX6_days_81 : decode cX6_days 81 = .ok (.invokevirtual 124, 3) := by decide +kernel
theorem dX6_days_84 : decode cX6_days 84 = .ok (.invokevirtual 142, 3) := by decide +kernel
theorem dX6_days_87 : decode cX6_days 87 = .ok (.istore 9, 2) := by decide +kernel
theorem dX6_days_89 : decode cX6_days 89 = .ok (.iload 9, 2) := by decide +kernel
theorem dX6_days_91 : decode cX6_days 91 = .ok (.iconst (-1), 1) := by decide +kernel
theorem dX6_days_92 : decode cX6_days 92 = .ok (.if_icmp .eq 21, 3) := by decide +kernel
theorem dX6_days_95 : decode cX6_days 95 = .ok (.iload 9, 2) := by decide +kernel
theorem dX6_days_97 : decode cX6_days 97 = .ok (.istore 4, 2) := by decide +kernel
theorem dX6_days_99 : decode cX6_days 99 = .ok (.iinc 5 1, 3) := by decide +kernel
theorem dX6_days_102 : decode cX6_days 102 = .ok (.iload 6, 2) := by decide +kernel
theorem dX6_days_104 : decode cX6_days 104 = .ok (.aload_n 0, 1) := by decide +kernel
theorem dX6_days_105 : decode cX6_days 105 = .ok (.iload 8, 2) := by decide +kernel
theorem dX6_days_107 : decode cX6_days 107 = .ok (.invokevirtual 146, 3) := by decide +kernel
theorem dX6_days_110 : decode cX6_days 110 = .ok (.iadd, 1) := by decide +kernel
theorem dX6_days_111 : decode cX6_days 111 = .ok (.istore 6, 2) := by decide +kernel
theorem dX6_days_113 : decode cX6_days 113 = .ok (.iinc 7 1, 3) := by decide +kernel
theorem dX6_days_116 : decode cX6_days 116 = .ok (.goto (-55), 3) := by decide +kernel
theorem dX6_days_119 : decode cX6_days 119 = .ok (.iload_n 3, 1) := by decide +kernel
theorem dX6_days_120 : decode cX6_days 120 = .ok (.ifCond .ne 8, 3) := by decide +kernel
theorem dX6_days_123 : decode cX6_days 123 = .ok (.iload 5, 2) := by decide +kernel
theorem dX6_days_125 : decode cX6_days 125 = .ok (.goto 30, 3) := by decide +kernel
theorem dX6_days_128 : decode cX6_days 128 = .ok (.iload_n 3, 1) := by decide +kernel
theorem dX6_days_129 : decode cX6_days 129 = .ok (.iconst 1, 1) := by decide +kernel
theorem dX6_days_130 : decode cX6_days 130 = .ok (.if_icmp .ne 8, 3) := by decide +kernel
theorem dX6_days_133 : decode cX6_days 133 = .ok (.iload 6, 2) := by decide +kernel
theorem dX6_days_135 : decode cX6_days 135 = .ok (.goto 20, 3) := by decide +kernel
theorem dX6_days_138 : decode cX6_days 138 = .ok (.iload_n 3, 1) := by decide +kernel
theorem dX6_days_139 : decode cX6_days 139 = .ok (.iconst 2, 1) := by decide +kernel
theorem dX6_days_140 : decode cX6_days 140 = .ok (.if_icmp .ne 11, 3) := by decide +kernel
theorem dX6_days_143 : decode cX6_days 143 = .ok (.iload 4, 2) := by decide +kernel
theorem dX6_days_145 : decode cX6_days 145 = .ok (.invokestatic 98, 3) := by decide +kernel
theorem dX6_days_148 : decode cX6_days 148 = .ok (.goto 7, 3) := by decide +kernel
theorem dX6_days_151 : decode cX6_days 151 = .ok (.aload_n 0, 1) := by decide +kernel
theorem dX6_days_152 : decode cX6_days 152 = .ok (.getfield 188, 3) := by decide +kernel
theorem dX6_days_155 : decode cX6_days 155 = .ok (.ireturn, 1) := by decide +kernel
theorem dX6_copy_0 : decode cX6_copy 0 = .ok (.iconst 0, 1) := by decide +kernel
theorem dX6_copy_1 : decode cX6_copy 1 = .ok (.istore_n 2, 1) := by decide +kernel
theorem dX6_copy_2 : decode cX6_copy 2 = .ok (.iload_n 2, 1) := by decide +kernel
theorem dX6_copy_3 : decode cX6_copy 3 = .ok (.aload_n 0, 1) := by decide +kernel
theorem dX6_copy_4 : decode cX6_copy 4 = .ok (.arraylength, 1) := by decide +kernel
theorem dX6_copy_5 : decode cX6_copy 5 = .ok (.if_icmp .ge 15, 3) := by decide +kernel
theorem dX6_copy_8 : decode cX6_copy 8 = .ok (.aload_n 1, 1) := by decide +kernel
theorem dX6_copy_9 : decode cX6_copy 9 = .ok (.iload_n 2, 1) := by decide +kernel
theorem dX6_copy_10 : decode cX6_copy 10 = .ok (.aload_n 0, 1) := by decide +kernel
theorem dX6_copy_11 : decode cX6_copy 11 = .ok (.iload_n 2, 1) := by decide +kernel
theorem dX6_copy_12 : decode cX6_copy 12 = .ok (.iaload, 1) := by decide +kernel
theorem dX6_copy_13 : decode cX6_copy 13 = .ok (.iastore, 1) := by decide +kernel
theorem dX6_copy_14 : decode cX6_copy 14 = .ok (.iinc 2 1, 3) := by decide +kernel
theorem dX6_copy_17 : decode cX6_copy 17 = .ok (.goto (-15), 3) := by decide +kernel
theorem dX6_copy_20 : decode cX6_copy 20 = .ok (.return_, 1) := by decide +kernel
theorem dX6_image_0 : decode cX6_image 0 = .ok (.aload_n 0, 1) := by decide +kernel
theorem dX6_image_1 : decode cX6_image 1 = .ok (.getfield 91, 3) := by decide +kernel
theorem dX6_image_4 : decode cX6_image 4 = .ok (.ifCond .ne 6, 3) := by decide +kernel
theorem dX6_image_7 : decode cX6_image 7 = .ok (.bipush (-103), 2) := by decide +kernel
theorem dX6_image_9 : decode cX6_image 9 = .ok (.ireturn, 1) := by decide +kernel
theorem dX6_image_10 : decode cX6_image 10 = .ok (.aload_n 0, 1) := by decide +kernel
theorem dX6_image_11 : decode cX6_image 11 = .ok (.getfield 29, 3) := by decide +kernel
theorem dX6_image_14 : decode cX6_image 14 = .ok (.aload_n 0, 1) := by decide +kernel
theorem dX6_image_15 : decode cX6_image 15 = .ok (.getfield 38, 3) := by decide +kernel
theorem dX6_image_18 : decode cX6_image 18 = .ok (.invokestatic 201, 3) := by decide +kernel
theorem dX6_image_21 : decode cX6_image 21 = .ok (.aload_n 0, 1) := by decide +kernel
theorem dX6_image_22 : decode cX6_image 22 = .ok (.aload_n 0, 1) := by decide +kernel
theorem dX6_image_23 : decode cX6_image 23 = .ok (.getfield 70, 3) := by decide +kernel
theorem dX6_image_26 : decode cX6_image 26 = .ok (.putfield 205, 3) := by decide +kernel
theorem dX6_image_29 : decode cX6_image 29 = .ok (.aload_n 0, 1) := by decide +kernel
theorem dX6_image_30 : decode cX6_image 30 = .ok (.aload_n 0, 1) := by decide +kernel
theorem dX6_image_31 : decode cX6_image 31 = .ok (.getfield 79, 3) := by decide +kernel
theorem dX6_image_34 : decode cX6_image 34 = .ok (.putfield 208, 3) := by decide +kernel
theorem dX6_image_37 : decode cX6_image 37 = .ok (.aload_n 0, 1) := by decide +kernel
theorem dX6_image_38 : decode cX6_image 38 = .ok (.aload_n 0, 1) := by decide +kernel
theorem dX6_image_39 : decode cX6_image 39 = .ok (.getfield 82, 3) := by decide +kernel
theorem dX6_image_42 : decode cX6_image 42 = .ok (.putfield 211, 3) := by decide +kernel
theorem dX6_image_45 : decode cX6_image 45 = .ok (.aload_n 0, 1) := by decide +kernel
theorem dX6_image_46 : decode cX6_image 46 = .ok (.aload_n 0, 1) := by decide +kernel
theorem dX6_image_47 : decode cX6_image 47 = .ok (.getfield 85, 3) := by decide +kernel
theorem dX6_image_50 : decode cX6_image 50 = .ok (.putfield 214, 3) := by decide +kernel
theorem dX6_image_53 : decode cX6_image 53 = .ok (.aload_n 0, 1) := by decide +kernel
theorem dX6_image_54 : decode cX6_image 54 = .ok (.aload_n 0, 1) := by decide +kernel
theorem dX6_image_55 : decode cX6_image 55 = .ok (.getfield 88, 3) := by decide +kernel
theorem dX6_image_58 : decode cX6_image 58 = .ok (.putfield 217, 3) := by decide +kernel
theorem dX6_image_61 : decode cX6_image 61 = .ok (.aload_n 0, 1) := by decide +kernel
theorem dX6_image_62 : decode cX6_image 62 = .ok (.aload_n 0, 1) := by decide +kernel
theorem dX6_image_63 : decode cX6_image 63 = .ok (.getfield 95, 3) := by decide +kernel
theorem dX6_image_66 : decode cX6_image 66 = .ok (.putfield 41, 3) := by decide +kernel
theorem dX6_image_69 : decode cX6_image 69 = .ok (.aload_n 0, 1) := by decide +kernel
theorem dX6_image_70 : decode cX6_image 70 = .ok (.getfield 82, 3) := by decide +kernel
theorem dX6_image_73 : decode cX6_image 73 = .ok (.ireturn, 1) := by decide +kernel
theorem dX6_restore_0 : decode cX6_restore 0 = .ok (.aload_n 0, 1) := by decide +kernel
theorem dX6_restore_1 : decode cX6_restore 1 = .ok (.getfield 41, 3) := by decide +kernel
theorem dX6_restore_4 : decode cX6_restore 4 = .ok (.aload_n 0, 1) := by decide +kernel
theorem dX6_restore_5 : decode cX6_restore 5 = .ok (.getfield 95, 3) := by decide +kernel
theorem dX6_restore_8 : decode cX6_restore 8 = .ok (.if_icmp .eq 6, 3) := by decide +kernel
theorem dX6_restore_11 : decode cX6_restore 11 = .ok (.bipush (-103), 2) := by decide +kernel
theorem dX6_restore_13 : decode cX6_restore 13 = .ok (.ireturn, 1) := by decide +kernel
theorem dX6_restore_14 : decode cX6_restore 14 = .ok (.aload_n 0, 1) := by decide +kernel
theorem dX6_restore_15 : decode cX6_restore 15 = .ok (.getfield 38, 3) := by decide +kernel
theorem dX6_restore_18 : decode cX6_restore 18 = .ok (.aload_n 0, 1) := by decide +kernel
theorem dX6_restore_19 : decode cX6_restore 19 = .ok (.getfield 29, 3) := by decide +kernel
theorem dX6_restore_22 : decode cX6_restore 22 = .ok (.invokestatic 201, 3) := by decide +kernel
theorem dX6_restore_25 : decode cX6_restore 25 = .ok (.aload_n 0, 1) := by decide +kernel
theorem dX6_restore_26 : decode cX6_restore 26 = .ok (.aload_n 0, 1) := by decide +kernel
theorem dX6_restore_27 : decode cX6_restore 27 = .ok (.getfield 205, 3) := by decide +kernel
theorem dX6_restore_30 : decode cX6_restore 30 = .ok (.putfield 70, 3) := by decide +kernel
theorem dX6_restore_33 : decode cX6_restore 33 = .ok (.aload_n 0, 1) := by decide +kernel
theorem dX6_restore_34 : decode cX6_restore 34 = .ok (.aload_n 0, 1) := by decide +kernel
theorem dX6_restore_35 : decode cX6_restore 35 = .ok (.getfield 208, 3) := by decide +kernel
theorem dX6_restore_38 : decode cX6_restore 38 = .ok (.putfield 79, 3) := by decide +kernel
theorem dX6_restore_41 : decode cX6_restore 41 = .ok (.aload_n 0, 1) := by decide +kernel
theorem dX6_restore_42 : decode cX6_restore 42 = .ok (.aload_n 0, 1) := by decide +kernel
theorem dX6_restore_43 : decode cX6_restore 43 = .ok (.getfield 211, 3) := by decide +kernel
theorem dX6_restore_46 : decode cX6_restore 46 = .ok (.putfield 82, 3) := by decide +kernel
theorem dX6_restore_49 : decode cX6_restore 49 = .ok (.aload_n 0, 1) := by decide +kernel
theorem dX6_restore_50 : decode cX6_restore 50 = .ok (.aload_n 0, 1) := by decide +kernel
theorem dX6_restore_51 : decode cX6_restore 51 = .ok (.getfield 214, 3) := by decide +kernel
theorem dX6_restore_54 : decode cX6_restore 54 = .ok (.putfield 85, 3) := by decide +kernel
theorem dX6_restore_57 : decode cX6_restore 57 = .ok (.aload_n 0, 1) := by decide +kernel
theorem dX6_restore_58 : decode cX6_restore 58 = .ok (.aload_n 0, 1) := by decide +kernel
theorem dX6_restore_59 : decode cX6_restore 59 = .ok (.getfield 217, 3) := by decide +kernel
theorem dX6_restore_62 : decode cX6_restore 62 = .ok (.putfield 88, 3) := by decide +kernel
theorem dX6_restore_65 : decode cX6_restore 65 = .ok (.aload_n 0, 1) := by decide +kernel
theorem dX6_restore_66 : decode cX6_restore 66 = .ok (.getfield 82, 3) := by decide +kernel
theorem dX6_restore_69 : decode cX6_restore 69 = .ok (.ireturn, 1) := by decide +kernel
theorem dX6_countOf_0 : decode cX6_countOf 0 = .ok (.iload_n 1, 1) := by decide +kernel
theorem dX6_countOf_1 : decode cX6_countOf 1 = .ok (.tableswitch 108 0 9 #[55, 60, 65, 73, 78, 83, 88, 93, 98, 103], 55) := by decide +kernel
theorem dX6_countOf_56 : decode cX6_countOf 56 = .ok (.aload_n 0, 1) := by decide +kernel
theorem dX6_countOf_57 : decode cX6_countOf 57 = .ok (.getfield 73, 3) := by decide +kernel
theorem dX6_countOf_60 : decode cX6_countOf 60 = .ok (.ireturn, 1) := by decide +kernel
theorem dX6_countOf_61 : decode cX6_countOf 61 = .ok (.aload_n 0, 1) := by decide +kernel
theorem dX6_countOf_62 : decode cX6_countOf 62 = .ok (.getfield 76, 3) := by decide +kernel
theorem dX6_countOf_65 : decode cX6_countOf 65 = .ok (.ireturn, 1) := by decide +kernel
theorem dX6_countOf_66 : decode cX6_countOf 66 = .ok (.aload_n 0, 1) := by decide +kernel
theorem dX6_countOf_67 : decode cX6_countOf 67 = .ok (.getfield 70, 3) := by decide +kernel
theorem dX6_countOf_70 : decode cX6_countOf 70 = .ok (.invokestatic 98, 3) := by decide +kernel
theorem dX6_countOf_73 : decode cX6_countOf 73 = .ok (.ireturn, 1) := by decide +kernel
theorem dX6_countOf_74 : decode cX6_countOf 74 = .ok (.aload_n 0, 1) := by decide +kernel
theorem dX6_countOf_75 : decode cX6_countOf 75 = .ok (.getfield 79, 3) := by decide +kernel
theorem dX6_countOf_78 : decode cX6_countOf 78 = .ok (.ireturn, 1) := by decide +kernel
theorem dX6_countOf_79 : decode cX6_countOf 79 = .ok (.aload_n 0, 1) := by decide +kernel
theorem dX6_countOf_80 : decode cX6_countOf 80 = .ok (.getfield 82, 3) := by decide +kernel
theorem dX6_countOf_83 : decode cX6_countOf 83 = .ok (.ireturn, 1) := by decide +kernel
theorem dX6_countOf_84 : decode cX6_countOf 84 = .ok (.aload_n 0, 1) := by decide +kernel
theorem dX6_countOf_85 : decode cX6_countOf 85 = .ok (.getfield 85, 3) := by decide +kernel
theorem dX6_countOf_88 : decode cX6_countOf 88 = .ok (.ireturn, 1) := by decide +kernel
theorem dX6_countOf_89 : decode cX6_countOf 89 = .ok (.aload_n 0, 1) := by decide +kernel
theorem dX6_countOf_90 : decode cX6_countOf 90 = .ok (.getfield 88, 3) := by decide +kernel
theorem dX6_countOf_93 : decode cX6_countOf 93 = .ok (.ireturn, 1) := by decide +kernel
theorem dX6_countOf_94 : decode cX6_countOf 94 = .ok (.aload_n 0, 1) := by decide +kernel
theorem dX6_countOf_95 : decode cX6_countOf 95 = .ok (.getfield 51, 3) := by decide +kernel
theorem dX6_countOf_98 : decode cX6_countOf 98 = .ok (.ireturn, 1) := by decide +kernel
theorem dX6_countOf_99 : decode cX6_countOf 99 = .ok (.aload_n 0, 1) := by decide +kernel
theorem dX6_countOf_100 : decode cX6_countOf 100 = .ok (.getfield 95, 3) := by decide +kernel
theorem dX6_countOf_103 : decode cX6_countOf 103 = .ok (.ireturn, 1) := by decide +kernel
theorem dX6_countOf_104 : decode cX6_countOf 104 = .ok (.aload_n 0, 1) := by decide +kernel
theorem dX6_countOf_105 : decode cX6_countOf 105 = .ok (.getfield 163, 3) := by decide +kernel
theorem dX6_countOf_108 : decode cX6_countOf 108 = .ok (.ireturn, 1) := by decide +kernel
theorem dX6_countOf_109 : decode cX6_countOf 109 = .ok (.bipush (-102), 2) := by decide +kernel
theorem dX6_countOf_111 : decode cX6_countOf 111 = .ok (.ireturn, 1) := by decide +kernel
theorem dX6_count_0 : decode cX6_count 0 = .ok (.aload_n 0, 1) := by decide +kernel
theorem dX6_count_1 : decode cX6_count 1 = .ok (.iload_n 1, 1) := by decide +kernel
theorem dX6_count_2 : decode cX6_count 2 = .ok (.invokevirtual 220, 3) := by decide +kernel
theorem dX6_count_5 : decode cX6_count 5 = .ok (.ireturn, 1) := by decide +kernel
theorem dX6_say_0 : decode cX6_say 0 = .ok (.aload_n 0, 1) := by decide +kernel
theorem dX6_say_1 : decode cX6_say 1 = .ok (.ldc2_w 223, 3) := by decide +kernel
theorem dX6_say_4 : decode cX6_say 4 = .ok (.aload_n 0, 1) := by decide +kernel
theorem dX6_say_5 : decode cX6_say 5 = .ok (.getfield 225, 3) := by decide +kernel
theorem dX6_say_8 : decode cX6_say 8 = .ok (.lmul, 1) := by decide +kernel
theorem dX6_say_9 : decode cX6_say 9 = .ok (.lload_n 1, 1) := by decide +kernel
theorem dX6_say_10 : decode cX6_say 10 = .ok (.ladd, 1) := by decide +kernel
theorem dX6_say_11 : decode cX6_say 11 = .ok (.putfield 225, 3) := by decide +kernel
theorem dX6_say_14 : decode cX6_say 14 = .ok (.return_, 1) := by decide +kernel
theorem dX6_sayHold_0 : decode cX6_sayHold 0 = .ok (.iconst 0, 1) := by decide +kernel
theorem dX6_sayHold_1 : decode cX6_sayHold 1 = .ok (.istore_n 1, 1) := by decide +kernel
theorem dX6_sayHold_2 : decode cX6_sayHold 2 = .ok (.iload_n 1, 1) := by decide +kernel
theorem dX6_sayHold_3 : decode cX6_sayHold 3 = .ok (.iconst 3, 1) := by decide +kernel
theorem dX6_sayHold_4 : decode cX6_sayHold 4 = .ok (.if_icmp .ge 33, 3) := by decide +kernel
theorem dX6_sayHold_7 : decode cX6_sayHold 7 = .ok (.iconst 0, 1) := by decide +kernel
theorem dX6_sayHold_8 : decode cX6_sayHold 8 = .ok (.istore_n 2, 1) := by decide +kernel
theorem dX6_sayHold_9 : decode cX6_sayHold 9 = .ok (.iload_n 2, 1) := by decide +kernel
theorem dX6_sayHold_10 : decode cX6_sayHold 10 = .ok (.iconst 5, 1) := by decide +kernel
theorem dX6_sayHold_11 : decode cX6_sayHold 11 = .ok (.if_icmp .ge 20, 3) := by decide +kernel
theorem dX6_sayHold_14 : decode cX6_sayHold 14 = .ok (.aload_n 0, 1) := by decide +kernel
theorem dX6_sayHold_15 : decode cX6_sayHold 15 = .ok (.aload_n 0, 1) := by decide +kernel
theorem dX6_sayHold_16 : decode cX6_sayHold 16 = .ok (.iload_n 1, 1) := by decide +kernel
theorem dX6_sayHold_17 : decode cX6_sayHold 17 = .ok (.iload_n 2, 1) := by decide +kernel
theorem dX6_sayHold_18 : decode cX6_sayHold 18 = .ok (.invokevirtual 229, 3) := by decide +kernel
theorem dX6_sayHold_21 : decode cX6_sayHold 21 = .ok (.i2l, 1) := by decide +kernel
theorem dX6_sayHold_22 : decode cX6_sayHold 22 = .ok (.invokevirtual 232, 3) := by decide +kernel
theorem dX6_sayHold_25 : decode cX6_sayHold 25 = .ok (.iinc 2 1, 3) := by decide +kernel
theorem dX6_sayHold_28 : decode cX6_sayHold 28 = .ok (.goto (-19), 3) := by decide +kernel
theorem dX6_sayHold_31 : decode cX6_sayHold 31 = .ok (.iinc 1 1, 3) := by decide +kernel
theorem dX6_sayHold_34 : decode cX6_sayHold 34 = .ok (.goto (-32), 3) := by decide +kernel
theorem dX6_sayHold_37 : decode cX6_sayHold 37 = .ok (.iconst 0, 1) := by decide +kernel
theorem dX6_sayHold_38 : decode cX6_sayHold 38 = .ok (.istore_n 1, 1) := by decide +kernel
theorem dX6_sayHold_39 : decode cX6_sayHold 39 = .ok (.iload_n 1, 1) := by decide +kernel
theorem dX6_sayHold_40 : decode cX6_sayHold 40 = .ok (.iconst 4, 1) := by decide +kernel
theorem dX6_sayHold_41 : decode cX6_sayHold 41 = .ok (.if_icmp .ge 19, 3) := by decide +kernel
theorem dX6_sayHold_44 : decode cX6_sayHold 44 = .ok (.aload_n 0, 1) := by decide +kernel
theorem dX6_sayHold_45 : decode cX6_sayHold 45 = .ok (.aload_n 0, 1) := by decide +kernel
theorem dX6_sayHold_46 : decode cX6_sayHold 46 = .ok (.iload_n 1, 1) := by decide +kernel
theorem dX6_sayHold_47 : decode cX6_sayHold 47 = .ok (.invokevirtual 130, 3) := by decide +kernel
theorem dX6_sayHold_50 : decode cX6_sayHold 50 = .ok (.i2l, 1) := by decide +kernel
theorem dX6_sayHold_51 : decode cX6_sayHold 51 = .ok (.invokevirtual 232, 3) := by decide +kernel
theorem dX6_sayHold_54 : decode cX6_sayHold 54 = .ok (.iinc 1 1, 3) := by decide +kernel
theorem dX6_sayHold_57 : decode cX6_sayHold 57 = .ok (.goto (-18), 3) := by decide +kernel
theorem dX6_sayHold_60 : decode cX6_sayHold 60 = .ok (.iconst 0, 1) := by decide +kernel
theorem dX6_sayHold_61 : decode cX6_sayHold 61 = .ok (.istore_n 1, 1) := by decide +kernel
theorem dX6_sayHold_62 : decode cX6_sayHold 62 = .ok (.iload_n 1, 1) := by decide +kernel
theorem dX6_sayHold_63 : decode cX6_sayHold 63 = .ok (.bipush 42, 2) := by decide +kernel
theorem dX6_sayHold_65 : decode cX6_sayHold 65 = .ok (.if_icmp .ge 26, 3) := by decide +kernel
theorem dX6_sayHold_68 : decode cX6_sayHold 68 = .ok (.iload_n 1, 1) := by decide +kernel
theorem dX6_sayHold_69 : decode cX6_sayHold 69 = .ok (.invokestatic 135, 3) := by decide +kernel
theorem dX6_sayHold_72 : decode cX6_sayHold 72 = .ok (.ifCond .eq 13, 3) := by decide +kernel
theorem dX6_sayHold_75 : decode cX6_sayHold 75 = .ok (.aload_n 0, 1) := by decide +kernel
theorem dX6_sayHold_76 : decode cX6_sayHold 76 = .ok (.aload_n 0, 1) := by decide +kernel
theorem dX6_sayHold_77 : decode cX6_sayHold 77 = .ok (.iload_n 1, 1) := by decide +kernel
theorem dX6_sayHold_78 : decode cX6_sayHold 78 = .ok (.invokevirtual 236, 3) := by decide +kernel
theorem dX6_sayHold_81 : decode cX6_sayHold 81 = .ok (.i2l, 1) := by decide +kernel
theorem dX6_sayHold_82 : decode cX6_sayHold 82 = .ok (.invokevirtual 232, 3) := by decide +kernel
theorem dX6_sayHold_85 : decode cX6_sayHold 85 = .ok (.iinc 1 1, 3) := by decide +kernel
theorem dX6_sayHold_88 : decode cX6_sayHold 88 = .ok (.goto (-26), 3) := by decide +kernel
theorem dX6_sayHold_91 : decode cX6_sayHold 91 = .ok (.aload_n 0, 1) := by decide +kernel
theorem dX6_sayHold_92 : decode cX6_sayHold 92 = .ok (.aload_n 0, 1) := by decide +kernel
theorem dX6_sayHold_93 : decode cX6_sayHold 93 = .ok (.invokevirtual 124, 3) := by decide +kernel
theorem dX6_sayHold_96 : decode cX6_sayHold 96 = .ok (.invokevirtual 153, 3) := by decide +kernel
theorem dX6_sayHold_99 : decode cX6_sayHold 99 = .ok (.aload_n 0, 1) := by decide +kernel
theorem dX6_sayHold_100 : decode cX6_sayHold 100 = .ok (.aload_n 0, 1) := by decide +kernel
theorem dX6_sayHold_101 : decode cX6_sayHold 101 = .ok (.getfield 16, 3) := by decide +kernel
theorem dX6_sayHold_104 : decode cX6_sayHold 104 = .ok (.iconst 0, 1) := by decide +kernel
theorem dX6_sayHold_105 : decode cX6_sayHold 105 = .ok (.iaload, 1) := by decide +kernel
theorem dX6_sayHold_106 : decode cX6_sayHold 106 = .ok (.i2l, 1) := by decide +kernel
theorem dX6_sayHold_107 : decode cX6_sayHold 107 = .ok (.invokevirtual 232, 3) := by decide +kernel
theorem dX6_sayHold_110 : decode cX6_sayHold 110 = .ok (.aload_n 0, 1) := by decide +kernel
theorem dX6_sayHold_111 : decode cX6_sayHold 111 = .ok (.aload_n 0, 1) := by decide +kernel
theorem dX6_sayHold_112 : decode cX6_sayHold 112 = .ok (.getfield 19, 3) := by decide +kernel
theorem dX6_sayHold_115 : decode cX6_sayHold 115 = .ok (.iconst 0, 1) := by decide +kernel
theorem dX6_sayHold_116 : decode cX6_sayHold 116 = .ok (.iaload, 1) := by decide +kernel
theorem dX6_sayHold_117 : decode cX6_sayHold 117 = .ok (.i2l, 1) := by decide +kernel
theorem dX6_sayHold_118 : decode cX6_sayHold 118 = .ok (.invokevirtual 232, 3) := by decide +kernel
theorem dX6_sayHold_121 : decode cX6_sayHold 121 = .ok (.aload_n 0, 1) := by decide +kernel
theorem dX6_sayHold_122 : decode cX6_sayHold 122 = .ok (.aload_n 0, 1) := by decide +kernel
theorem dX6_sayHold_123 : decode cX6_sayHold 123 = .ok (.invokevirtual 157, 3) := by decide +kernel
theorem dX6_sayHold_126 : decode cX6_sayHold 126 = .ok (.i2l, 1) := by decide +kernel
theorem dX6_sayHold_127 : decode cX6_sayHold 127 = .ok (.invokevirtual 232, 3) := by decide +kernel
theorem dX6_sayHold_130 : decode cX6_sayHold 130 = .ok (.aload_n 0, 1) := by decide +kernel
theorem dX6_sayHold_131 : decode cX6_sayHold 131 = .ok (.aload_n 0, 1) := by decide +kernel
theorem dX6_sayHold_132 : decode cX6_sayHold 132 = .ok (.invokevirtual 160, 3) := by decide +kernel
theorem dX6_sayHold_135 : decode cX6_sayHold 135 = .ok (.i2l, 1) := by decide +kernel
theorem dX6_sayHold_136 : decode cX6_sayHold 136 = .ok (.invokevirtual 232, 3) := by decide +kernel
theorem dX6_sayHold_139 : decode cX6_sayHold 139 = .ok (.aload_n 0, 1) := by decide +kernel
theorem dX6_sayHold_140 : decode cX6_sayHold 140 = .ok (.invokevirtual 183, 3) := by decide +kernel
theorem dX6_sayHold_143 : decode cX6_sayHold 143 = .ok (.aload_n 0, 1) := by decide +kernel
theorem dX6_sayHold_144 : decode cX6_sayHold 144 = .ok (.aload_n 0, 1) := by decide +kernel
theorem dX6_sayHold_145 : decode cX6_sayHold 145 = .ok (.getfield 171, 3) := by decide +kernel
theorem dX6_sayHold_148 : decode cX6_sayHold 148 = .ok (.i2l, 1) := by decide +kernel
theorem dX6_sayHold_149 : decode cX6_sayHold 149 = .ok (.invokevirtual 232, 3) := by decide +kernel
theorem dX6_sayHold_152 : decode cX6_sayHold 152 = .ok (.aload_n 0, 1) := by decide +kernel
theorem dX6_sayHold_153 : decode cX6_sayHold 153 = .ok (.aload_n 0, 1) := by decide +kernel
theorem dX6_sayHold_154 : decode cX6_sayHold 154 = .ok (.getfield 174, 3) := by decide +kernel
theorem dX6_sayHold_157 : decode cX6_sayHold 157 = .ok (.i2l, 1) := by decide +kernel
theorem dX6_sayHold_158 : decode cX6_sayHold 158 = .ok (.invokevirtual 232, 3) := by decide +kernel
theorem dX6_sayHold_161 : decode cX6_sayHold 161 = .ok (.aload_n 0, 1) := by decide +kernel
theorem dX6_sayHold_162 : decode cX6_sayHold 162 = .ok (.aload_n 0, 1) := by decide +kernel
theorem dX6_sayHold_163 : decode cX6_sayHold 163 = .ok (.getfield 177, 3) := by decide +kernel
theorem dX6_sayHold_166 : decode cX6_sayHold 166 = .ok (.i2l, 1) := by decide +kernel
theorem dX6_sayHold_167 : decode cX6_sayHold 167 = .ok (.invokevirtual 232, 3) := by decide +kernel
theorem dX6_sayHold_170 : decode cX6_sayHold 170 = .ok (.return_, 1) := by decide +kernel
theorem dX6_digest_0 : decode cX6_digest 0 = .ok (.aload_n 0, 1) := by decide +kernel
theorem dX6_digest_1 : decode cX6_digest 1 = .ok (.ldc2_w 239, 3) := by decide +kernel
theorem dX6_digest_4 : decode cX6_digest 4 = .ok (.putfield 225, 3) := by decide +kernel
theorem dX6_digest_7 : decode cX6_digest 7 = .ok (.aload_n 0, 1) := by decide +kernel
theorem dX6_digest_8 : decode cX6_digest 8 = .ok (.getfield 91, 3) := by decide +kernel
theorem dX6_digest_11 : decode cX6_digest 11 = .ok (.ifCond .eq 7, 3) := by decide +kernel
theorem dX6_digest_14 : decode cX6_digest 14 = .ok (.aload_n 0, 1) := by decide +kernel
theorem dX6_digest_15 : decode cX6_digest 15 = .ok (.invokevirtual 241, 3) := by decide +kernel
theorem dX6_digest_18 : decode cX6_digest 18 = .ok (.iconst 0, 1) := by decide +kernel
theorem dX6_digest_19 : decode cX6_digest 19 = .ok (.istore_n 1, 1) := by decide +kernel
theorem dX6_digest_20 : decode cX6_digest 20 = .ok (.iload_n 1, 1) := by decide +kernel
theorem dX6_digest_21 : decode cX6_digest 21 = .ok (.aload_n 0, 1) := by decide +kernel
theorem dX6_digest_22 : decode cX6_digest 22 = .ok (.getfield 51, 3) := by decide +kernel
theorem dX6_digest_25 : decode cX6_digest 25 = .ok (.if_icmp .ge 20, 3) := by decide +kernel
theorem dX6_digest_28 : decode cX6_digest 28 = .ok (.aload_n 0, 1) := by decide +kernel
theorem dX6_digest_29 : decode cX6_digest 29 = .ok (.aload_n 0, 1) := by decide +kernel
theorem dX6_digest_30 : decode cX6_digest 30 = .ok (.getfield 7, 3) := by decide +kernel
theorem dX6_digest_33 : decode cX6_digest 33 = .ok (.iload_n 1, 1) := by decide +kernel
theorem dX6_digest_34 : decode cX6_digest 34 = .ok (.iaload, 1) := by decide +kernel
theorem dX6_digest_35 : decode cX6_digest 35 = .ok (.i2l, 1) := by decide +kernel
theorem dX6_digest_36 : decode cX6_digest 36 = .ok (.invokevirtual 232, 3) := by decide +kernel
theorem dX6_digest_39 : decode cX6_digest 39 = .ok (.iinc 1 1, 3) := by decide +kernel
theorem dX6_digest_42 : decode cX6_digest 42 = .ok (.goto (-22), 3) := by decide +kernel
theorem dX6_digest_45 : decode cX6_digest 45 = .ok (.iconst 0, 1) := by decide +kernel
theorem dX6_digest_46 : decode cX6_digest 46 = .ok (.istore_n 1, 1) := by decide +kernel
theorem dX6_digest_47 : decode cX6_digest 47 = .ok (.iload_n 1, 1) := by decide +kernel
theorem dX6_digest_48 : decode cX6_digest 48 = .ok (.bipush 10, 2) := by decide +kernel
theorem dX6_digest_50 : decode cX6_digest 50 = .ok (.if_icmp .ge 19, 3) := by decide +kernel
theorem dX6_digest_53 : decode cX6_digest 53 = .ok (.aload_n 0, 1) := by decide +kernel
theorem dX6_digest_54 : decode cX6_digest 54 = .ok (.aload_n 0, 1) := by decide +kernel
theorem dX6_digest_55 : decode cX6_digest 55 = .ok (.iload_n 1, 1) := by decide +kernel
theorem dX6_digest_56 : decode cX6_digest 56 = .ok (.invokevirtual 220, 3) := by decide +kernel
theorem dX6_digest_59 : decode cX6_digest 59 = .ok (.i2l, 1) := by decide +kernel
theorem dX6_digest_60 : decode cX6_digest 60 = .ok (.invokevirtual 232, 3) := by decide +kernel
theorem dX6_digest_63 : decode cX6_digest 63 = .ok (.iinc 1 1, 3) := by decide +kernel
theorem dX6_digest_66 : decode cX6_digest 66 = .ok (.goto (-19), 3) := by decide +kernel
theorem dX6_digest_69 : decode cX6_digest 69 = .ok (.aload_n 0, 1) := by decide +kernel
theorem dX6_digest_70 : decode cX6_digest 70 = .ok (.getfield 225, 3) := by decide +kernel
theorem dX6_digest_73 : decode cX6_digest 73 = .ok (.lreturn, 1) := by decide +kernel
