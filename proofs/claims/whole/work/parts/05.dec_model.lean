theorem dX7_init_0 : decode cX7_init 0 = .ok (.aload_n 0, 1) := by decide +kernel
theorem dX7_init_1 : decode cX7_init 1 = .ok (.invokespecial 1, 3) := by decide +kernel
theorem dX7_init_4 : decode cX7_init 4 = .ok (.aload_n 0, 1) := by decide +kernel
theorem dX7_init_5 : decode cX7_init 5 = .ok (.bipush 30, 2) := by decide +kernel
theorem dX7_init_7 : decode cX7_init 7 = .ok (.newarray .int, 2) := by decide +kernel
theorem dX7_init_9 : decode cX7_init 9 = .ok (.putfield 7, 3) := by decide +kernel
theorem dX7_init_12 : decode cX7_init 12 = .ok (.aload_n 0, 1) := by decide +kernel
theorem dX7_init_13 : decode cX7_init 13 = .ok (.bipush 25, 2) := by decide +kernel
theorem dX7_init_15 : decode cX7_init 15 = .ok (.newarray .int, 2) := by decide +kernel
theorem dX7_init_17 : decode cX7_init 17 = .ok (.putfield 13, 3) := by decide +kernel
theorem dX7_init_20 : decode cX7_init 20 = .ok (.aload_n 0, 1) := by decide +kernel
theorem dX7_init_21 : decode cX7_init 21 = .ok (.bipush 12, 2) := by decide +kernel
theorem dX7_init_23 : decode cX7_init 23 = .ok (.newarray .int, 2) := by decide +kernel
theorem dX7_init_25 : decode cX7_init 25 = .ok (.putfield 16, 3) := by decide +kernel
theorem dX7_init_28 : decode cX7_init 28 = .ok (.aload_n 0, 1) := by decide +kernel
theorem dX7_init_29 : decode cX7_init 29 = .ok (.bipush 25, 2) := by decide +kernel
theorem dX7_init_31 : decode cX7_init 31 = .ok (.newarray .int, 2) := by decide +kernel
theorem dX7_init_33 : decode cX7_init 33 = .ok (.putfield 19, 3) := by decide +kernel
theorem dX7_init_36 : decode cX7_init 36 = .ok (.aload_n 0, 1) := by decide +kernel
theorem dX7_init_37 : decode cX7_init 37 = .ok (.bipush 20, 2) := by decide +kernel
theorem dX7_init_39 : decode cX7_init 39 = .ok (.newarray .int, 2) := by decide +kernel
theorem dX7_init_41 : decode cX7_init 41 = .ok (.putfield 22, 3) := by decide +kernel
theorem dX7_init_44 : decode cX7_init 44 = .ok (.aload_n 0, 1) := by decide +kernel
theorem dX7_init_45 : decode cX7_init 45 = .ok (.bipush 32, 2) := by decide +kernel
theorem dX7_init_47 : decode cX7_init 47 = .ok (.newarray .int, 2) := by decide +kernel
theorem dX7_init_49 : decode cX7_init 49 = .ok (.putfield 25, 3) := by decide +kernel
theorem dX7_init_52 : decode cX7_init 52 = .ok (.aload_n 0, 1) := by decide +kernel
theorem dX7_init_53 : decode cX7_init 53 = .ok (.bipush 20, 2) := by decide +kernel
theorem dX7_init_55 : decode cX7_init 55 = .ok (.newarray .int, 2) := by decide +kernel
theorem dX7_init_57 : decode cX7_init 57 = .ok (.putfield 28, 3) := by decide +kernel
theorem dX7_init_60 : decode cX7_init 60 = .ok (.aload_n 0, 1) := by decide +kernel
theorem dX7_init_61 : decode cX7_init 61 = .ok (.bipush 32, 2) := by decide +kernel
theorem dX7_init_63 : decode cX7_init 63 = .ok (.newarray .int, 2) := by decide +kernel
theorem dX7_init_65 : decode cX7_init 65 = .ok (.putfield 31, 3) := by decide +kernel
theorem dX7_init_68 : decode cX7_init 68 = .ok (.aload_n 0, 1) := by decide +kernel
theorem dX7_init_69 : decode cX7_init 69 = .ok (.iconst (-1), 1) := by decide +kernel
theorem dX7_init_70 : decode cX7_init 70 = .ok (.putfield 34, 3) := by decide +kernel
theorem dX7_init_73 : decode cX7_init 73 = .ok (.return_, 1) := by decide +kernel
theorem dX7_in_0 : decode cX7_in 0 = .ok (.lload_n 0, 1) := by decide +kernel
theorem dX7_in_1 : decode cX7_in 1 = .ok (.lload_n 2, 1) := by decide +kernel
theorem dX7_in_2 : decode cX7_in 2 = .ok (.lcmp, 1) := by decide +kernel
theorem dX7_in_3 : decode cX7_in 3 = .ok (.ifCond .lt 14, 3) := by decide +kernel
theorem dX7_in_6 : decode cX7_in 6 = .ok (.lload_n 0, 1) := by decide +kernel
theorem dX7_in_7 : decode cX7_in 7 = .ok (.lload 4, 2) := by decide +kernel
theorem dX7_in_9 : decode cX7_in 9 = .ok (.lcmp, 1) := by decide +kernel
theorem dX7_in_10 : decode cX7_in 10 = .ok (.ifCond .gt 7, 3) := by decide +kernel
theorem dX7_in_13 : decode cX7_in 13 = .ok (.iconst 1, 1) := by decide +kernel
theorem dX7_in_14 : decode cX7_in 14 = .ok (.goto 4, 3) := by decide +kernel
theorem dX7_in_17 : decode cX7_in 17 = .ok (.iconst 0, 1) := by decide +kernel
theorem dX7_in_18 : decode cX7_in 18 = .ok (.ireturn, 1) := by decide +kernel
theorem dX7_copy_0 : decode cX7_copy 0 = .ok (.iconst 0, 1) := by decide +kernel
theorem dX7_copy_1 : decode cX7_copy 1 = .ok (.istore_n 2, 1) := by decide +kernel
theorem dX7_copy_2 : decode cX7_copy 2 = .ok (.iload_n 2, 1) := by decide +kernel
theorem dX7_copy_3 : decode cX7_copy 3 = .ok (.aload_n 0, 1) := by decide +kernel
theorem dX7_copy_4 : decode cX7_copy 4 = .ok (.arraylength, 1) := by decide +kernel
theorem dX7_copy_5 : decode cX7_copy 5 = .ok (.if_icmp .ge 15, 3) := by decide +kernel
theorem dX7_copy_8 : decode cX7_copy 8 = .ok (.aload_n 1, 1) := by decide +kernel
theorem dX7_copy_9 : decode cX7_copy 9 = .ok (.iload_n 2, 1) := by decide +kernel
theorem dX7_copy_10 : decode cX7_copy 10 = .ok (.aload_n 0, 1) := by decide +kernel
theorem dX7_copy_11 : decode cX7_copy 11 = .ok (.iload_n 2, 1) := by decide +kernel
theorem dX7_copy_12 : decode cX7_copy 12 = .ok (.iaload, 1) := by decide +kernel
theorem dX7_copy_13 : decode cX7_copy 13 = .ok (.iastore, 1) := by decide +kernel
theorem dX7_copy_14 : decode cX7_copy 14 = .ok (.iinc 2 1, 3) := by decide +kernel
theorem dX7_copy_17 : decode cX7_copy 17 = .ok (.goto (-15), 3) := by decide +kernel
theorem dX7_copy_20 : decode cX7_copy 20 = .ok (.return_, 1) := by decide +kernel
theorem dX7_letter_0 : decode cX7_letter 0 = .ok (.iload_n 1, 1) := by decide +kernel
theorem dX7_letter_1 : decode cX7_letter 1 = .ok (.i2l, 1) := by decide +kernel
theorem dX7_letter_2 : decode cX7_letter 2 = .ok (.lconst 1, 1) := by decide +kernel
theorem dX7_letter_3 : decode cX7_letter 3 = .ok (.ldc2_w 38, 3) := by decide +kernel
theorem dX7_letter_6 : decode cX7_letter 6 = .ok (.invokestatic 40, 3) := by decide +kernel
theorem dX7_letter_9 : decode cX7_letter 9 = .ok (.ifCond .ne 6, 3) := by decide +kernel
theorem dX7_letter_12 : decode cX7_letter 12 = .ok (.bipush (-102), 2) := by decide +kernel
theorem dX7_letter_14 : decode cX7_letter 14 = .ok (.ireturn, 1) := by decide +kernel
theorem dX7_letter_15 : decode cX7_letter 15 = .ok (.aload_n 0, 1) := by decide +kernel
theorem dX7_letter_16 : decode cX7_letter 16 = .ok (.getfield 44, 3) := by decide +kernel
theorem dX7_letter_19 : decode cX7_letter 19 = .ok (.bipush 30, 2) := by decide +kernel
theorem dX7_letter_21 : decode cX7_letter 21 = .ok (.if_icmp .ne 6, 3) := by decide +kernel
theorem dX7_letter_24 : decode cX7_letter 24 = .ok (.bipush (-104), 2) := by decide +kernel
theorem dX7_letter_26 : decode cX7_letter 26 = .ok (.ireturn, 1) := by decide +kernel
theorem dX7_letter_27 : decode cX7_letter 27 = .ok (.aload_n 0, 1) := by decide +kernel
theorem dX7_letter_28 : decode cX7_letter 28 = .ok (.getfield 7, 3) := by decide +kernel
theorem dX7_letter_31 : decode cX7_letter 31 = .ok (.aload_n 0, 1) := by decide +kernel
theorem dX7_letter_32 : decode cX7_letter 32 = .ok (.getfield 44, 3) := by decide +kernel
theorem dX7_letter_35 : decode cX7_letter 35 = .ok (.iload_n 1, 1) := by decide +kernel
theorem dX7_letter_36 : decode cX7_letter 36 = .ok (.iastore, 1) := by decide +kernel
theorem dX7_letter_37 : decode cX7_letter 37 = .ok (.aload_n 0, 1) := by decide +kernel
theorem dX7_letter_38 : decode cX7_letter 38 = .ok (.dup, 1) := by decide +kernel
theorem dX7_letter_39 : decode cX7_letter 39 = .ok (.getfield 44, 3) := by decide +kernel
theorem dX7_letter_42 : decode cX7_letter 42 = .ok (.iconst 1, 1) := by decide +kernel
theorem dX7_letter_43 : decode cX7_letter 43 = .ok (.iadd, 1) := by decide +kernel
theorem dX7_letter_44 : decode cX7_letter 44 = .ok (.putfield 44, 3) := by decide +kernel
theorem dX7_letter_47 : decode cX7_letter 47 = .ok (.aload_n 0, 1) := by decide +kernel
theorem dX7_letter_48 : decode cX7_letter 48 = .ok (.getfield 44, 3) := by decide +kernel
theorem dX7_letter_51 : decode cX7_letter 51 = .ok (.ireturn, 1) := by decide +kernel
theorem dX7_blank_0 : decode cX7_blank 0 = .ok (.aload_n 0, 1) := by decide +kernel
theorem dX7_blank_1 : decode cX7_blank 1 = .ok (.getfield 44, 3) := by decide +kernel
theorem dX7_blank_4 : decode cX7_blank 4 = .ok (.istore_n 1, 1) := by decide +kernel
theorem dX7_blank_5 : decode cX7_blank 5 = .ok (.aload_n 0, 1) := by decide +kernel
theorem dX7_blank_6 : decode cX7_blank 6 = .ok (.iconst 0, 1) := by decide +kernel
theorem dX7_blank_7 : decode cX7_blank 7 = .ok (.putfield 44, 3) := by decide +kernel
theorem dX7_blank_10 : decode cX7_blank 10 = .ok (.iload_n 1, 1) := by decide +kernel
theorem dX7_blank_11 : decode cX7_blank 11 = .ok (.ireturn, 1) := by decide +kernel
theorem dX7_kindBy_0 : decode cX7_kindBy 0 = .ok (.iload_n 0, 1) := by decide +kernel
theorem dX7_kindBy_1 : decode cX7_kindBy 1 = .ok (.bipush 116, 2) := by decide +kernel
theorem dX7_kindBy_3 : decode cX7_kindBy 3 = .ok (.if_icmp .ne 7, 3) := by decide +kernel
theorem dX7_kindBy_6 : decode cX7_kindBy 6 = .ok (.iconst 0, 1) := by decide +kernel
theorem dX7_kindBy_7 : decode cX7_kindBy 7 = .ok (.goto 44, 3) := by decide +kernel
theorem dX7_kindBy_10 : decode cX7_kindBy 10 = .ok (.iload_n 0, 1) := by decide +kernel
theorem dX7_kindBy_11 : decode cX7_kindBy 11 = .ok (.bipush 98, 2) := by decide +kernel
theorem dX7_kindBy_13 : decode cX7_kindBy 13 = .ok (.if_icmp .ne 7, 3) := by decide +kernel
theorem dX7_kindBy_16 : decode cX7_kindBy 16 = .ok (.iconst 1, 1) := by decide +kernel
theorem dX7_kindBy_17 : decode cX7_kindBy 17 = .ok (.goto 34, 3) := by decide +kernel
theorem dX7_kindBy_20 : decode cX7_kindBy 20 = .ok (.iload_n 0, 1) := by decide +kernel
theorem dX7_kindBy_21 : decode cX7_kindBy 21 = .ok (.bipush 119, 2) := by decide +kernel
theorem dX7_kindBy_23 : decode cX7_kindBy 23 = .ok (.if_icmp .ne 7, 3) := by decide +kernel
theorem dX7_kindBy_26 : decode cX7_kindBy 26 = .ok (.iconst 2, 1) := by decide +kernel
theorem dX7_kindBy_27 : decode cX7_kindBy 27 = .ok (.goto 24, 3) := by decide +kernel
theorem dX7_kindBy_30 : decode cX7_kindBy 30 = .ok (.iload_n 0, 1) := by decide +kernel
theorem dX7_kindBy_31 : decode cX7_kindBy 31 = .ok (.bipush 111, 2) := by decide +kernel
theorem dX7_kindBy_33 : decode cX7_kindBy 33 = .ok (.if_icmp .ne 7, 3) := by decide +kernel
theorem dX7_kindBy_36 : decode cX7_kindBy 36 = .ok (.iconst 3, 1) := by decide +kernel
theorem dX7_kindBy_37 : decode cX7_kindBy 37 = .ok (.goto 14, 3) := by decide +kernel
theorem dX7_kindBy_40 : decode cX7_kindBy 40 = .ok (.iload_n 0, 1) := by decide +kernel
theorem dX7_kindBy_41 : decode cX7_kindBy 41 = .ok (.bipush 101, 2) := by decide +kernel
theorem dX7_kindBy_43 : decode cX7_kindBy 43 = .ok (.if_icmp .ne 7, 3) := by decide +kernel
theorem dX7_kindBy_46 : decode cX7_kindBy 46 = .ok (.iconst 4, 1) := by decide +kernel
theorem dX7_kindBy_47 : decode cX7_kindBy 47 = .ok (.goto 4, 3) := by decide +kernel
theorem dX7_kindBy_50 : decode cX7_kindBy 50 = .ok (.iconst (-1), 1) := by decide +kernel
theorem dX7_kindBy_51 : decode cX7_kindBy 51 = .ok (.ireturn, 1) := by decide +kernel
theorem dX7_goSaying_0 : decode cX7_goSaying 0 = .ok (.iconst 5, 1) := by decide +kernel
theorem dX7_goSaying_1 : decode cX7_goSaying 1 = .ok (.aload_n 0, 1) := by decide +kernel
theorem dX7_goSaying_2 : decode cX7_goSaying 2 = .ok (.getfield 47, 3) := by decide +kernel
theorem dX7_goSaying_5 : decode cX7_goSaying 5 = .ok (.imul, 1) := by decide +kernel
theorem dX7_goSaying_6 : decode cX7_goSaying 6 = .ok (.istore_n 2, 1) := by decide +kernel
theorem dX7_goSaying_7 : decode cX7_goSaying 7 = .ok (.iload_n 1, 1) := by decide +kernel
theorem dX7_goSaying_8 : decode cX7_goSaying 8 = .ok (.bipush 44, 2) := by decide +kernel
theorem dX7_goSaying_10 : decode cX7_goSaying 10 = .ok (.if_icmp .eq 9, 3) := by decide +kernel
theorem dX7_goSaying_13 : decode cX7_goSaying 13 = .ok (.iload_n 1, 1) := by decide +kernel
theorem dX7_goSaying_14 : decode cX7_goSaying 14 = .ok (.bipush 59, 2) := by decide +kernel
theorem dX7_goSaying_16 : decode cX7_goSaying 16 = .ok (.if_icmp .ne 69, 3) := by decide +kernel
theorem dX7_goSaying_19 : decode cX7_goSaying 19 = .ok (.aload_n 0, 1) := by decide +kernel
theorem dX7_goSaying_20 : decode cX7_goSaying 20 = .ok (.getfield 13, 3) := by decide +kernel
theorem dX7_goSaying_23 : decode cX7_goSaying 23 = .ok (.iload_n 2, 1) := by decide +kernel
theorem dX7_goSaying_24 : decode cX7_goSaying 24 = .ok (.iaload, 1) := by decide +kernel
theorem dX7_goSaying_25 : decode cX7_goSaying 25 = .ok (.ifCond .le 34, 3) := by decide +kernel
theorem dX7_goSaying_28 : decode cX7_goSaying 28 = .ok (.iload_n 1, 1) := by decide +kernel
theorem dX7_goSaying_29 : decode cX7_goSaying 29 = .ok (.bipush 59, 2) := by decide +kernel
theorem dX7_goSaying_31 : decode cX7_goSaying 31 = .ok (.if_icmp .ne 7, 3) := by decide +kernel
theorem dX7_goSaying_34 : decode cX7_goSaying 34 = .ok (.iconst 1, 1) := by decide +kernel
theorem dX7_goSaying_35 : decode cX7_goSaying 35 = .ok (.goto 4, 3) := by decide +kernel
theorem dX7_goSaying_38 : decode cX7_goSaying 38 = .ok (.iconst 0, 1) := by decide +kernel
theorem dX7_goSaying_39 : decode cX7_goSaying 39 = .ok (.aload_n 0, 1) := by decide +kernel
theorem dX7_goSaying_40 : decode cX7_goSaying 40 = .ok (.getfield 47, 3) := by decide +kernel
theorem dX7_goSaying_43 : decode cX7_goSaying 43 = .ok (.iconst 3, 1) := by decide +kernel
theorem dX7_goSaying_44 : decode cX7_goSaying 44 = .ok (.if_icmp .ne 7, 3) := by decide +kernel
theorem dX7_goSaying_47 : decode cX7_goSaying 47 = .ok (.iconst 1, 1) := by decide +kernel
theorem dX7_goSaying_48 : decode cX7_goSaying 48 = .ok (.goto 4, 3) := by decide +kernel
theorem dX7_goSaying_51 : decode cX7_goSaying 51 = .ok (.iconst 0, 1) := by decide +kernel
theorem dX7_goSaying_52 : decode cX7_goSaying 52 = .ok (.if_icmp .ne 7, 3) := by decide +kernel
theorem dX7_goSaying_55 : decode cX7_goSaying 55 = .ok (.iconst 1, 1) := by decide +kernel
theorem dX7_goSaying_56 : decode cX7_goSaying 56 = .ok (.goto 4, 3) := by decide +kernel
theorem dX7_goSaying_59 : decode cX7_goSaying 59 = .ok (.iconst 0, 1) := by decide +kernel
theorem dX7_goSaying_60 : decode cX7_goSaying 60 = .ok (.istore_n 3, 1) := by decide +kernel
theorem dX7_goSaying_61 : decode cX7_goSaying 61 = .ok (.aload_n 0, 1) := by decide +kernel
theorem dX7_goSaying_62 : decode cX7_goSaying 62 = .ok (.dup, 1) := by decide +kernel
theorem dX7_goSaying_63 : decode cX7_goSaying 63 = .ok (.getfield 47, 3) := by decide +kernel
theorem dX7_goSaying_66 : decode cX7_goSaying 66 = .ok (.iconst 1, 1) := by decide +kernel
theorem dX7_goSaying_67 : decode cX7_goSaying 67 = .ok (.iadd, 1) := by decide +kernel
theorem dX7_goSaying_68 : decode cX7_goSaying 68 = .ok (.putfield 47, 3) := by decide +kernel
theorem dX7_goSaying_71 : decode cX7_goSaying 71 = .ok (.aload_n 0, 1) := by decide +kernel
theorem dX7_goSaying_72 : decode cX7_goSaying 72 = .ok (.getfield 13, 3) := by decide +kernel
theorem dX7_goSaying_75 : decode cX7_goSaying 75 = .ok (.iconst 5, 1) := by decide +kernel
theorem dX7_goSaying_76 : decode cX7_goSaying 76 = .ok (.aload_n 0, 1) := by decide +kernel
theorem dX7_goSaying_77 : decode cX7_goSaying 77 = .ok (.getfield 47, 3) := by decide +kernel
theorem dX7_goSaying_80 : decode cX7_goSaying 80 = .ok (.imul, 1) := by decide +kernel
theorem dX7_goSaying_81 : decode cX7_goSaying 81 = .ok (.iconst 0, 1) := by decide +kernel
theorem dX7_goSaying_82 : decode cX7_goSaying 82 = .ok (.iastore, 1) := by decide +kernel
theorem dX7_goSaying_83 : decode cX7_goSaying 83 = .ok (.iload_n 3, 1) := by decide +kernel
theorem dX7_goSaying_84 : decode cX7_goSaying 84 = .ok (.ireturn, 1) := by decide +kernel
theorem dX7_goSaying_85 : decode cX7_goSaying 85 = .ok (.iload_n 1, 1) := by decide +kernel
theorem dX7_goSaying_86 : decode cX7_goSaying 86 = .ok (.bipush 115, 2) := by decide +kernel
theorem dX7_goSaying_88 : decode cX7_goSaying 88 = .ok (.if_icmp .eq 9, 3) := by decide +kernel
theorem dX7_goSaying_91 : decode cX7_goSaying 91 = .ok (.iload_n 1, 1) := by decide +kernel
theorem dX7_goSaying_92 : decode cX7_goSaying 92 = .ok (.bipush 108, 2) := by decide +kernel
theorem dX7_goSaying_94 : decode cX7_goSaying 94 = .ok (.if_icmp .ne 13, 3) := by decide +kernel
theorem dX7_goSaying_97 : decode cX7_goSaying 97 = .ok (.aload_n 0, 1) := by decide +kernel
theorem dX7_goSaying_98 : decode cX7_goSaying 98 = .ok (.getfield 13, 3) := by decide +kernel
theorem dX7_goSaying_101 : decode cX7_goSaying 101 = .ok (.iload_n 2, 1) := by decide +kernel
theorem dX7_goSaying_102 : decode cX7_goSaying 102 = .ok (.iaload, 1) := by decide +kernel
theorem dX7_goSaying_103 : decode cX7_goSaying 103 = .ok (.iconst 4, 1) := by decide +kernel
theorem dX7_goSaying_104 : decode cX7_goSaying 104 = .ok (.if_icmp .ne 5, 3) := by decide +kernel
theorem dX7_goSaying_107 : decode cX7_goSaying 107 = .ok (.iconst 0, 1) := by decide +kernel
theorem dX7_goSaying_108 : decode cX7_goSaying 108 = .ok (.ireturn, 1) := by decide +kernel
theorem dX7_goSaying_109 : decode cX7_goSaying 109 = .ok (.aload_n 0, 1) := by decide +kernel
theorem dX7_goSaying_110 : decode cX7_goSaying 110 = .ok (.getfield 13, 3) := by decide +kernel
theorem dX7_goSaying_113 : decode cX7_goSaying 113 = .ok (.iload_n 2, 1) := by decide +kernel
theorem dX7_goSaying_114 : decode cX7_goSaying 114 = .ok (.dup2, 1) := by decide +kernel
theorem dX7_goSaying_115 : decode cX7_goSaying 115 = .ok (.iaload, 1) := by decide +kernel
theorem dX7_goSaying_116 : decode cX7_goSaying 116 = .ok (.iconst 1, 1) := by decide +kernel
theorem dX7_goSaying_117 : decode cX7_goSaying 117 = .ok (.iadd, 1) := by decide +kernel
theorem dX7_goSaying_118 : decode cX7_goSaying 118 = .ok (.iastore, 1) := by decide +kernel
theorem dX7_goSaying_119 : decode cX7_goSaying 119 = .ok (.aload_n 0, 1) := by decide +kernel
theorem dX7_goSaying_120 : decode cX7_goSaying 120 = .ok (.getfield 13, 3) := by decide +kernel
theorem dX7_goSaying_123 : decode cX7_goSaying 123 = .ok (.iload_n 2, 1) := by decide +kernel
theorem dX7_goSaying_124 : decode cX7_goSaying 124 = .ok (.aload_n 0, 1) := by decide +kernel
theorem dX7_goSaying_125 : decode cX7_goSaying 125 = .ok (.getfield 13, 3) := by decide +kernel
theorem dX7_goSaying_128 : decode cX7_goSaying 128 = .ok (.iload_n 2, 1) := by decide +kernel
theorem dX7_goSaying_129 : decode cX7_goSaying 129 = .ok (.iaload, 1) := by decide +kernel
theorem dX7_goSaying_130 : decode cX7_goSaying 130 = .ok (.iadd, 1) := by decide +kernel
theorem dX7_goSaying_131 : decode cX7_goSaying 131 = .ok (.iload_n 1, 1) := by decide +kernel
theorem dX7_goSaying_132 : decode cX7_goSaying 132 = .ok (.bipush 108, 2) := by decide +kernel
theorem dX7_goSaying_134 : decode cX7_goSaying 134 = .ok (.if_icmp .ne 7, 3) := by decide +kernel
theorem dX7_goSaying_137 : decode cX7_goSaying 137 = .ok (.iconst 1, 1) := by decide +kernel
theorem dX7_goSaying_138 : decode cX7_goSaying 138 = .ok (.goto 4, 3) := by decide +kernel
theorem dX7_goSaying_141 : decode cX7_goSaying 141 = .ok (.iconst 0, 1) := by decide +kernel
theorem dX7_goSaying_142 : decode cX7_goSaying 142 = .ok (.iastore, 1) := by decide +kernel
theorem dX7_goSaying_143 : decode cX7_goSaying 143 = .ok (.iconst 1, 1) := by decide +kernel
theorem dX7_goSaying_144 : decode cX7_goSaying 144 = .ok (.ireturn, 1) := by decide +kernel
theorem dX7_goTap_0 : decode cX7_goTap 0 = .ok (.aload_n 0, 1) := by decide +kernel
theorem dX7_goTap_1 : decode cX7_goTap 1 = .ok (.getfield 50, 3) := by decide +kernel
theorem dX7_goTap_4 : decode cX7_goTap 4 = .ok (.istore_n 2, 1) := by decide +kernel
theorem dX7_goTap_5 : decode cX7_goTap 5 = .ok (.aload_n 0, 1) := by decide +kernel
theorem dX7_goTap_6 : decode cX7_goTap 6 = .ok (.aload_n 0, 1) := by decide +kernel
theorem dX7_goTap_7 : decode cX7_goTap 7 = .ok (.getfield 50, 3) := by decide +kernel
theorem dX7_goTap_10 : decode cX7_goTap 10 = .ok (.iconst 1, 1) := by decide +kernel
theorem dX7_goTap_11 : decode cX7_goTap 11 = .ok (.iadd, 1) := by decide +kernel
theorem dX7_goTap_12 : decode cX7_goTap 12 = .ok (.iconst 3, 1) := by decide +kernel
theorem dX7_goTap_13 : decode cX7_goTap 13 = .ok (.irem, 1) := by decide +kernel
theorem dX7_goTap_14 : decode cX7_goTap 14 = .ok (.putfield 50, 3) := by decide +kernel
theorem dX7_goTap_17 : decode cX7_goTap 17 = .ok (.iload_n 2, 1) := by decide +kernel
theorem dX7_goTap_18 : decode cX7_goTap 18 = .ok (.ifCond .ne 32, 3) := by decide +kernel
theorem dX7_goTap_21 : decode cX7_goTap 21 = .ok (.aload_n 0, 1) := by decide +kernel
theorem dX7_goTap_22 : decode cX7_goTap 22 = .ok (.getfield 16, 3) := by decide +kernel
theorem dX7_goTap_25 : decode cX7_goTap 25 = .ok (.iconst 4, 1) := by decide +kernel
theorem dX7_goTap_26 : decode cX7_goTap 26 = .ok (.aload_n 0, 1) := by decide +kernel
theorem dX7_goTap_27 : decode cX7_goTap 27 = .ok (.getfield 53, 3) := by decide +kernel
theorem dX7_goTap_30 : decode cX7_goTap 30 = .ok (.imul, 1) := by decide +kernel
theorem dX7_goTap_31 : decode cX7_goTap 31 = .ok (.iload_n 1, 1) := by decide +kernel
theorem dX7_goTap_32 : decode cX7_goTap 32 = .ok (.invokestatic 56, 3) := by decide +kernel
theorem dX7_goTap_35 : decode cX7_goTap 35 = .ok (.iastore, 1) := by decide +kernel
theorem dX7_goTap_36 : decode cX7_goTap 36 = .ok (.iload_n 1, 1) := by decide +kernel
theorem dX7_goTap_37 : decode cX7_goTap 37 = .ok (.invokestatic 56, 3) := by decide +kernel
theorem dX7_goTap_40 : decode cX7_goTap 40 = .ok (.iconst (-1), 1) := by decide +kernel
theorem dX7_goTap_41 : decode cX7_goTap 41 = .ok (.if_icmp .eq 7, 3) := by decide +kernel
theorem dX7_goTap_44 : decode cX7_goTap 44 = .ok (.iconst 1, 1) := by decide +kernel
theorem dX7_goTap_45 : decode cX7_goTap 45 = .ok (.goto 4, 3) := by decide +kernel
theorem dX7_goTap_48 : decode cX7_goTap 48 = .ok (.iconst 0, 1) := by decide +kernel
theorem dX7_goTap_49 : decode cX7_goTap 49 = .ok (.ireturn, 1) := by decide +kernel
theorem dX7_goTap_50 : decode cX7_goTap 50 = .ok (.iload_n 2, 1) := by decide +kernel
theorem dX7_goTap_51 : decode cX7_goTap 51 = .ok (.iconst 1, 1) := by decide +kernel
theorem dX7_goTap_52 : decode cX7_goTap 52 = .ok (.if_icmp .ne 42, 3) := by decide +kernel
theorem dX7_goTap_55 : decode cX7_goTap 55 = .ok (.aload_n 0, 1) := by decide +kernel
theorem dX7_goTap_56 : decode cX7_goTap 56 = .ok (.getfield 16, 3) := by decide +kernel
theorem dX7_goTap_59 : decode cX7_goTap 59 = .ok (.iconst 4, 1) := by decide +kernel
theorem dX7_goTap_60 : decode cX7_goTap 60 = .ok (.aload_n 0, 1) := by decide +kernel
theorem dX7_goTap_61 : decode cX7_goTap 61 = .ok (.getfield 53, 3) := by decide +kernel
theorem dX7_goTap_64 : decode cX7_goTap 64 = .ok (.imul, 1) := by decide +kernel
theorem dX7_goTap_65 : decode cX7_goTap 65 = .ok (.iconst 1, 1) := by decide +kernel
theorem dX7_goTap_66 : decode cX7_goTap 66 = .ok (.iadd, 1) := by decide +kernel
theorem dX7_goTap_67 : decode cX7_goTap 67 = .ok (.iload_n 1, 1) := by decide +kernel
theorem dX7_goTap_68 : decode cX7_goTap 68 = .ok (.bipush 48, 2) := by decide +kernel
theorem dX7_goTap_70 : decode cX7_goTap 70 = .ok (.isub, 1) := by decide +kernel
theorem dX7_goTap_71 : decode cX7_goTap 71 = .ok (.iastore, 1) := by decide +kernel
theorem dX7_goTap_72 : decode cX7_goTap 72 = .ok (.aload_n 0, 1) := by decide +kernel
theorem dX7_goTap_73 : decode cX7_goTap 73 = .ok (.dup, 1) := by decide +kernel
theorem dX7_goTap_74 : decode cX7_goTap 74 = .ok (.getfield 53, 3) := by decide +kernel
theorem dX7_goTap_77 : decode cX7_goTap 77 = .ok (.iconst 1, 1) := by decide +kernel
theorem dX7_goTap_78 : decode cX7_goTap 78 = .ok (.iadd, 1) := by decide +kernel
theorem dX7_goTap_79 : decode cX7_goTap 79 = .ok (.putfield 53, 3) := by decide +kernel
theorem dX7_goTap_82 : decode cX7_goTap 82 = .ok (.iload_n 1, 1) := by decide +kernel
theorem dX7_goTap_83 : decode cX7_goTap 83 = .ok (.i2l, 1) := by decide +kernel
theorem dX7_goTap_84 : decode cX7_goTap 84 = .ok (.ldc2_w 60, 3) := by decide +kernel
theorem dX7_goTap_87 : decode cX7_goTap 87 = .ok (.ldc2_w 62, 3) := by decide +kernel
theorem dX7_goTap_90 : decode cX7_goTap 90 = .ok (.invokestatic 40, 3) := by decide +kernel
theorem dX7_goTap_93 : decode cX7_goTap 93 = .ok (.ireturn, 1) := by decide +kernel
theorem dX7_goTap_94 : decode cX7_goTap 94 = .ok (.iload_n 1, 1) := by decide +kernel
theorem dX7_goTap_95 : decode cX7_goTap 95 = .ok (.bipush 44, 2) := by decide +kernel
theorem dX7_goTap_97 : decode cX7_goTap 97 = .ok (.if_icmp .ne 15, 3) := by decide +kernel
theorem dX7_goTap_100 : decode cX7_goTap 100 = .ok (.aload_n 0, 1) := by decide +kernel
theorem dX7_goTap_101 : decode cX7_goTap 101 = .ok (.getfield 53, 3) := by decide +kernel
theorem dX7_goTap_104 : decode cX7_goTap 104 = .ok (.iconst 3, 1) := by decide +kernel
theorem dX7_goTap_105 : decode cX7_goTap 105 = .ok (.if_icmp .ge 7, 3) := by decide +kernel
theorem dX7_goTap_108 : decode cX7_goTap 108 = .ok (.iconst 1, 1) := by decide +kernel
theorem dX7_goTap_109 : decode cX7_goTap 109 = .ok (.goto 4, 3) := by decide +kernel
theorem dX7_goTap_112 : decode cX7_goTap 112 = .ok (.iconst 0, 1) := by decide +kernel
theorem dX7_goTap_113 : decode cX7_goTap 113 = .ok (.ireturn, 1) := by decide +kernel
theorem dX7_faultOf_0 : decode cX7_faultOf 0 = .ok (.aload_n 0, 1) := by decide +kernel
theorem dX7_faultOf_1 : decode cX7_faultOf 1 = .ok (.iconst 0, 1) := by decide +kernel
theorem dX7_faultOf_2 : decode cX7_faultOf 2 = .ok (.putfield 47, 3) := by decide +kernel
theorem dX7_faultOf_5 : decode cX7_faultOf 5 = .ok (.aload_n 0, 1) := by decide +kernel
theorem dX7_faultOf_6 : decode cX7_faultOf 6 = .ok (.getfield 13, 3) := by decide +kernel
theorem dX7_faultOf_9 : decode cX7_faultOf 9 = .ok (.iconst 0, 1) := by decide +kernel
theorem dX7_faultOf_10 : decode cX7_faultOf 10 = .ok (.iconst 0, 1) := by decide +kernel
theorem dX7_faultOf_11 : decode cX7_faultOf 11 = .ok (.iastore, 1) := by decide +kernel
theorem dX7_faultOf_12 : decode cX7_faultOf 12 = .ok (.aload_n 0, 1) := by decide +kernel
theorem dX7_faultOf_13 : decode cX7_faultOf 13 = .ok (.iconst 0, 1) := by decide +kernel
theorem dX7_faultOf_14 : decode cX7_faultOf 14 = .ok (.putfield 53, 3) := by decide +kernel
theorem dX7_faultOf_17 : decode cX7_faultOf 17 = .ok (.aload_n 0, 1) := by decide +kernel
theorem dX7_faultOf_18 : decode cX7_faultOf 18 = .ok (.iconst 0, 1) := by decide +kernel
theorem dX7_faultOf_19 : decode cX7_faultOf 19 = .ok (.putfield 50, 3) := by decide +kernel
theorem dX7_faultOf_22 : decode cX7_faultOf 22 = .ok (.iconst 0, 1) := by decide +kernel
theorem dX7_faultOf_23 : decode cX7_faultOf 23 = .ok (.istore_n 1, 1) := by decide +kernel
theorem dX7_faultOf_24 : decode cX7_faultOf 24 = .ok (.iload_n 1, 1) := by decide +kernel
theorem dX7_faultOf_25 : decode cX7_faultOf 25 = .ok (.aload_n 0, 1) := by decide +kernel
theorem dX7_faultOf_26 : decode cX7_faultOf 26 = .ok (.getfield 44, 3) := by decide +kernel
theorem dX7_faultOf_29 : decode cX7_faultOf 29 = .ok (.if_icmp .ge 46, 3) := by decide +kernel
theorem dX7_faultOf_32 : decode cX7_faultOf 32 = .ok (.aload_n 0, 1) := by decide +kernel
theorem dX7_faultOf_33 : decode cX7_faultOf 33 = .ok (.getfield 47, 3) := by decide +kernel
theorem dX7_faultOf_36 : decode cX7_faultOf 36 = .ok (.iconst 4, 1) := by decide +kernel
theorem dX7_faultOf_37 : decode cX7_faultOf 37 = .ok (.if_icmp .ge 19, 3) := by decide +kernel
theorem dX7_faultOf_40 : decode cX7_faultOf 40 = .ok (.aload_n 0, 1) := by decide +kernel
theorem dX7_faultOf_41 : decode cX7_faultOf 41 = .ok (.aload_n 0, 1) := by decide +kernel
theorem dX7_faultOf_42 : decode cX7_faultOf 42 = .ok (.getfield 7, 3) := by decide +kernel
theorem dX7_faultOf_45 : decode cX7_faultOf 45 = .ok (.iload_n 1, 1) := by decide +kernel
theorem dX7_faultOf_46 : decode cX7_faultOf 46 = .ok (.iaload, 1) := by decide +kernel
theorem dX7_faultOf_47 : decode cX7_faultOf 47 = .ok (.invokevirtual 64, 3) := by decide +kernel
theorem dX7_faultOf_50 : decode cX7_faultOf 50 = .ok (.ifCond .eq 25, 3) := by decide +kernel
theorem dX7_faultOf_53 : decode cX7_faultOf 53 = .ok (.goto 16, 3) := by decide +kernel
theorem dX7_faultOf_56 : decode cX7_faultOf 56 = .ok (.aload_n 0, 1) := by decide +kernel
theorem dX7_faultOf_57 : decode cX7_faultOf 57 = .ok (.aload_n 0, 1) := by decide +kernel
theorem dX7_faultOf_58 : decode cX7_faultOf 58 = .ok (.getfield 7, 3) := by decide +kernel
theorem dX7_faultOf_61 : decode cX7_faultOf 61 = .ok (.iload_n 1, 1) := by decide +kernel
theorem dX7_faultOf_62 : decode cX7_faultOf 62 = .ok (.iaload, 1) := by decide +kernel
theorem dX7_faultOf_63 : decode cX7_faultOf 63 = .ok (.invokevirtual 68, 3) := by decide +kernel
theorem dX7_faultOf_66 : decode cX7_faultOf 66 = .ok (.ifCond .eq 9, 3) := by decide +kernel
theorem dX7_faultOf_69 : decode cX7_faultOf 69 = .ok (.iinc 1 1, 3) := by decide +kernel
theorem dX7_faultOf_72 : decode cX7_faultOf 72 = .ok (.goto (-48), 3) := by decide +kernel
theorem dX7_faultOf_75 : decode cX7_faultOf 75 = .ok (.iload_n 1, 1) := by decide +kernel
theorem dX7_faultOf_76 : decode cX7_faultOf 76 = .ok (.ireturn, 1) := by decide +kernel
theorem dX7_fault_0 : decode cX7_fault 0 = .ok (.aload_n 0, 1) := by decide +kernel
theorem dX7_fault_1 : decode cX7_fault 1 = .ok (.invokevirtual 71, 3) := by decide +kernel
theorem dX7_fault_4 : decode cX7_fault 4 = .ok (.ireturn, 1) := by decide +kernel
theorem dX7_house_0 : decode cX7_house 0 = .ok (.aload_n 0, 1) := by decide +kernel
theorem dX7_house_1 : decode cX7_house 1 = .ok (.invokevirtual 71, 3) := by decide +kernel
theorem dX7_house_4 : decode cX7_house 4 = .ok (.aload_n 0, 1) := by decide +kernel
theorem dX7_house_5 : decode cX7_house 5 = .ok (.getfield 44, 3) := by decide +kernel
theorem dX7_house_8 : decode cX7_house 8 = .ok (.if_icmp .lt 19, 3) := by decide +kernel
theorem dX7_house_11 : decode cX7_house 11 = .ok (.aload_n 0, 1) := by decide +kernel
theorem dX7_house_12 : decode cX7_house 12 = .ok (.getfield 47, 3) := by decide +kernel
theorem dX7_house_15 : decode cX7_house 15 = .ok (.iconst 4, 1) := by decide +kernel
theorem dX7_house_16 : decode cX7_house 16 = .ok (.if_icmp .lt 11, 3) := by decide +kernel
theorem dX7_house_19 : decode cX7_house 19 = .ok (.aload_n 0, 1) := by decide +kernel
theorem dX7_house_20 : decode cX7_house 20 = .ok (.getfield 50, 3) := by decide +kernel
theorem dX7_house_23 : decode cX7_house 23 = .ok (.iconst 2, 1) := by decide +kernel
theorem dX7_house_24 : decode cX7_house 24 = .ok (.if_icmp .eq 6, 3) := by decide +kernel
theorem dX7_house_27 : decode cX7_house 27 = .ok (.bipush (-103), 2) := by decide +kernel
theorem dX7_house_29 : decode cX7_house 29 = .ok (.ireturn, 1) := by decide +kernel
theorem dX7_house_30 : decode cX7_house 30 = .ok (.aload_n 0, 1) := by decide +kernel
theorem dX7_house_31 : decode cX7_house 31 = .ok (.aload_n 0, 1) := by decide +kernel
theorem dX7_house_32 : decode cX7_house 32 = .ok (.getfield 53, 3) := by decide +kernel
theorem dX7_house_35 : decode cX7_house 35 = .ok (.putfield 75, 3) := by decide +kernel
theorem dX7_house_38 : decode cX7_house 38 = .ok (.aload_n 0, 1) := by decide +kernel
theorem dX7_house_39 : decode cX7_house 39 = .ok (.getfield 13, 3) := by decide +kernel
theorem dX7_house_42 : decode cX7_house 42 = .ok (.aload_n 0, 1) := by decide +kernel
theorem dX7_house_43 : decode cX7_house 43 = .ok (.getfield 19, 3) := by decide +kernel
theorem dX7_house_46 : decode cX7_house 46 = .ok (.invokestatic 78, 3) := by decide +kernel
theorem dX7_house_49 : decode cX7_house 49 = .ok (.iconst 0, 1) := by decide +kernel
theorem dX7_house_50 : decode cX7_house 50 = .ok (.istore_n 1, 1) := by decide +kernel
theorem dX7_house_51 : decode cX7_house 51 = .ok (.iload_n 1, 1) := by decide +kernel
theorem dX7_house_52 : decode cX7_house 52 = .ok (.aload_n 0, 1) := by decide +kernel
theorem dX7_house_53 : decode cX7_house 53 = .ok (.getfield 75, 3) := by decide +kernel
theorem dX7_house_56 : decode cX7_house 56 = .ok (.if_icmp .ge 67, 3) := by decide +kernel
theorem dX7_house_59 : decode cX7_house 59 = .ok (.aload_n 0, 1) := by decide +kernel
theorem dX7_house_60 : decode cX7_house 60 = .ok (.getfield 22, 3) := by decide +kernel
theorem dX7_house_63 : decode cX7_house 63 = .ok (.iconst 4, 1) := by decide +kernel
theorem dX7_house_64 : decode cX7_house 64 = .ok (.iload_n 1, 1) := by decide +kernel
theorem dX7_house_65 : decode cX7_house 65 = .ok (.imul, 1) := by decide +kernel
theorem dX7_house_66 : decode cX7_house 66 = .ok (.aload_n 0, 1) := by decide +kernel
theorem dX7_house_67 : decode cX7_house 67 = .ok (.getfield 16, 3) := by decide +kernel
theorem dX7_house_70 : decode cX7_house 70 = .ok (.iconst 4, 1) := by decide +kernel
theorem dX7_house_71 : decode cX7_house 71 = .ok (.iload_n 1, 1) := by decide +kernel
theorem dX7_house_72 : decode cX7_house 72 = .ok (.imul, 1) := by decide +kernel
theorem dX7_house_73 : decode cX7_house 73 = .ok (.iaload, 1) := by decide +kernel
theorem dX7_house_74 : decode cX7_house 74 = .ok (.iastore, 1) := by decide +kernel
theorem dX7_house_75 : decode cX7_house 75 = .ok (.aload_n 0, 1) := by decide +kernel
theorem dX7_house_76 : decode cX7_house 76 = .ok (.getfield 22, 3) := by decide +kernel
theorem dX7_house_79 : decode cX7_house 79 = .ok (.iconst 4, 1) := by decide +kernel
theorem dX7_house_80 : decode cX7_house 80 = .ok (.iload_n 1, 1) := by decide +kernel
theorem dX7_house_81 : decode cX7_house 81 = .ok (.imul, 1) := by decide +kernel
theorem dX7_house_82 : decode cX7_house 82 = .ok (.iconst 1, 1) := by decide +kernel
theorem dX7_house_83 : decode cX7_house 83 = .ok (.iadd, 1) := by decide +kernel
theorem dX7_house_84 : decode cX7_house 84 = .ok (.aload_n 0, 1) := by decide +kernel
theorem dX7_house_85 : decode cX7_house 85 = .ok (.getfield 16, 3) := by decide +kernel
theorem dX7_house_88 : decode cX7_house 88 = .ok (.iconst 4, 1) := by decide +kernel
theorem dX7_house_89 : decode cX7_house 89 = .ok (.iload_n 1, 1) := by decide +kernel
theorem dX7_house_90 : decode cX7_house 90 = .ok (.imul, 1) := by decide +kernel
theorem dX7_house_91 : decode cX7_house 91 = .ok (.iconst 1, 1) := by decide +kernel
theorem dX7_house_92 : decode cX7_house 92 = .ok (.iadd, 1) := by decide +kernel
theorem dX7_house_93 : decode cX7_house 93 = .ok (.iaload, 1) := by decide +kernel
theorem dX7_house_94 : decode cX7_house 94 = .ok (.iastore, 1) := by decide +kernel
theorem dX7_house_95 : decode cX7_house 95 = .ok (.aload_n 0, 1) := by decide +kernel
theorem dX7_house_96 : decode cX7_house 96 = .ok (.getfield 22, 3) := by decide +kernel
theorem dX7_house_99 : decode cX7_house 99 = .ok (.iconst 4, 1) := by decide +kernel
theorem dX7_house_100 : decode cX7_house 100 = .ok (.iload_n 1, 1) := by decide +kernel
theorem dX7_house_101 : decode cX7_house 101 = .ok (.imul, 1) := by decide +kernel
theorem dX7_house_102 : decode cX7_house 102 = .ok (.iconst 2, 1) := by decide +kernel
theorem dX7_house_103 : decode cX7_house 103 = .ok (.iadd, 1) := by decide +kernel
theorem dX7_house_104 : decode cX7_house 104 = .ok (.iconst 0, 1) := by decide +kernel
theorem dX7_house_105 : decode cX7_house 105 = .ok (.iastore, 1) := by decide +kernel
theorem dX7_house_106 : decode cX7_house 106 = .ok (.aload_n 0, 1) := by decide +kernel
theorem dX7_house_107 : decode cX7_house 107 = .ok (.getfield 22, 3) := by decide +kernel
theorem dX7_house_110 : decode cX7_house 110 = .ok (.iconst 4, 1) := by decide +kernel
theorem dX7_house_111 : decode cX7_house 111 = .ok (.iload_n 1, 1) := by decide +kernel
theorem dX7_house_112 : decode cX7_house 112 = .ok (.imul, 1) := by decide +kernel
theorem dX7_house_113 : decode cX7_house 113 = .ok (.iconst 3, 1) := by decide +kernel
theorem dX7_house_114 : decode cX7_house 114 = .ok (.iadd, 1) := by decide +kernel
theorem dX7_house_115 : decode cX7_house 115 = .ok (.iconst 0, 1) := by decide +kernel
theorem dX7_house_116 : decode cX7_house 116 = .ok (.iastore, 1) := by decide +kernel
theorem dX7_house_117 : decode cX7_house 117 = .ok (.iinc 1 1, 3) := by decide +kernel
theorem dX7_house_120 : decode cX7_house 120 = .ok (.goto (-69), 3) := by decide +kernel
theorem dX7_house_123 : decode cX7_house 123 = .ok (.aload_n 0, 1) := by decide +kernel
theorem dX7_house_124 : decode cX7_house 124 = .ok (.iconst 0, 1) := by decide +kernel
theorem dX7_house_125 : decode cX7_house 125 = .ok (.putfield 82, 3) := by decide +kernel
theorem dX7_house_128 : decode cX7_house 128 = .ok (.aload_n 0, 1) := by decide +kernel
theorem dX7_house_129 : decode cX7_house 129 = .ok (.iconst 0, 1) := by decide +kernel
theorem dX7_house_130 : decode cX7_house 130 = .ok (.putfield 85, 3) := by decide +kernel
theorem dX7_house_133 : decode cX7_house 133 = .ok (.aload_n 0, 1) := by decide +kernel
theorem dX7_house_134 : decode cX7_house 134 = .ok (.dup, 1) := by decide +kernel
theorem dX7_house_135 : decode cX7_house 135 = .ok (.getfield 88, 3) := by decide +kernel
theorem dX7_house_138 : decode cX7_house 138 = .ok (.iconst 1, 1) := by decide +kernel
theorem dX7_house_139 : decode cX7_house 139 = .ok (.iadd, 1) := by decide +kernel
theorem dX7_house_140 : decode cX7_house 140 = .ok (.putfield 88, 3) := by decide +kernel
theorem dX7_house_143 : decode cX7_house 143 = .ok (.aload_n 0, 1) := by decide +kernel
theorem dX7_house_144 : decode cX7_house 144 = .ok (.iconst 0, 1) := by decide +kernel
theorem dX7_house_145 : decode cX7_house 145 = .ok (.putfield 44, 3) := by decide +kernel
theorem dX7_house_148 : decode cX7_house 148 = .ok (.aload_n 0, 1) := by decide +kernel
theorem dX7_house_149 : decode cX7_house 149 = .ok (.getfield 75, 3) := by decide +kernel
theorem dX7_house_152 : decode cX7_house 152 = .ok (.ireturn, 1) := by decide +kernel
theorem dX7_lacks_0 : decode cX7_lacks 0 = .ok (.aload_n 0, 1) := by decide +kernel
theorem dX7_lacks_1 : decode cX7_lacks 1 = .ok (.getfield 75, 3) := by decide +kernel
theorem dX7_lacks_4 : decode cX7_lacks 4 = .ok (.ifCond .ne 7, 3) := by decide +kernel
theorem dX7_lacks_7 : decode cX7_lacks 7 = .ok (.iconst 1, 1) := by decide +kernel
theorem dX7_lacks_8 : decode cX7_lacks 8 = .ok (.goto 4, 3) := by decide +kernel
theorem dX7_lacks_11 : decode cX7_lacks 11 = .ok (.iconst 0, 1) := by decide +kernel
theorem dX7_lacks_12 : decode cX7_lacks 12 = .ok (.ireturn, 1) := by decide +kernel
theorem dX7_isTap_0 : decode cX7_isTap 0 = .ok (.iload_n 1, 1) := by decide +kernel
theorem dX7_isTap_1 : decode cX7_isTap 1 = .ok (.i2l, 1) := by decide +kernel
theorem dX7_isTap_2 : decode cX7_isTap 2 = .ok (.lconst 0, 1) := by decide +kernel
theorem dX7_isTap_3 : decode cX7_isTap 3 = .ok (.aload_n 0, 1) := by decide +kernel
theorem dX7_isTap_4 : decode cX7_isTap 4 = .ok (.getfield 75, 3) := by decide +kernel
theorem dX7_isTap_7 : decode cX7_isTap 7 = .ok (.iconst 1, 1) := by decide +kernel
theorem dX7_isTap_8 : decode cX7_isTap 8 = .ok (.isub, 1) := by decide +kernel
theorem dX7_isTap_9 : decode cX7_isTap 9 = .ok (.i2l, 1) := by decide +kernel
theorem dX7_isTap_10 : decode cX7_isTap 10 = .ok (.invokestatic 40, 3) := by decide +kernel
theorem dX7_isTap_13 : decode cX7_isTap 13 = .ok (.ireturn, 1) := by decide +kernel
theorem dX7_isSaying_0 : decode cX7_isSaying 0 = .ok (.iload_n 0, 1) := by decide +kernel
theorem dX7_isSaying_1 : decode cX7_isSaying 1 = .ok (.i2l, 1) := by decide +kernel
theorem dX7_isSaying_2 : decode cX7_isSaying 2 = .ok (.lconst 0, 1) := by decide +kernel
theorem dX7_isSaying_3 : decode cX7_isSaying 3 = .ok (.ldc2_w 91, 3) := by decide +kernel
theorem dX7_isSaying_6 : decode cX7_isSaying 6 = .ok (.invokestatic 40, 3) := by decide +kernel
theorem dX7_isSaying_9 : decode cX7_isSaying 9 = .ok (.ireturn, 1) := by decide +kernel
theorem dX7_tellSaying_0 : decode cX7_tellSaying 0 = .ok (.iload_n 2, 1) := by decide +kernel
theorem dX7_tellSaying_1 : decode cX7_tellSaying 1 = .ok (.ifCond .ne 12, 3) := by decide +kernel
theorem dX7_tellSaying_4 : decode cX7_tellSaying 4 = .ok (.aload_n 0, 1) := by decide +kernel
theorem dX7_tellSaying_5 : decode cX7_tellSaying 5 = .ok (.getfield 19, 3) := by decide +kernel
theorem dX7_tellSaying_8 : decode cX7_tellSaying 8 = .ok (.iconst 5, 1) := by decide +kernel
theorem dX7_tellSaying_9 : decode cX7_tellSaying 9 = .ok (.iload_n 1, 1) := by decide +kernel
theorem dX7_tellSaying_10 : decode cX7_tellSaying 10 = .ok (.imul, 1) := by decide +kernel
theorem dX7_tellSaying_11 : decode cX7_tellSaying 11 = .ok (.iaload, 1) := by decide +kernel
theorem dX7_tellSaying_12 : decode cX7_tellSaying 12 = .ok (.ireturn, 1) := by decide +kernel
theorem dX7_tellSaying_13 : decode cX7_tellSaying 13 = .ok (.iload_n 2, 1) := by decide +kernel
theorem dX7_tellSaying_14 : decode cX7_tellSaying 14 = .ok (.i2l, 1) := by decide +kernel
theorem dX7_tellSaying_15 : decode cX7_tellSaying 15 = .ok (.ldc2_w 93, 3) := by decide +kernel
theorem dX7_tellSaying_18 : decode cX7_tellSaying 18 = .ok (.ldc2_w 95, 3) := by decide +kernel
theorem dX7_tellSaying_21 : decode cX7_tellSaying 21 = .ok (.invokestatic 40, 3) := by decide +kernel
theorem dX7_tellSaying_24 : decode cX7_tellSaying 24 = .ok (.ifCond .ne 6, 3) := by decide +kernel
theorem dX7_tellSaying_27 : decode cX7_tellSaying 27 = .ok (.bipush (-102), 2) := by decide +kernel
theorem dX7_tellSaying_29 : decode cX7_tellSaying 29 = .ok (.ireturn, 1) := by decide +kernel
theorem dX7_tellSaying_30 : decode cX7_tellSaying 30 = .ok (.iload_n 2, 1) := by decide +kernel
theorem dX7_tellSaying_31 : decode cX7_tellSaying 31 = .ok (.bipush 10, 2) := by decide +kernel
theorem dX7_tellSaying_33 : decode cX7_tellSaying 33 = .ok (.isub, 1) := by decide +kernel
theorem dX7_tellSaying_34 : decode cX7_tellSaying 34 = .ok (.aload_n 0, 1) := by decide +kernel
theorem dX7_tellSaying_35 : decode cX7_tellSaying 35 = .ok (.getfield 19, 3) := by decide +kernel
theorem dX7_tellSaying_38 : decode cX7_tellSaying 38 = .ok (.iconst 5, 1) := by decide +kernel
theorem dX7_tellSaying_39 : decode cX7_tellSaying 39 = .ok (.iload_n 1, 1) := by decide +kernel
theorem dX7_tellSaying_40 : decode cX7_tellSaying 40 = .ok (.imul, 1) := by decide +kernel
theorem dX7_tellSaying_41 : decode cX7_tellSaying 41 = .ok (.iaload, 1) := by decide +kernel
theorem dX7_tellSaying_42 : decode cX7_tellSaying 42 = .ok (.if_icmp .ge 19, 3) := by decide +kernel
theorem dX7_tellSaying_45 : decode cX7_tellSaying 45 = .ok (.aload_n 0, 1) := by decide +kernel
theorem dX7_tellSaying_46 : decode cX7_tellSaying 46 = .ok (.getfield 19, 3) := by decide +kernel
theorem dX7_tellSaying_49 : decode cX7_tellSaying 49 = .ok (.iconst 5, 1) := by decide +kernel
theorem dX7_tellSaying_50 : decode cX7_tellSaying 50 = .ok (.iload_n 1, 1) := by decide +kernel
theorem dX7_tellSaying_51 : decode cX7_tellSaying 51 = .ok (.imul, 1) := by decide +kernel
theorem dX7_tellSaying_52 : decode cX7_tellSaying 52 = .ok (.iload_n 2, 1) := by decide +kernel
theorem dX7_tellSaying_53 : decode cX7_tellSaying 53 = .ok (.iadd, 1) := by decide +kernel
theorem dX7_tellSaying_54 : decode cX7_tellSaying 54 = .ok (.bipush 9, 2) := by decide +kernel
theorem dX7_tellSaying_56 : decode cX7_tellSaying 56 = .ok (.isub, 1) := by decide +kernel
theorem dX7_tellSaying_57 : decode cX7_tellSaying 57 = .ok (.iaload, 1) := by decide +kernel
theorem dX7_tellSaying_58 : decode cX7_tellSaying 58 = .ok (.goto 4, 3) := by decide +kernel
theorem dX7_tellSaying_61 : decode cX7_tellSaying 61 = .ok (.iconst (-1), 1) := by decide +kernel
theorem dX7_tellSaying_62 : decode cX7_tellSaying 62 = .ok (.ireturn, 1) := by decide +kernel
theorem dX7_saying_0 : decode cX7_saying 0 = .ok (.aload_n 0, 1) := by decide +kernel
theorem dX7_saying_1 : decode cX7_saying 1 = .ok (.invokevirtual 97, 3) := by decide +kernel
theorem dX7_saying_4 : decode cX7_saying 4 = .ok (.ifCond .ne 19, 3) := by decide +kernel
theorem dX7_saying_7 : decode cX7_saying 7 = .ok (.iload_n 1, 1) := by decide +kernel
theorem dX7_saying_8 : decode cX7_saying 8 = .ok (.invokestatic 101, 3) := by decide +kernel
theorem dX7_saying_11 : decode cX7_saying 11 = .ok (.ifCond .eq 12, 3) := by decide +kernel
theorem dX7_saying_14 : decode cX7_saying 14 = .ok (.aload_n 0, 1) := by decide +kernel
theorem dX7_saying_15 : decode cX7_saying 15 = .ok (.iload_n 1, 1) := by decide +kernel
theorem dX7_saying_16 : decode cX7_saying 16 = .ok (.iload_n 2, 1) := by decide +kernel
theorem dX7_saying_17 : decode cX7_saying 17 = .ok (.invokevirtual 104, 3) := by decide +kernel
theorem dX7_saying_20 : decode cX7_saying 20 = .ok (.goto 5, 3) := by decide +kernel
theorem dX7_saying_23 : decode cX7_saying 23 = .ok (.bipush (-101), 2) := by decide +kernel
theorem dX7_saying_25 : decode cX7_saying 25 = .ok (.ireturn, 1) := by decide +kernel
theorem dX7_dripBy_0 : decode cX7_dripBy 0 = .ok (.aload_n 0, 1) := by decide +kernel
theorem dX7_dripBy_1 : decode cX7_dripBy 1 = .ok (.getfield 19, 3) := by decide +kernel
theorem dX7_dripBy_4 : decode cX7_dripBy 4 = .ok (.iconst 5, 1) := by decide +kernel
theorem dX7_dripBy_5 : decode cX7_dripBy 5 = .ok (.iload_n 3, 1) := by decide +kernel
theorem dX7_dripBy_6 : decode cX7_dripBy 6 = .ok (.imul, 1) := by decide +kernel
theorem dX7_dripBy_7 : decode cX7_dripBy 7 = .ok (.iaload, 1) := by decide +kernel
theorem dX7_dripBy_8 : decode cX7_dripBy 8 = .ok (.istore 5, 2) := by decide +kernel
theorem dX7_dripBy_10 : decode cX7_dripBy 10 = .ok (.iload 4, 2) := by decide +kernel
theorem dX7_dripBy_12 : decode cX7_dripBy 12 = .ok (.iload 5, 2) := by decide +kernel
theorem dX7_dripBy_14 : decode cX7_dripBy 14 = .ok (.irem, 1) := by decide +kernel
theorem dX7_dripBy_15 : decode cX7_dripBy 15 = .ok (.istore 6, 2) := by decide +kernel
theorem dX7_dripBy_17 : decode cX7_dripBy 17 = .ok (.iload_n 1, 1) := by decide +kernel
theorem dX7_dripBy_18 : decode cX7_dripBy 18 = .ok (.iconst 1, 1) := by decide +kernel
theorem dX7_dripBy_19 : decode cX7_dripBy 19 = .ok (.if_icmp .eq 8, 3) := by decide +kernel
theorem dX7_dripBy_22 : decode cX7_dripBy 22 = .ok (.iload_n 1, 1) := by decide +kernel
theorem dX7_dripBy_23 : decode cX7_dripBy 23 = .ok (.iconst 4, 1) := by decide +kernel
theorem dX7_dripBy_24 : decode cX7_dripBy 24 = .ok (.if_icmp .ne 13, 3) := by decide +kernel
theorem dX7_dripBy_27 : decode cX7_dripBy 27 = .ok (.iload 5, 2) := by decide +kernel
theorem dX7_dripBy_29 : decode cX7_dripBy 29 = .ok (.iconst 1, 1) := by decide +kernel
theorem dX7_dripBy_30 : decode cX7_dripBy 30 = .ok (.isub, 1) := by decide +kernel
theorem dX7_dripBy_31 : decode cX7_dripBy 31 = .ok (.iload 6, 2) := by decide +kernel
theorem dX7_dripBy_33 : decode cX7_dripBy 33 = .ok (.isub, 1) := by decide +kernel
theorem dX7_dripBy_34 : decode cX7_dripBy 34 = .ok (.goto 5, 3) := by decide +kernel
theorem dX7_dripBy_37 : decode cX7_dripBy 37 = .ok (.iload 6, 2) := by decide +kernel
theorem dX7_dripBy_39 : decode cX7_dripBy 39 = .ok (.istore 7, 2) := by decide +kernel
theorem dX7_dripBy_41 : decode cX7_dripBy 41 = .ok (.aload_n 0, 1) := by decide +kernel
theorem dX7_dripBy_42 : decode cX7_dripBy 42 = .ok (.getfield 19, 3) := by decide +kernel
theorem dX7_dripBy_45 : decode cX7_dripBy 45 = .ok (.iconst 5, 1) := by decide +kernel
theorem dX7_dripBy_46 : decode cX7_dripBy 46 = .ok (.iload_n 3, 1) := by decide +kernel
theorem dX7_dripBy_47 : decode cX7_dripBy 47 = .ok (.imul, 1) := by decide +kernel
theorem dX7_dripBy_48 : decode cX7_dripBy 48 = .ok (.iconst 1, 1) := by decide +kernel
theorem dX7_dripBy_49 : decode cX7_dripBy 49 = .ok (.iadd, 1) := by decide +kernel
theorem dX7_dripBy_50 : decode cX7_dripBy 50 = .ok (.iload 7, 2) := by decide +kernel
theorem dX7_dripBy_52 : decode cX7_dripBy 52 = .ok (.iadd, 1) := by decide +kernel
theorem dX7_dripBy_53 : decode cX7_dripBy 53 = .ok (.iaload, 1) := by decide +kernel
theorem dX7_dripBy_54 : decode cX7_dripBy 54 = .ok (.istore 8, 2) := by decide +kernel
theorem dX7_dripBy_56 : decode cX7_dripBy 56 = .ok (.iload_n 1, 1) := by decide +kernel
theorem dX7_dripBy_57 : decode cX7_dripBy 57 = .ok (.iconst 2, 1) := by decide +kernel
theorem dX7_dripBy_58 : decode cX7_dripBy 58 = .ok (.if_icmp .ne 14, 3) := by decide +kernel
theorem dX7_dripBy_61 : decode cX7_dripBy 61 = .ok (.iload 4, 2) := by decide +kernel
theorem dX7_dripBy_63 : decode cX7_dripBy 63 = .ok (.iconst 2, 1) := by decide +kernel
theorem dX7_dripBy_64 : decode cX7_dripBy 64 = .ok (.irem, 1) := by decide +kernel
theorem dX7_dripBy_65 : decode cX7_dripBy 65 = .ok (.iconst 1, 1) := by decide +kernel
theorem dX7_dripBy_66 : decode cX7_dripBy 66 = .ok (.if_icmp .ne 6, 3) := by decide +kernel
theorem dX7_dripBy_69 : decode cX7_dripBy 69 = .ok (.iconst 0, 1) := by decide +kernel
theorem dX7_dripBy_70 : decode cX7_dripBy 70 = .ok (.istore 8, 2) := by decide +kernel
theorem dX7_dripBy_72 : decode cX7_dripBy 72 = .ok (.iload_n 1, 1) := by decide +kernel
theorem dX7_dripBy_73 : decode cX7_dripBy 73 = .ok (.iconst 3, 1) := by decide +kernel
theorem dX7_dripBy_74 : decode cX7_dripBy 74 = .ok (.if_icmp .ne 11, 3) := by decide +kernel
theorem dX7_dripBy_77 : decode cX7_dripBy 77 = .ok (.iload 6, 2) := by decide +kernel
theorem dX7_dripBy_79 : decode cX7_dripBy 79 = .ok (.ifCond .ne 6, 3) := by decide +kernel
theorem dX7_dripBy_82 : decode cX7_dripBy 82 = .ok (.iconst 1, 1) := by decide +kernel
theorem dX7_dripBy_83 : decode cX7_dripBy 83 = .ok (.istore 8, 2) := by decide +kernel
theorem dX7_dripBy_85 : decode cX7_dripBy 85 = .ok (.iload_n 1, 1) := by decide +kernel
theorem dX7_dripBy_86 : decode cX7_dripBy 86 = .ok (.iconst 4, 1) := by decide +kernel
theorem dX7_dripBy_87 : decode cX7_dripBy 87 = .ok (.if_icmp .ne 9, 3) := by decide +kernel
theorem dX7_dripBy_90 : decode cX7_dripBy 90 = .ok (.iconst 1, 1) := by decide +kernel
theorem dX7_dripBy_91 : decode cX7_dripBy 91 = .ok (.iload 8, 2) := by decide +kernel
theorem dX7_dripBy_93 : decode cX7_dripBy 93 = .ok (.isub, 1) := by decide +kernel
theorem dX7_dripBy_94 : decode cX7_dripBy 94 = .ok (.istore 8, 2) := by decide +kernel
theorem dX7_dripBy_96 : decode cX7_dripBy 96 = .ok (.iload_n 2, 1) := by decide +kernel
theorem dX7_dripBy_97 : decode cX7_dripBy 97 = .ok (.iconst 1, 1) := by decide +kernel
theorem dX7_dripBy_98 : decode cX7_dripBy 98 = .ok (.if_icmp .ne 10, 3) := by decide +kernel
theorem dX7_dripBy_101 : decode cX7_dripBy 101 = .ok (.iconst 1, 1) := by decide +kernel
theorem dX7_dripBy_102 : decode cX7_dripBy 102 = .ok (.iload 8, 2) := by decide +kernel
theorem dX7_dripBy_104 : decode cX7_dripBy 104 = .ok (.isub, 1) := by decide +kernel
theorem dX7_dripBy_105 : decode cX7_dripBy 105 = .ok (.goto 5, 3) := by decide +kernel
theorem dX7_dripBy_108 : decode cX7_dripBy 108 = .ok (.iload 8, 2) := by decide +kernel
theorem dX7_dripBy_110 : decode cX7_dripBy 110 = .ok (.ireturn, 1) := by decide +kernel
theorem dX7_dripAs_0 : decode cX7_dripAs 0 = .ok (.aload_n 0, 1) := by decide +kernel
theorem dX7_dripAs_1 : decode cX7_dripAs 1 = .ok (.aload_n 0, 1) := by decide +kernel
theorem dX7_dripAs_2 : decode cX7_dripAs 2 = .ok (.getfield 22, 3) := by decide +kernel
theorem dX7_dripAs_5 : decode cX7_dripAs 5 = .ok (.iconst 4, 1) := by decide +kernel
theorem dX7_dripAs_6 : decode cX7_dripAs 6 = .ok (.iload_n 1, 1) := by decide +kernel
theorem dX7_dripAs_7 : decode cX7_dripAs 7 = .ok (.imul, 1) := by decide +kernel
theorem dX7_dripAs_8 : decode cX7_dripAs 8 = .ok (.iaload, 1) := by decide +kernel
theorem dX7_dripAs_9 : decode cX7_dripAs 9 = .ok (.aload_n 0, 1) := by decide +kernel
theorem dX7_dripAs_10 : decode cX7_dripAs 10 = .ok (.getfield 22, 3) := by decide +kernel
theorem dX7_dripAs_13 : decode cX7_dripAs 13 = .ok (.iconst 4, 1) := by decide +kernel
theorem dX7_dripAs_14 : decode cX7_dripAs 14 = .ok (.iload_n 1, 1) := by decide +kernel
theorem dX7_dripAs_15 : decode cX7_dripAs 15 = .ok (.imul, 1) := by decide +kernel
theorem dX7_dripAs_16 : decode cX7_dripAs 16 = .ok (.iconst 2, 1) := by decide +kernel
theorem dX7_dripAs_17 : decode cX7_dripAs 17 = .ok (.iadd, 1) := by decide +kernel
theorem dX7_dripAs_18 : decode cX7_dripAs 18 = .ok (.iaload, 1) := by decide +kernel
theorem dX7_dripAs_19 : decode cX7_dripAs 19 = .ok (.iload_n 2, 1) := by decide +kernel
theorem dX7_dripAs_20 : decode cX7_dripAs 20 = .ok (.iload_n 3, 1) := by decide +kernel
theorem dX7_dripAs_21 : decode cX7_dripAs 21 = .ok (.invokevirtual 108, 3) := by decide +kernel
theorem dX7_dripAs_24 : decode cX7_dripAs 24 = .ok (.ireturn, 1) := by decide +kernel
theorem dX7_dripOf_0 : decode cX7_dripOf 0 = .ok (.aload_n 0, 1) := by decide +kernel
theorem dX7_dripOf_1 : decode cX7_dripOf 1 = .ok (.iload_n 1, 1) := by decide +kernel
theorem dX7_dripOf_2 : decode cX7_dripOf 2 = .ok (.aload_n 0, 1) := by decide +kernel
theorem dX7_dripOf_3 : decode cX7_dripOf 3 = .ok (.getfield 22, 3) := by decide +kernel
theorem dX7_dripOf_6 : decode cX7_dripOf 6 = .ok (.iconst 4, 1) := by decide +kernel
theorem dX7_dripOf_7 : decode cX7_dripOf 7 = .ok (.iload_n 1, 1) := by decide +kernel
theorem dX7_dripOf_8 : decode cX7_dripOf 8 = .ok (.imul, 1) := by decide +kernel
theorem dX7_dripOf_9 : decode cX7_dripOf 9 = .ok (.iconst 1, 1) := by decide +kernel
theorem dX7_dripOf_10 : decode cX7_dripOf 10 = .ok (.iadd, 1) := by decide +kernel
theorem dX7_dripOf_11 : decode cX7_dripOf 11 = .ok (.iaload, 1) := by decide +kernel
theorem dX7_dripOf_12 : decode cX7_dripOf 12 = .ok (.iload_n 2, 1) := by decide +kernel
theorem dX7_dripOf_13 : decode cX7_dripOf 13 = .ok (.invokevirtual 112, 3) := by decide +kernel
theorem dX7_dripOf_16 : decode cX7_dripOf 16 = .ok (.ireturn, 1) := by decide +kernel
theorem dX7_tap_0 : decode cX7_tap 0 = .ok (.iload_n 1, 1) := by decide +kernel
theorem dX7_tap_1 : decode cX7_tap 1 = .ok (.i2l, 1) := by decide +kernel
theorem dX7_tap_2 : decode cX7_tap 2 = .ok (.lconst 0, 1) := by decide +kernel
theorem dX7_tap_3 : decode cX7_tap 3 = .ok (.ldc2_w 116, 3) := by decide +kernel
theorem dX7_tap_6 : decode cX7_tap 6 = .ok (.invokestatic 40, 3) := by decide +kernel
theorem dX7_tap_9 : decode cX7_tap 9 = .ok (.ifCond .eq 10, 3) := by decide +kernel
theorem dX7_tap_12 : decode cX7_tap 12 = .ok (.iload_n 2, 1) := by decide +kernel
theorem dX7_tap_13 : decode cX7_tap 13 = .ok (.invokestatic 101, 3) := by decide +kernel
theorem dX7_tap_16 : decode cX7_tap 16 = .ok (.ifCond .ne 6, 3) := by decide +kernel
theorem dX7_tap_19 : decode cX7_tap 19 = .ok (.bipush (-102), 2) := by decide +kernel
theorem dX7_tap_21 : decode cX7_tap 21 = .ok (.ireturn, 1) := by decide +kernel
theorem dX7_tap_22 : decode cX7_tap 22 = .ok (.aload_n 0, 1) := by decide +kernel
theorem dX7_tap_23 : decode cX7_tap 23 = .ok (.invokevirtual 97, 3) := by decide +kernel
theorem dX7_tap_26 : decode cX7_tap 26 = .ok (.ifCond .eq 6, 3) := by decide +kernel
theorem dX7_tap_29 : decode cX7_tap 29 = .ok (.bipush (-103), 2) := by decide +kernel
theorem dX7_tap_31 : decode cX7_tap 31 = .ok (.ireturn, 1) := by decide +kernel
theorem dX7_tap_32 : decode cX7_tap 32 = .ok (.aload_n 0, 1) := by decide +kernel
theorem dX7_tap_33 : decode cX7_tap 33 = .ok (.getfield 75, 3) := by decide +kernel
theorem dX7_tap_36 : decode cX7_tap 36 = .ok (.iconst 5, 1) := by decide +kernel
theorem dX7_tap_37 : decode cX7_tap 37 = .ok (.if_icmp .ne 6, 3) := by decide +kernel
theorem dX7_tap_40 : decode cX7_tap 40 = .ok (.bipush (-104), 2) := by decide +kernel
theorem dX7_tap_42 : decode cX7_tap 42 = .ok (.ireturn, 1) := by decide +kernel
theorem dX7_tap_43 : decode cX7_tap 43 = .ok (.aload_n 0, 1) := by decide +kernel
theorem dX7_tap_44 : decode cX7_tap 44 = .ok (.getfield 22, 3) := by decide +kernel
theorem dX7_tap_47 : decode cX7_tap 47 = .ok (.iconst 4, 1) := by decide +kernel
theorem dX7_tap_48 : decode cX7_tap 48 = .ok (.aload_n 0, 1) := by decide +kernel
theorem dX7_tap_49 : decode cX7_tap 49 = .ok (.getfield 75, 3) := by decide +kernel
theorem dX7_tap_52 : decode cX7_tap 52 = .ok (.imul, 1) := by decide +kernel
theorem dX7_tap_53 : decode cX7_tap 53 = .ok (.iload_n 1, 1) := by decide +kernel
theorem dX7_tap_54 : decode cX7_tap 54 = .ok (.iastore, 1) := by decide +kernel
theorem dX7_tap_55 : decode cX7_tap 55 = .ok (.aload_n 0, 1) := by decide +kernel
theorem dX7_tap_56 : decode cX7_tap 56 = .ok (.getfield 22, 3) := by decide +kernel
theorem dX7_tap_59 : decode cX7_tap 59 = .ok (.iconst 4, 1) := by decide +kernel
theorem dX7_tap_60 : decode cX7_tap 60 = .ok (.aload_n 0, 1) := by decide +kernel
theorem dX7_tap_61 : decode cX7_tap 61 = .ok (.getfield 75, 3) := by decide +kernel
theorem dX7_tap_64 : decode cX7_tap 64 = .ok (.imul, 1) := by decide +kernel
theorem dX7_tap_65 : decode cX7_tap 65 = .ok (.iconst 1, 1) := by decide +kernel
theorem dX7_tap_66 : decode cX7_tap 66 = .ok (.iadd, 1) := by decide +kernel
theorem dX7_tap_67 : decode cX7_tap 67 = .ok (.iload_n 2, 1) := by decide +kernel
theorem dX7_tap_68 : decode cX7_tap 68 = .ok (.iastore, 1) := by decide +kernel
theorem dX7_tap_69 : decode cX7_tap 69 = .ok (.aload_n 0, 1) := by decide +kernel
theorem dX7_tap_70 : decode cX7_tap 70 = .ok (.getfield 22, 3) := by decide +kernel
theorem dX7_tap_73 : decode cX7_tap 73 = .ok (.iconst 4, 1) := by decide +kernel
theorem dX7_tap_74 : decode cX7_tap 74 = .ok (.aload_n 0, 1) := by decide +kernel
theorem dX7_tap_75 : decode cX7_tap 75 = .ok (.getfield 75, 3) := by decide +kernel
theorem dX7_tap_78 : decode cX7_tap 78 = .ok (.imul, 1) := by decide +kernel
theorem dX7_tap_79 : decode cX7_tap 79 = .ok (.iconst 2, 1) := by decide +kernel
theorem dX7_tap_80 : decode cX7_tap 80 = .ok (.iadd, 1) := by decide +kernel
theorem dX7_tap_81 : decode cX7_tap 81 = .ok (.iconst 0, 1) := by decide +kernel
theorem dX7_tap_82 : decode cX7_tap 82 = .ok (.iastore, 1) := by decide +kernel
theorem dX7_tap_83 : decode cX7_tap 83 = .ok (.aload_n 0, 1) := by decide +kernel
theorem dX7_tap_84 : decode cX7_tap 84 = .ok (.getfield 22, 3) := by decide +kernel
theorem dX7_tap_87 : decode cX7_tap 87 = .ok (.iconst 4, 1) := by decide +kernel
theorem dX7_tap_88 : decode cX7_tap 88 = .ok (.aload_n 0, 1) := by decide +kernel
theorem dX7_tap_89 : decode cX7_tap 89 = .ok (.getfield 75, 3) := by decide +kernel
theorem dX7_tap_92 : decode cX7_tap 92 = .ok (.imul, 1) := by decide +kernel
theorem dX7_tap_93 : decode cX7_tap 93 = .ok (.iconst 3, 1) := by decide +kernel
theorem dX7_tap_94 : decode cX7_tap 94 = .ok (.iadd, 1) := by decide +kernel
theorem dX7_tap_95 : decode cX7_tap 95 = .ok (.iconst 0, 1) := by decide +kernel
theorem dX7_tap_96 : decode cX7_tap 96 = .ok (.iastore, 1) := by decide +kernel
theorem dX7_tap_97 : decode cX7_tap 97 = .ok (.aload_n 0, 1) := by decide +kernel
theorem dX7_tap_98 : decode cX7_tap 98 = .ok (.dup, 1) := by decide +kernel
theorem dX7_tap_99 : decode cX7_tap 99 = .ok (.getfield 75, 3) := by decide +kernel
theorem dX7_tap_102 : decode cX7_tap 102 = .ok (.iconst 1, 1) := by decide +kernel
theorem dX7_tap_103 : decode cX7_tap 103 = .ok (.iadd, 1) := by decide +kernel
theorem dX7_tap_104 : decode cX7_tap 104 = .ok (.putfield 75, 3) := by decide +kernel
theorem dX7_tap_107 : decode cX7_tap 107 = .ok (.aload_n 0, 1) := by decide +kernel
theorem dX7_tap_108 : decode cX7_tap 108 = .ok (.getfield 75, 3) := by decide +kernel
theorem dX7_tap_111 : decode cX7_tap 111 = .ok (.iconst 1, 1) := by decide +kernel
theorem dX7_tap_112 : decode cX7_tap 112 = .ok (.isub, 1) := by decide +kernel
theorem dX7_tap_113 : decode cX7_tap 113 = .ok (.ireturn, 1) := by decide +kernel
theorem dX7_patternOf_0 : decode cX7_patternOf 0 = .ok (.iconst 0, 1) := by decide +kernel
theorem dX7_patternOf_1 : decode cX7_patternOf 1 = .ok (.istore 4, 2) := by decide +kernel
theorem dX7_patternOf_3 : decode cX7_patternOf 3 = .ok (.iconst 0, 1) := by decide +kernel
theorem dX7_patternOf_4 : decode cX7_patternOf 4 = .ok (.istore 5, 2) := by decide +kernel
theorem dX7_patternOf_6 : decode cX7_patternOf 6 = .ok (.iload 5, 2) := by decide +kernel
theorem dX7_patternOf_8 : decode cX7_patternOf 8 = .ok (.iload_n 3, 1) := by decide +kernel
theorem dX7_patternOf_9 : decode cX7_patternOf 9 = .ok (.if_icmp .ge 36, 3) := by decide +kernel
theorem dX7_patternOf_12 : decode cX7_patternOf 12 = .ok (.iload 4, 2) := by decide +kernel
theorem dX7_patternOf_14 : decode cX7_patternOf 14 = .ok (.aload_n 0, 1) := by decide +kernel
theorem dX7_patternOf_15 : decode cX7_patternOf 15 = .ok (.iload_n 1, 1) := by decide +kernel
theorem dX7_patternOf_16 : decode cX7_patternOf 16 = .ok (.iload_n 2, 1) := by decide +kernel
theorem dX7_patternOf_17 : decode cX7_patternOf 17 = .ok (.aload_n 0, 1) := by decide +kernel
theorem dX7_patternOf_18 : decode cX7_patternOf 18 = .ok (.getfield 22, 3) := by decide +kernel
theorem dX7_patternOf_21 : decode cX7_patternOf 21 = .ok (.iconst 4, 1) := by decide +kernel
theorem dX7_patternOf_22 : decode cX7_patternOf 22 = .ok (.iload_n 1, 1) := by decide +kernel
theorem dX7_patternOf_23 : decode cX7_patternOf 23 = .ok (.imul, 1) := by decide +kernel
theorem dX7_patternOf_24 : decode cX7_patternOf 24 = .ok (.iconst 3, 1) := by decide +kernel
theorem dX7_patternOf_25 : decode cX7_patternOf 25 = .ok (.iadd, 1) := by decide +kernel
theorem dX7_patternOf_26 : decode cX7_patternOf 26 = .ok (.iaload, 1) := by decide +kernel
theorem dX7_patternOf_27 : decode cX7_patternOf 27 = .ok (.iload 5, 2) := by decide +kernel
theorem dX7_patternOf_29 : decode cX7_patternOf 29 = .ok (.iadd, 1) := by decide +kernel
theorem dX7_patternOf_30 : decode cX7_patternOf 30 = .ok (.invokevirtual 112, 3) := by decide +kernel
theorem dX7_patternOf_33 : decode cX7_patternOf 33 = .ok (.iload 5, 2) := by decide +kernel
theorem dX7_patternOf_35 : decode cX7_patternOf 35 = .ok (.ishl, 1) := by decide +kernel
theorem dX7_patternOf_36 : decode cX7_patternOf 36 = .ok (.ior, 1) := by decide +kernel
theorem dX7_patternOf_37 : decode cX7_patternOf 37 = .ok (.istore 4, 2) := by decide +kernel
theorem dX7_patternOf_39 : decode cX7_patternOf 39 = .ok (.iinc 5 1, 3) := by decide +kernel
theorem dX7_patternOf_42 : decode cX7_patternOf 42 = .ok (.goto (-36), 3) := by decide +kernel
theorem dX7_patternOf_45 : decode cX7_patternOf 45 = .ok (.iload 4, 2) := by decide +kernel
theorem dX7_patternOf_47 : decode cX7_patternOf 47 = .ok (.ireturn, 1) := by decide +kernel
theorem dX7_sureOf_0 : decode cX7_sureOf 0 = .ok (.iconst 1, 1) := by decide +kernel
theorem dX7_sureOf_1 : decode cX7_sureOf 1 = .ok (.istore_n 2, 1) := by decide +kernel
theorem dX7_sureOf_2 : decode cX7_sureOf 2 = .ok (.iload_n 2, 1) := by decide +kernel
theorem dX7_sureOf_3 : decode cX7_sureOf 3 = .ok (.bipush 17, 2) := by decide +kernel
theorem dX7_sureOf_5 : decode cX7_sureOf 5 = .ok (.if_icmp .ge 77, 3) := by decide +kernel
theorem dX7_sureOf_8 : decode cX7_sureOf 8 = .ok (.iconst 1, 1) := by decide +kernel
theorem dX7_sureOf_9 : decode cX7_sureOf 9 = .ok (.istore_n 3, 1) := by decide +kernel
theorem dX7_sureOf_10 : decode cX7_sureOf 10 = .ok (.iconst 0, 1) := by decide +kernel
theorem dX7_sureOf_11 : decode cX7_sureOf 11 = .ok (.istore 4, 2) := by decide +kernel
theorem dX7_sureOf_13 : decode cX7_sureOf 13 = .ok (.iload 4, 2) := by decide +kernel
theorem dX7_sureOf_15 : decode cX7_sureOf 15 = .ok (.iconst 4, 1) := by decide +kernel
theorem dX7_sureOf_16 : decode cX7_sureOf 16 = .ok (.if_icmp .ge 54, 3) := by decide +kernel
theorem dX7_sureOf_19 : decode cX7_sureOf 19 = .ok (.iconst 0, 1) := by decide +kernel
theorem dX7_sureOf_20 : decode cX7_sureOf 20 = .ok (.istore 5, 2) := by decide +kernel
theorem dX7_sureOf_22 : decode cX7_sureOf 22 = .ok (.iload 5, 2) := by decide +kernel
theorem dX7_sureOf_24 : decode cX7_sureOf 24 = .ok (.iload 4, 2) := by decide +kernel
theorem dX7_sureOf_26 : decode cX7_sureOf 26 = .ok (.if_icmp .ge 38, 3) := by decide +kernel
theorem dX7_sureOf_29 : decode cX7_sureOf 29 = .ok (.iload_n 3, 1) := by decide +kernel
theorem dX7_sureOf_30 : decode cX7_sureOf 30 = .ok (.ifCond .eq 26, 3) := by decide +kernel
theorem dX7_sureOf_33 : decode cX7_sureOf 33 = .ok (.aload_n 0, 1) := by decide +kernel
theorem dX7_sureOf_34 : decode cX7_sureOf 34 = .ok (.iload_n 1, 1) := by decide +kernel
theorem dX7_sureOf_35 : decode cX7_sureOf 35 = .ok (.iload 4, 2) := by decide +kernel
theorem dX7_sureOf_37 : decode cX7_sureOf 37 = .ok (.iload_n 2, 1) := by decide +kernel
theorem dX7_sureOf_38 : decode cX7_sureOf 38 = .ok (.invokevirtual 118, 3) := by decide +kernel
theorem dX7_sureOf_41 : decode cX7_sureOf 41 = .ok (.aload_n 0, 1) := by decide +kernel
theorem dX7_sureOf_42 : decode cX7_sureOf 42 = .ok (.iload_n 1, 1) := by decide +kernel
theorem dX7_sureOf_43 : decode cX7_sureOf 43 = .ok (.iload 5, 2) := by decide +kernel
theorem dX7_sureOf_45 : decode cX7_sureOf 45 = .ok (.iload_n 2, 1) := by decide +kernel
theorem dX7_sureOf_46 : decode cX7_sureOf 46 = .ok (.invokevirtual 118, 3) := by decide +kernel
theorem dX7_sureOf_49 : decode cX7_sureOf 49 = .ok (.if_icmp .eq 7, 3) := by decide +kernel
theorem dX7_sureOf_52 : decode cX7_sureOf 52 = .ok (.iconst 1, 1) := by decide +kernel
theorem dX7_sureOf_53 : decode cX7_sureOf 53 = .ok (.goto 4, 3) := by decide +kernel
theorem dX7_sureOf_56 : decode cX7_sureOf 56 = .ok (.iconst 0, 1) := by decide +kernel
theorem dX7_sureOf_57 : decode cX7_sureOf 57 = .ok (.istore_n 3, 1) := by decide +kernel
theorem dX7_sureOf_58 : decode cX7_sureOf 58 = .ok (.iinc 5 1, 3) := by decide +kernel
theorem dX7_sureOf_61 : decode cX7_sureOf 61 = .ok (.goto (-39), 3) := by decide +kernel
theorem dX7_sureOf_64 : decode cX7_sureOf 64 = .ok (.iinc 4 1, 3) := by decide +kernel
theorem dX7_sureOf_67 : decode cX7_sureOf 67 = .ok (.goto (-54), 3) := by decide +kernel
theorem dX7_sureOf_70 : decode cX7_sureOf 70 = .ok (.iload_n 3, 1) := by decide +kernel
theorem dX7_sureOf_71 : decode cX7_sureOf 71 = .ok (.ifCond .eq 5, 3) := by decide +kernel
theorem dX7_sureOf_74 : decode cX7_sureOf 74 = .ok (.iload_n 2, 1) := by decide +kernel
theorem dX7_sureOf_75 : decode cX7_sureOf 75 = .ok (.ireturn, 1) := by decide +kernel
theorem dX7_sureOf_76 : decode cX7_sureOf 76 = .ok (.iinc 2 1, 3) := by decide +kernel
theorem dX7_sureOf_79 : decode cX7_sureOf 79 = .ok (.goto (-77), 3) := by decide +kernel
theorem dX7_sureOf_82 : decode cX7_sureOf 82 = .ok (.iconst (-1), 1) := by decide +kernel
theorem dX7_sureOf_83 : decode cX7_sureOf 83 = .ok (.ireturn, 1) := by decide +kernel
theorem dX7_tell_0 : decode cX7_tell 0 = .ok (.iload_n 2, 1) := by decide +kernel
theorem dX7_tell_1 : decode cX7_tell 1 = .ok (.tableswitch 97 0 8 #[51, 51, 51, 51, 62, 68, 74, 80, 91], 51) := by decide +kernel
theorem dX7_tell_52 : decode cX7_tell 52 = .ok (.aload_n 0, 1) := by decide +kernel
theorem dX7_tell_53 : decode cX7_tell 53 = .ok (.getfield 22, 3) := by decide +kernel
theorem dX7_tell_56 : decode cX7_tell 56 = .ok (.iconst 4, 1) := by decide +kernel
theorem dX7_tell_57 : decode cX7_tell 57 = .ok (.iload_n 1, 1) := by decide +kernel
theorem dX7_tell_58 : decode cX7_tell 58 = .ok (.imul, 1) := by decide +kernel
theorem dX7_tell_59 : decode cX7_tell 59 = .ok (.iload_n 2, 1) := by decide +kernel
theorem dX7_tell_60 : decode cX7_tell 60 = .ok (.iadd, 1) := by decide +kernel
theorem dX7_tell_61 : decode cX7_tell 61 = .ok (.iaload, 1) := by decide +kernel
theorem dX7_tell_62 : decode cX7_tell 62 = .ok (.ireturn, 1) := by decide +kernel
theorem dX7_tell_63 : decode cX7_tell 63 = .ok (.aload_n 0, 1) := by decide +kernel
theorem dX7_tell_64 : decode cX7_tell 64 = .ok (.iload_n 1, 1) := by decide +kernel
theorem dX7_tell_65 : decode cX7_tell 65 = .ok (.invokevirtual 121, 3) := by decide +kernel
theorem dX7_tell_68 : decode cX7_tell 68 = .ok (.ireturn, 1) := by decide +kernel
theorem dX7_tell_69 : decode cX7_tell 69 = .ok (.aload_n 0, 1) := by decide +kernel
theorem dX7_tell_70 : decode cX7_tell 70 = .ok (.iload_n 1, 1) := by decide +kernel
theorem dX7_tell_71 : decode cX7_tell 71 = .ok (.invokevirtual 124, 3) := by decide +kernel
theorem dX7_tell_74 : decode cX7_tell 74 = .ok (.ireturn, 1) := by decide +kernel
theorem dX7_tell_75 : decode cX7_tell 75 = .ok (.aload_n 0, 1) := by decide +kernel
theorem dX7_tell_76 : decode cX7_tell 76 = .ok (.iload_n 1, 1) := by decide +kernel
theorem dX7_tell_77 : decode cX7_tell 77 = .ok (.invokevirtual 127, 3) := by decide +kernel
theorem dX7_tell_80 : decode cX7_tell 80 = .ok (.ireturn, 1) := by decide +kernel
theorem dX7_tell_81 : decode cX7_tell 81 = .ok (.aload_n 0, 1) := by decide +kernel
theorem dX7_tell_82 : decode cX7_tell 82 = .ok (.iload_n 1, 1) := by decide +kernel
theorem dX7_tell_83 : decode cX7_tell 83 = .ok (.aload_n 0, 1) := by decide +kernel
theorem dX7_tell_84 : decode cX7_tell 84 = .ok (.iload_n 1, 1) := by decide +kernel
theorem dX7_tell_85 : decode cX7_tell 85 = .ok (.invokevirtual 127, 3) := by decide +kernel
theorem dX7_tell_88 : decode cX7_tell 88 = .ok (.invokevirtual 130, 3) := by decide +kernel
theorem dX7_tell_91 : decode cX7_tell 91 = .ok (.ireturn, 1) := by decide +kernel
theorem dX7_tell_92 : decode cX7_tell 92 = .ok (.aload_n 0, 1) := by decide +kernel
theorem dX7_tell_93 : decode cX7_tell 93 = .ok (.iload_n 1, 1) := by decide +kernel
theorem dX7_tell_94 : decode cX7_tell 94 = .ok (.invokevirtual 133, 3) := by decide +kernel
theorem dX7_tell_97 : decode cX7_tell 97 = .ok (.ireturn, 1) := by decide +kernel
theorem dX7_tell_98 : decode cX7_tell 98 = .ok (.bipush (-102), 2) := by decide +kernel
theorem dX7_tell_100 : decode cX7_tell 100 = .ok (.ireturn, 1) := by decide +kernel
theorem dX7_about_0 : decode cX7_about 0 = .ok (.aload_n 0, 1) := by decide +kernel
theorem dX7_about_1 : decode cX7_about 1 = .ok (.iload_n 1, 1) := by decide +kernel
theorem dX7_about_2 : decode cX7_about 2 = .ok (.invokevirtual 136, 3) := by decide +kernel
theorem dX7_about_5 : decode cX7_about 5 = .ok (.ifCond .eq 12, 3) := by decide +kernel
theorem dX7_about_8 : decode cX7_about 8 = .ok (.aload_n 0, 1) := by decide +kernel
theorem dX7_about_9 : decode cX7_about 9 = .ok (.iload_n 1, 1) := by decide +kernel
theorem dX7_about_10 : decode cX7_about 10 = .ok (.iload_n 2, 1) := by decide +kernel
theorem dX7_about_11 : decode cX7_about 11 = .ok (.invokevirtual 139, 3) := by decide +kernel
theorem dX7_about_14 : decode cX7_about 14 = .ok (.goto 5, 3) := by decide +kernel
theorem dX7_about_17 : decode cX7_about 17 = .ok (.bipush (-101), 2) := by decide +kernel
theorem dX7_about_19 : decode cX7_about 19 = .ok (.ireturn, 1) := by decide +kernel
theorem dX7_as_0 : decode cX7_as 0 = .ok (.aload_n 0, 1) := by decide +kernel
theorem dX7_as_1 : decode cX7_as 1 = .ok (.iload_n 1, 1) := by decide +kernel
theorem dX7_as_2 : decode cX7_as 2 = .ok (.invokevirtual 136, 3) := by decide +kernel
theorem dX7_as_5 : decode cX7_as 5 = .ok (.ifCond .ne 6, 3) := by decide +kernel
theorem dX7_as_8 : decode cX7_as 8 = .ok (.bipush (-101), 2) := by decide +kernel
theorem dX7_as_10 : decode cX7_as 10 = .ok (.ireturn, 1) := by decide +kernel
theorem dX7_as_11 : decode cX7_as 11 = .ok (.iload_n 2, 1) := by decide +kernel
theorem dX7_as_12 : decode cX7_as 12 = .ok (.i2l, 1) := by decide +kernel
theorem dX7_as_13 : decode cX7_as 13 = .ok (.lconst 0, 1) := by decide +kernel
theorem dX7_as_14 : decode cX7_as 14 = .ok (.ldc2_w 116, 3) := by decide +kernel
theorem dX7_as_17 : decode cX7_as 17 = .ok (.invokestatic 40, 3) := by decide +kernel
theorem dX7_as_20 : decode cX7_as 20 = .ok (.ifCond .ne 6, 3) := by decide +kernel
theorem dX7_as_23 : decode cX7_as 23 = .ok (.bipush (-102), 2) := by decide +kernel
theorem dX7_as_25 : decode cX7_as 25 = .ok (.ireturn, 1) := by decide +kernel
theorem dX7_as_26 : decode cX7_as 26 = .ok (.aload_n 0, 1) := by decide +kernel
theorem dX7_as_27 : decode cX7_as 27 = .ok (.getfield 22, 3) := by decide +kernel
theorem dX7_as_30 : decode cX7_as 30 = .ok (.iconst 4, 1) := by decide +kernel
theorem dX7_as_31 : decode cX7_as 31 = .ok (.iload_n 1, 1) := by decide +kernel
theorem dX7_as_32 : decode cX7_as 32 = .ok (.imul, 1) := by decide +kernel
theorem dX7_as_33 : decode cX7_as 33 = .ok (.iaload, 1) := by decide +kernel
theorem dX7_as_34 : decode cX7_as 34 = .ok (.istore_n 3, 1) := by decide +kernel
theorem dX7_as_35 : decode cX7_as 35 = .ok (.iload_n 2, 1) := by decide +kernel
theorem dX7_as_36 : decode cX7_as 36 = .ok (.ifCond .eq 18, 3) := by decide +kernel
theorem dX7_as_39 : decode cX7_as 39 = .ok (.iload_n 2, 1) := by decide +kernel
theorem dX7_as_40 : decode cX7_as 40 = .ok (.iload_n 3, 1) := by decide +kernel
theorem dX7_as_41 : decode cX7_as 41 = .ok (.if_icmp .eq 13, 3) := by decide +kernel
theorem dX7_as_44 : decode cX7_as 44 = .ok (.iload_n 2, 1) := by decide +kernel
theorem dX7_as_45 : decode cX7_as 45 = .ok (.iconst 1, 1) := by decide +kernel
theorem dX7_as_46 : decode cX7_as 46 = .ok (.if_icmp .ne 12, 3) := by decide +kernel
theorem dX7_as_49 : decode cX7_as 49 = .ok (.iload_n 3, 1) := by decide +kernel
theorem dX7_as_50 : decode cX7_as 50 = .ok (.iconst 4, 1) := by decide +kernel
theorem dX7_as_51 : decode cX7_as 51 = .ok (.if_icmp .ne 7, 3) := by decide +kernel
theorem dX7_as_54 : decode cX7_as 54 = .ok (.iconst 1, 1) := by decide +kernel
theorem dX7_as_55 : decode cX7_as 55 = .ok (.goto 4, 3) := by decide +kernel
theorem dX7_as_58 : decode cX7_as 58 = .ok (.iconst 0, 1) := by decide +kernel
theorem dX7_as_59 : decode cX7_as 59 = .ok (.istore 4, 2) := by decide +kernel
theorem dX7_as_61 : decode cX7_as 61 = .ok (.iload 4, 2) := by decide +kernel
theorem dX7_as_63 : decode cX7_as 63 = .ok (.ifCond .eq 7, 3) := by decide +kernel
theorem dX7_as_66 : decode cX7_as 66 = .ok (.iload_n 1, 1) := by decide +kernel
theorem dX7_as_67 : decode cX7_as 67 = .ok (.goto 4, 3) := by decide +kernel
theorem dX7_as_70 : decode cX7_as 70 = .ok (.iconst (-1), 1) := by decide +kernel
theorem dX7_as_71 : decode cX7_as 71 = .ok (.ireturn, 1) := by decide +kernel
theorem dX7_drip_0 : decode cX7_drip 0 = .ok (.aload_n 0, 1) := by decide +kernel
theorem dX7_drip_1 : decode cX7_drip 1 = .ok (.iload_n 1, 1) := by decide +kernel
theorem dX7_drip_2 : decode cX7_drip 2 = .ok (.invokevirtual 136, 3) := by decide +kernel
theorem dX7_drip_5 : decode cX7_drip 5 = .ok (.ifCond .ne 6, 3) := by decide +kernel
theorem dX7_drip_8 : decode cX7_drip 8 = .ok (.bipush (-101), 2) := by decide +kernel
theorem dX7_drip_10 : decode cX7_drip 10 = .ok (.ireturn, 1) := by decide +kernel
theorem dX7_drip_11 : decode cX7_drip 11 = .ok (.iload_n 2, 1) := by decide +kernel
theorem dX7_drip_12 : decode cX7_drip 12 = .ok (.i2l, 1) := by decide +kernel
theorem dX7_drip_13 : decode cX7_drip 13 = .ok (.lconst 0, 1) := by decide +kernel
theorem dX7_drip_14 : decode cX7_drip 14 = .ok (.ldc2_w 142, 3) := by decide +kernel
theorem dX7_drip_17 : decode cX7_drip 17 = .ok (.invokestatic 40, 3) := by decide +kernel
theorem dX7_drip_20 : decode cX7_drip 20 = .ok (.ifCond .eq 12, 3) := by decide +kernel
theorem dX7_drip_23 : decode cX7_drip 23 = .ok (.aload_n 0, 1) := by decide +kernel
theorem dX7_drip_24 : decode cX7_drip 24 = .ok (.iload_n 1, 1) := by decide +kernel
theorem dX7_drip_25 : decode cX7_drip 25 = .ok (.iload_n 2, 1) := by decide +kernel
theorem dX7_drip_26 : decode cX7_drip 26 = .ok (.invokevirtual 144, 3) := by decide +kernel
theorem dX7_drip_29 : decode cX7_drip 29 = .ok (.goto 5, 3) := by decide +kernel
theorem dX7_drip_32 : decode cX7_drip 32 = .ok (.bipush (-102), 2) := by decide +kernel
theorem dX7_drip_34 : decode cX7_drip 34 = .ok (.ireturn, 1) := by decide +kernel
theorem dX7_listen_0 : decode cX7_listen 0 = .ok (.aload_n 0, 1) := by decide +kernel
theorem dX7_listen_1 : decode cX7_listen 1 = .ok (.iload_n 1, 1) := by decide +kernel
theorem dX7_listen_2 : decode cX7_listen 2 = .ok (.invokevirtual 136, 3) := by decide +kernel
theorem dX7_listen_5 : decode cX7_listen 5 = .ok (.ifCond .ne 6, 3) := by decide +kernel
theorem dX7_listen_8 : decode cX7_listen 8 = .ok (.bipush (-101), 2) := by decide +kernel
theorem dX7_listen_10 : decode cX7_listen 10 = .ok (.ireturn, 1) := by decide +kernel
theorem dX7_listen_11 : decode cX7_listen 11 = .ok (.aload_n 0, 1) := by decide +kernel
theorem dX7_listen_12 : decode cX7_listen 12 = .ok (.getfield 22, 3) := by decide +kernel
theorem dX7_listen_15 : decode cX7_listen 15 = .ok (.iconst 4, 1) := by decide +kernel
theorem dX7_listen_16 : decode cX7_listen 16 = .ok (.iload_n 1, 1) := by decide +kernel
theorem dX7_listen_17 : decode cX7_listen 17 = .ok (.imul, 1) := by decide +kernel
theorem dX7_listen_18 : decode cX7_listen 18 = .ok (.iconst 3, 1) := by decide +kernel
theorem dX7_listen_19 : decode cX7_listen 19 = .ok (.iadd, 1) := by decide +kernel
theorem dX7_listen_20 : decode cX7_listen 20 = .ok (.iaload, 1) := by decide +kernel
theorem dX7_listen_21 : decode cX7_listen 21 = .ok (.bipush 60, 2) := by decide +kernel
theorem dX7_listen_23 : decode cX7_listen 23 = .ok (.if_icmp .ne 6, 3) := by decide +kernel
theorem dX7_listen_26 : decode cX7_listen 26 = .ok (.bipush (-103), 2) := by decide +kernel
theorem dX7_listen_28 : decode cX7_listen 28 = .ok (.ireturn, 1) := by decide +kernel
theorem dX7_listen_29 : decode cX7_listen 29 = .ok (.aload_n 0, 1) := by decide +kernel
theorem dX7_listen_30 : decode cX7_listen 30 = .ok (.iload_n 1, 1) := by decide +kernel
theorem dX7_listen_31 : decode cX7_listen 31 = .ok (.aload_n 0, 1) := by decide +kernel
theorem dX7_listen_32 : decode cX7_listen 32 = .ok (.getfield 22, 3) := by decide +kernel
theorem dX7_listen_35 : decode cX7_listen 35 = .ok (.iconst 4, 1) := by decide +kernel
theorem dX7_listen_36 : decode cX7_listen 36 = .ok (.iload_n 1, 1) := by decide +kernel
theorem dX7_listen_37 : decode cX7_listen 37 = .ok (.imul, 1) := by decide +kernel
theorem dX7_listen_38 : decode cX7_listen 38 = .ok (.iconst 3, 1) := by decide +kernel
theorem dX7_listen_39 : decode cX7_listen 39 = .ok (.iadd, 1) := by decide +kernel
theorem dX7_listen_40 : decode cX7_listen 40 = .ok (.iaload, 1) := by decide +kernel
theorem dX7_listen_41 : decode cX7_listen 41 = .ok (.invokevirtual 144, 3) := by decide +kernel
theorem dX7_listen_44 : decode cX7_listen 44 = .ok (.istore_n 2, 1) := by decide +kernel
theorem dX7_listen_45 : decode cX7_listen 45 = .ok (.aload_n 0, 1) := by decide +kernel
theorem dX7_listen_46 : decode cX7_listen 46 = .ok (.getfield 22, 3) := by decide +kernel
theorem dX7_listen_49 : decode cX7_listen 49 = .ok (.iconst 4, 1) := by decide +kernel
theorem dX7_listen_50 : decode cX7_listen 50 = .ok (.iload_n 1, 1) := by decide +kernel
theorem dX7_listen_51 : decode cX7_listen 51 = .ok (.imul, 1) := by decide +kernel
theorem dX7_listen_52 : decode cX7_listen 52 = .ok (.iconst 3, 1) := by decide +kernel
theorem dX7_listen_53 : decode cX7_listen 53 = .ok (.iadd, 1) := by decide +kernel
theorem dX7_listen_54 : decode cX7_listen 54 = .ok (.dup2, 1) := by decide +kernel
theorem dX7_listen_55 : decode cX7_listen 55 = .ok (.iaload, 1) := by decide +kernel
theorem dX7_listen_56 : decode cX7_listen 56 = .ok (.iconst 1, 1) := by decide +kernel
theorem dX7_listen_57 : decode cX7_listen 57 = .ok (.iadd, 1) := by decide +kernel
theorem dX7_listen_58 : decode cX7_listen 58 = .ok (.iastore, 1) := by decide +kernel
theorem dX7_listen_59 : decode cX7_listen 59 = .ok (.aload_n 0, 1) := by decide +kernel
theorem dX7_listen_60 : decode cX7_listen 60 = .ok (.dup, 1) := by decide +kernel
theorem dX7_listen_61 : decode cX7_listen 61 = .ok (.getfield 82, 3) := by decide +kernel
theorem dX7_listen_64 : decode cX7_listen 64 = .ok (.iconst 1, 1) := by decide +kernel
theorem dX7_listen_65 : decode cX7_listen 65 = .ok (.iadd, 1) := by decide +kernel
theorem dX7_listen_66 : decode cX7_listen 66 = .ok (.putfield 82, 3) := by decide +kernel
theorem dX7_listen_69 : decode cX7_listen 69 = .ok (.iload_n 2, 1) := by decide +kernel
theorem dX7_listen_70 : decode cX7_listen 70 = .ok (.ireturn, 1) := by decide +kernel
theorem dX7_washer_0 : decode cX7_washer 0 = .ok (.aload_n 0, 1) := by decide +kernel
theorem dX7_washer_1 : decode cX7_washer 1 = .ok (.iload_n 1, 1) := by decide +kernel
theorem dX7_washer_2 : decode cX7_washer 2 = .ok (.invokevirtual 136, 3) := by decide +kernel
theorem dX7_washer_5 : decode cX7_washer 5 = .ok (.ifCond .ne 6, 3) := by decide +kernel
theorem dX7_washer_8 : decode cX7_washer 8 = .ok (.bipush (-101), 2) := by decide +kernel
theorem dX7_washer_10 : decode cX7_washer 10 = .ok (.ireturn, 1) := by decide +kernel
theorem dX7_washer_11 : decode cX7_washer 11 = .ok (.aload_n 0, 1) := by decide +kernel
theorem dX7_washer_12 : decode cX7_washer 12 = .ok (.getfield 22, 3) := by decide +kernel
theorem dX7_washer_15 : decode cX7_washer 15 = .ok (.iconst 4, 1) := by decide +kernel
theorem dX7_washer_16 : decode cX7_washer 16 = .ok (.iload_n 1, 1) := by decide +kernel
theorem dX7_washer_17 : decode cX7_washer 17 = .ok (.imul, 1) := by decide +kernel
theorem dX7_washer_18 : decode cX7_washer 18 = .ok (.iconst 2, 1) := by decide +kernel
theorem dX7_washer_19 : decode cX7_washer 19 = .ok (.iadd, 1) := by decide +kernel
theorem dX7_washer_20 : decode cX7_washer 20 = .ok (.iaload, 1) := by decide +kernel
theorem dX7_washer_21 : decode cX7_washer 21 = .ok (.istore_n 3, 1) := by decide +kernel
theorem dX7_washer_22 : decode cX7_washer 22 = .ok (.aload_n 0, 1) := by decide +kernel
theorem dX7_washer_23 : decode cX7_washer 23 = .ok (.getfield 22, 3) := by decide +kernel
theorem dX7_washer_26 : decode cX7_washer 26 = .ok (.iconst 4, 1) := by decide +kernel
theorem dX7_washer_27 : decode cX7_washer 27 = .ok (.iload_n 1, 1) := by decide +kernel
theorem dX7_washer_28 : decode cX7_washer 28 = .ok (.imul, 1) := by decide +kernel
theorem dX7_washer_29 : decode cX7_washer 29 = .ok (.iconst 2, 1) := by decide +kernel
theorem dX7_washer_30 : decode cX7_washer 30 = .ok (.iadd, 1) := by decide +kernel
theorem dX7_washer_31 : decode cX7_washer 31 = .ok (.iload_n 2, 1) := by decide +kernel
theorem dX7_washer_32 : decode cX7_washer 32 = .ok (.ifCond .eq 7, 3) := by decide +kernel
theorem dX7_washer_35 : decode cX7_washer 35 = .ok (.iconst 1, 1) := by decide +kernel
theorem dX7_washer_36 : decode cX7_washer 36 = .ok (.goto 4, 3) := by decide +kernel
theorem dX7_washer_39 : decode cX7_washer 39 = .ok (.iconst 0, 1) := by decide +kernel
theorem dX7_washer_40 : decode cX7_washer 40 = .ok (.iastore, 1) := by decide +kernel
theorem dX7_washer_41 : decode cX7_washer 41 = .ok (.aload_n 0, 1) := by decide +kernel
theorem dX7_washer_42 : decode cX7_washer 42 = .ok (.dup, 1) := by decide +kernel
theorem dX7_washer_43 : decode cX7_washer 43 = .ok (.getfield 82, 3) := by decide +kernel
theorem dX7_washer_46 : decode cX7_washer 46 = .ok (.iconst 1, 1) := by decide +kernel
theorem dX7_washer_47 : decode cX7_washer 47 = .ok (.iadd, 1) := by decide +kernel
theorem dX7_washer_48 : decode cX7_washer 48 = .ok (.putfield 82, 3) := by decide +kernel
theorem dX7_washer_51 : decode cX7_washer 51 = .ok (.iload_n 3, 1) := by decide +kernel
theorem dX7_washer_52 : decode cX7_washer 52 = .ok (.ireturn, 1) := by decide +kernel
theorem dX7_teach_0 : decode cX7_teach 0 = .ok (.aload_n 0, 1) := by decide +kernel
theorem dX7_teach_1 : decode cX7_teach 1 = .ok (.iload_n 1, 1) := by decide +kernel
theorem dX7_teach_2 : decode cX7_teach 2 = .ok (.invokevirtual 136, 3) := by decide +kernel
theorem dX7_teach_5 : decode cX7_teach 5 = .ok (.ifCond .ne 6, 3) := by decide +kernel
theorem dX7_teach_8 : decode cX7_teach 8 = .ok (.bipush (-101), 2) := by decide +kernel
theorem dX7_teach_10 : decode cX7_teach 10 = .ok (.ireturn, 1) := by decide +kernel
theorem dX7_teach_11 : decode cX7_teach 11 = .ok (.iload_n 2, 1) := by decide +kernel
theorem dX7_teach_12 : decode cX7_teach 12 = .ok (.invokestatic 101, 3) := by decide +kernel
theorem dX7_teach_15 : decode cX7_teach 15 = .ok (.ifCond .ne 6, 3) := by decide +kernel
theorem dX7_teach_18 : decode cX7_teach 18 = .ok (.bipush (-102), 2) := by decide +kernel
theorem dX7_teach_20 : decode cX7_teach 20 = .ok (.ireturn, 1) := by decide +kernel
theorem dX7_teach_21 : decode cX7_teach 21 = .ok (.aload_n 0, 1) := by decide +kernel
theorem dX7_teach_22 : decode cX7_teach 22 = .ok (.getfield 22, 3) := by decide +kernel
theorem dX7_teach_25 : decode cX7_teach 25 = .ok (.iconst 4, 1) := by decide +kernel
theorem dX7_teach_26 : decode cX7_teach 26 = .ok (.iload_n 1, 1) := by decide +kernel
theorem dX7_teach_27 : decode cX7_teach 27 = .ok (.imul, 1) := by decide +kernel
theorem dX7_teach_28 : decode cX7_teach 28 = .ok (.iconst 1, 1) := by decide +kernel
theorem dX7_teach_29 : decode cX7_teach 29 = .ok (.iadd, 1) := by decide +kernel
theorem dX7_teach_30 : decode cX7_teach 30 = .ok (.iaload, 1) := by decide +kernel
theorem dX7_teach_31 : decode cX7_teach 31 = .ok (.istore_n 3, 1) := by decide +kernel
theorem dX7_teach_32 : decode cX7_teach 32 = .ok (.aload_n 0, 1) := by decide +kernel
theorem dX7_teach_33 : decode cX7_teach 33 = .ok (.getfield 22, 3) := by decide +kernel
theorem dX7_teach_36 : decode cX7_teach 36 = .ok (.iconst 4, 1) := by decide +kernel
theorem dX7_teach_37 : decode cX7_teach 37 = .ok (.iload_n 1, 1) := by decide +kernel
theorem dX7_teach_38 : decode cX7_teach 38 = .ok (.imul, 1) := by decide +kernel
theorem dX7_teach_39 : decode cX7_teach 39 = .ok (.iconst 1, 1) := by decide +kernel
theorem dX7_teach_40 : decode cX7_teach 40 = .ok (.iadd, 1) := by decide +kernel
theorem dX7_teach_41 : decode cX7_teach 41 = .ok (.iload_n 2, 1) := by decide +kernel
theorem dX7_teach_42 : decode cX7_teach 42 = .ok (.iastore, 1) := by decide +kernel
theorem dX7_teach_43 : decode cX7_teach 43 = .ok (.aload_n 0, 1) := by decide +kernel
theorem dX7_teach_44 : decode cX7_teach 44 = .ok (.dup, 1) := by decide +kernel
theorem dX7_teach_45 : decode cX7_teach 45 = .ok (.getfield 82, 3) := by decide +kernel
theorem dX7_teach_48 : decode cX7_teach 48 = .ok (.iconst 1, 1) := by decide +kernel
theorem dX7_teach_49 : decode cX7_teach 49 = .ok (.iadd, 1) := by decide +kernel
theorem dX7_teach_50 : decode cX7_teach 50 = .ok (.putfield 82, 3) := by decide +kernel
theorem dX7_teach_53 : decode cX7_teach 53 = .ok (.iload_n 3, 1) := by decide +kernel
theorem dX7_teach_54 : decode cX7_teach 54 = .ok (.ireturn, 1) := by decide +kernel
theorem dX7_agreeOf_0 : decode cX7_agreeOf 0 = .ok (.iconst 0, 1) := by decide +kernel
theorem dX7_agreeOf_1 : decode cX7_agreeOf 1 = .ok (.istore_n 3, 1) := by decide +kernel
theorem dX7_agreeOf_2 : decode cX7_agreeOf 2 = .ok (.iconst 0, 1) := by decide +kernel
theorem dX7_agreeOf_3 : decode cX7_agreeOf 3 = .ok (.istore 4, 2) := by decide +kernel
theorem dX7_agreeOf_5 : decode cX7_agreeOf 5 = .ok (.iload 4, 2) := by decide +kernel
theorem dX7_agreeOf_7 : decode cX7_agreeOf 7 = .ok (.bipush 16, 2) := by decide +kernel
theorem dX7_agreeOf_9 : decode cX7_agreeOf 9 = .ok (.if_icmp .ge 56, 3) := by decide +kernel
theorem dX7_agreeOf_12 : decode cX7_agreeOf 12 = .ok (.iload_n 3, 1) := by decide +kernel
theorem dX7_agreeOf_13 : decode cX7_agreeOf 13 = .ok (.aload_n 0, 1) := by decide +kernel
theorem dX7_agreeOf_14 : decode cX7_agreeOf 14 = .ok (.iload_n 1, 1) := by decide +kernel
theorem dX7_agreeOf_15 : decode cX7_agreeOf 15 = .ok (.aload_n 0, 1) := by decide +kernel
theorem dX7_agreeOf_16 : decode cX7_agreeOf 16 = .ok (.getfield 22, 3) := by decide +kernel
theorem dX7_agreeOf_19 : decode cX7_agreeOf 19 = .ok (.iconst 4, 1) := by decide +kernel
theorem dX7_agreeOf_20 : decode cX7_agreeOf 20 = .ok (.iload_n 1, 1) := by decide +kernel
theorem dX7_agreeOf_21 : decode cX7_agreeOf 21 = .ok (.imul, 1) := by decide +kernel
theorem dX7_agreeOf_22 : decode cX7_agreeOf 22 = .ok (.iconst 3, 1) := by decide +kernel
theorem dX7_agreeOf_23 : decode cX7_agreeOf 23 = .ok (.iadd, 1) := by decide +kernel
theorem dX7_agreeOf_24 : decode cX7_agreeOf 24 = .ok (.iaload, 1) := by decide +kernel
theorem dX7_agreeOf_25 : decode cX7_agreeOf 25 = .ok (.iload 4, 2) := by decide +kernel
theorem dX7_agreeOf_27 : decode cX7_agreeOf 27 = .ok (.iadd, 1) := by decide +kernel
theorem dX7_agreeOf_28 : decode cX7_agreeOf 28 = .ok (.invokevirtual 144, 3) := by decide +kernel
theorem dX7_agreeOf_31 : decode cX7_agreeOf 31 = .ok (.aload_n 0, 1) := by decide +kernel
theorem dX7_agreeOf_32 : decode cX7_agreeOf 32 = .ok (.iload_n 2, 1) := by decide +kernel
theorem dX7_agreeOf_33 : decode cX7_agreeOf 33 = .ok (.aload_n 0, 1) := by decide +kernel
theorem dX7_agreeOf_34 : decode cX7_agreeOf 34 = .ok (.getfield 22, 3) := by decide +kernel
theorem dX7_agreeOf_37 : decode cX7_agreeOf 37 = .ok (.iconst 4, 1) := by decide +kernel
theorem dX7_agreeOf_38 : decode cX7_agreeOf 38 = .ok (.iload_n 2, 1) := by decide +kernel
theorem dX7_agreeOf_39 : decode cX7_agreeOf 39 = .ok (.imul, 1) := by decide +kernel
theorem dX7_agreeOf_40 : decode cX7_agreeOf 40 = .ok (.iconst 3, 1) := by decide +kernel
theorem dX7_agreeOf_41 : decode cX7_agreeOf 41 = .ok (.iadd, 1) := by decide +kernel
theorem dX7_agreeOf_42 : decode cX7_agreeOf 42 = .ok (.iaload, 1) := by decide +kernel
theorem dX7_agreeOf_43 : decode cX7_agreeOf 43 = .ok (.iload 4, 2) := by decide +kernel
theorem dX7_agreeOf_45 : decode cX7_agreeOf 45 = .ok (.iadd, 1) := by decide +kernel
theorem dX7_agreeOf_46 : decode cX7_agreeOf 46 = .ok (.invokevirtual 144, 3) := by decide +kernel
theorem dX7_agreeOf_49 : decode cX7_agreeOf 49 = .ok (.if_icmp .ne 7, 3) := by decide +kernel
theorem dX7_agreeOf_52 : decode cX7_agreeOf 52 = .ok (.iconst 1, 1) := by decide +kernel
theorem dX7_agreeOf_53 : decode cX7_agreeOf 53 = .ok (.goto 4, 3) := by decide +kernel
theorem dX7_agreeOf_56 : decode cX7_agreeOf 56 = .ok (.iconst 0, 1) := by decide +kernel
theorem dX7_agreeOf_57 : decode cX7_agreeOf 57 = .ok (.iadd, 1) := by decide +kernel
theorem dX7_agreeOf_58 : decode cX7_agreeOf 58 = .ok (.istore_n 3, 1) := by decide +kernel
theorem dX7_agreeOf_59 : decode cX7_agreeOf 59 = .ok (.iinc 4 1, 3) := by decide +kernel
theorem dX7_agreeOf_62 : decode cX7_agreeOf 62 = .ok (.goto (-57), 3) := by decide +kernel
theorem dX7_agreeOf_65 : decode cX7_agreeOf 65 = .ok (.iload_n 3, 1) := by decide +kernel
theorem dX7_agreeOf_66 : decode cX7_agreeOf 66 = .ok (.ireturn, 1) := by decide +kernel
theorem dX7_agree_0 : decode cX7_agree 0 = .ok (.aload_n 0, 1) := by decide +kernel
theorem dX7_agree_1 : decode cX7_agree 1 = .ok (.iload_n 1, 1) := by decide +kernel
theorem dX7_agree_2 : decode cX7_agree 2 = .ok (.invokevirtual 136, 3) := by decide +kernel
theorem dX7_agree_5 : decode cX7_agree 5 = .ok (.ifCond .eq 25, 3) := by decide +kernel
theorem dX7_agree_8 : decode cX7_agree 8 = .ok (.aload_n 0, 1) := by decide +kernel
theorem dX7_agree_9 : decode cX7_agree 9 = .ok (.iload_n 2, 1) := by decide +kernel
theorem dX7_agree_10 : decode cX7_agree 10 = .ok (.invokevirtual 136, 3) := by decide +kernel
theorem dX7_agree_13 : decode cX7_agree 13 = .ok (.ifCond .eq 17, 3) := by decide +kernel
theorem dX7_agree_16 : decode cX7_agree 16 = .ok (.iload_n 1, 1) := by decide +kernel
theorem dX7_agree_17 : decode cX7_agree 17 = .ok (.iload_n 2, 1) := by decide +kernel
theorem dX7_agree_18 : decode cX7_agree 18 = .ok (.if_icmp .eq 12, 3) := by decide +kernel
theorem dX7_agree_21 : decode cX7_agree 21 = .ok (.aload_n 0, 1) := by decide +kernel
theorem dX7_agree_22 : decode cX7_agree 22 = .ok (.iload_n 1, 1) := by decide +kernel
theorem dX7_agree_23 : decode cX7_agree 23 = .ok (.iload_n 2, 1) := by decide +kernel
theorem dX7_agree_24 : decode cX7_agree 24 = .ok (.invokevirtual 147, 3) := by decide +kernel
theorem dX7_agree_27 : decode cX7_agree 27 = .ok (.goto 5, 3) := by decide +kernel
theorem dX7_agree_30 : decode cX7_agree 30 = .ok (.bipush (-101), 2) := by decide +kernel
theorem dX7_agree_32 : decode cX7_agree 32 = .ok (.ireturn, 1) := by decide +kernel
theorem dX7_unlikeBy_0 : decode cX7_unlikeBy 0 = .ok (.iconst 0, 1) := by decide +kernel
theorem dX7_unlikeBy_1 : decode cX7_unlikeBy 1 = .ok (.istore 4, 2) := by decide +kernel
theorem dX7_unlikeBy_3 : decode cX7_unlikeBy 3 = .ok (.iconst 0, 1) := by decide +kernel
theorem dX7_unlikeBy_4 : decode cX7_unlikeBy 4 = .ok (.istore 5, 2) := by decide +kernel
theorem dX7_unlikeBy_6 : decode cX7_unlikeBy 6 = .ok (.iload 5, 2) := by decide +kernel
theorem dX7_unlikeBy_8 : decode cX7_unlikeBy 8 = .ok (.bipush 12, 2) := by decide +kernel
theorem dX7_unlikeBy_10 : decode cX7_unlikeBy 10 = .ok (.if_icmp .ge 60, 3) := by decide +kernel
theorem dX7_unlikeBy_13 : decode cX7_unlikeBy 13 = .ok (.aload_n 0, 1) := by decide +kernel
theorem dX7_unlikeBy_14 : decode cX7_unlikeBy 14 = .ok (.aload_n 0, 1) := by decide +kernel
theorem dX7_unlikeBy_15 : decode cX7_unlikeBy 15 = .ok (.getfield 22, 3) := by decide +kernel
theorem dX7_unlikeBy_18 : decode cX7_unlikeBy 18 = .ok (.iconst 4, 1) := by decide +kernel
theorem dX7_unlikeBy_19 : decode cX7_unlikeBy 19 = .ok (.iload_n 1, 1) := by decide +kernel
theorem dX7_unlikeBy_20 : decode cX7_unlikeBy 20 = .ok (.imul, 1) := by decide +kernel
theorem dX7_unlikeBy_21 : decode cX7_unlikeBy 21 = .ok (.iaload, 1) := by decide +kernel
theorem dX7_unlikeBy_22 : decode cX7_unlikeBy 22 = .ok (.iload_n 3, 1) := by decide +kernel
theorem dX7_unlikeBy_23 : decode cX7_unlikeBy 23 = .ok (.aload_n 0, 1) := by decide +kernel
theorem dX7_unlikeBy_24 : decode cX7_unlikeBy 24 = .ok (.getfield 22, 3) := by decide +kernel
theorem dX7_unlikeBy_27 : decode cX7_unlikeBy 27 = .ok (.iconst 4, 1) := by decide +kernel
theorem dX7_unlikeBy_28 : decode cX7_unlikeBy 28 = .ok (.iload_n 1, 1) := by decide +kernel
theorem dX7_unlikeBy_29 : decode cX7_unlikeBy 29 = .ok (.imul, 1) := by decide +kernel
theorem dX7_unlikeBy_30 : decode cX7_unlikeBy 30 = .ok (.iconst 1, 1) := by decide +kernel
theorem dX7_unlikeBy_31 : decode cX7_unlikeBy 31 = .ok (.iadd, 1) := by decide +kernel
theorem dX7_unlikeBy_32 : decode cX7_unlikeBy 32 = .ok (.iaload, 1) := by decide +kernel
theorem dX7_unlikeBy_33 : decode cX7_unlikeBy 33 = .ok (.iload 5, 2) := by decide +kernel
theorem dX7_unlikeBy_35 : decode cX7_unlikeBy 35 = .ok (.invokevirtual 108, 3) := by decide +kernel
theorem dX7_unlikeBy_38 : decode cX7_unlikeBy 38 = .ok (.istore 6, 2) := by decide +kernel
theorem dX7_unlikeBy_40 : decode cX7_unlikeBy 40 = .ok (.iload 4, 2) := by decide +kernel
theorem dX7_unlikeBy_42 : decode cX7_unlikeBy 42 = .ok (.iload 6, 2) := by decide +kernel
theorem dX7_unlikeBy_44 : decode cX7_unlikeBy 44 = .ok (.aload_n 0, 1) := by decide +kernel
theorem dX7_unlikeBy_45 : decode cX7_unlikeBy 45 = .ok (.iconst 0, 1) := by decide +kernel
theorem dX7_unlikeBy_46 : decode cX7_unlikeBy 46 = .ok (.iconst 0, 1) := by decide +kernel
theorem dX7_unlikeBy_47 : decode cX7_unlikeBy 47 = .ok (.iload_n 2, 1) := by decide +kernel
theorem dX7_unlikeBy_48 : decode cX7_unlikeBy 48 = .ok (.iload 5, 2) := by decide +kernel
theorem dX7_unlikeBy_50 : decode cX7_unlikeBy 50 = .ok (.invokevirtual 108, 3) := by decide +kernel
theorem dX7_unlikeBy_53 : decode cX7_unlikeBy 53 = .ok (.if_icmp .ne 7, 3) := by decide +kernel
theorem dX7_unlikeBy_56 : decode cX7_unlikeBy 56 = .ok (.iconst 0, 1) := by decide +kernel
theorem dX7_unlikeBy_57 : decode cX7_unlikeBy 57 = .ok (.goto 4, 3) := by decide +kernel
theorem dX7_unlikeBy_60 : decode cX7_unlikeBy 60 = .ok (.iconst 1, 1) := by decide +kernel
theorem dX7_unlikeBy_61 : decode cX7_unlikeBy 61 = .ok (.iadd, 1) := by decide +kernel
theorem dX7_unlikeBy_62 : decode cX7_unlikeBy 62 = .ok (.istore 4, 2) := by decide +kernel
theorem dX7_unlikeBy_64 : decode cX7_unlikeBy 64 = .ok (.iinc 5 1, 3) := by decide +kernel
theorem dX7_unlikeBy_67 : decode cX7_unlikeBy 67 = .ok (.goto (-61), 3) := by decide +kernel
theorem dX7_unlikeBy_70 : decode cX7_unlikeBy 70 = .ok (.iload 4, 2) := by decide +kernel
theorem dX7_unlikeBy_72 : decode cX7_unlikeBy 72 = .ok (.ireturn, 1) := by decide +kernel
theorem dX7_nearOf_0 : decode cX7_nearOf 0 = .ok (.aload_n 0, 1) := by decide +kernel
theorem dX7_nearOf_1 : decode cX7_nearOf 1 = .ok (.iload_n 1, 1) := by decide +kernel
theorem dX7_nearOf_2 : decode cX7_nearOf 2 = .ok (.iload_n 2, 1) := by decide +kernel
theorem dX7_nearOf_3 : decode cX7_nearOf 3 = .ok (.iconst 0, 1) := by decide +kernel
theorem dX7_nearOf_4 : decode cX7_nearOf 4 = .ok (.invokevirtual 150, 3) := by decide +kernel
theorem dX7_nearOf_7 : decode cX7_nearOf 7 = .ok (.istore 4, 2) := by decide +kernel
theorem dX7_nearOf_9 : decode cX7_nearOf 9 = .ok (.aload_n 0, 1) := by decide +kernel
theorem dX7_nearOf_10 : decode cX7_nearOf 10 = .ok (.iload_n 1, 1) := by decide +kernel
theorem dX7_nearOf_11 : decode cX7_nearOf 11 = .ok (.iload_n 2, 1) := by decide +kernel
theorem dX7_nearOf_12 : decode cX7_nearOf 12 = .ok (.iconst 1, 1) := by decide +kernel
theorem dX7_nearOf_13 : decode cX7_nearOf 13 = .ok (.invokevirtual 150, 3) := by decide +kernel
theorem dX7_nearOf_16 : decode cX7_nearOf 16 = .ok (.istore 5, 2) := by decide +kernel
theorem dX7_nearOf_18 : decode cX7_nearOf 18 = .ok (.iload 5, 2) := by decide +kernel
theorem dX7_nearOf_20 : decode cX7_nearOf 20 = .ok (.iload 4, 2) := by decide +kernel
theorem dX7_nearOf_22 : decode cX7_nearOf 22 = .ok (.if_icmp .ge 7, 3) := by decide +kernel
theorem dX7_nearOf_25 : decode cX7_nearOf 25 = .ok (.iconst 1, 1) := by decide +kernel
theorem dX7_nearOf_26 : decode cX7_nearOf 26 = .ok (.goto 4, 3) := by decide +kernel
theorem dX7_nearOf_29 : decode cX7_nearOf 29 = .ok (.iconst 0, 1) := by decide +kernel
theorem dX7_nearOf_30 : decode cX7_nearOf 30 = .ok (.istore 6, 2) := by decide +kernel
theorem dX7_nearOf_32 : decode cX7_nearOf 32 = .ok (.iload_n 3, 1) := by decide +kernel
theorem dX7_nearOf_33 : decode cX7_nearOf 33 = .ok (.ifCond .ne 16, 3) := by decide +kernel
theorem dX7_nearOf_36 : decode cX7_nearOf 36 = .ok (.iload 6, 2) := by decide +kernel
theorem dX7_nearOf_38 : decode cX7_nearOf 38 = .ok (.ifCond .eq 7, 3) := by decide +kernel
theorem dX7_nearOf_41 : decode cX7_nearOf 41 = .ok (.iconst 1, 1) := by decide +kernel
theorem dX7_nearOf_42 : decode cX7_nearOf 42 = .ok (.goto 19, 3) := by decide +kernel
theorem dX7_nearOf_45 : decode cX7_nearOf 45 = .ok (.iconst 0, 1) := by decide +kernel
theorem dX7_nearOf_46 : decode cX7_nearOf 46 = .ok (.goto 15, 3) := by decide +kernel
theorem dX7_nearOf_49 : decode cX7_nearOf 49 = .ok (.iload 6, 2) := by decide +kernel
theorem dX7_nearOf_51 : decode cX7_nearOf 51 = .ok (.ifCond .eq 8, 3) := by decide +kernel
theorem dX7_nearOf_54 : decode cX7_nearOf 54 = .ok (.iload 5, 2) := by decide +kernel
theorem dX7_nearOf_56 : decode cX7_nearOf 56 = .ok (.goto 5, 3) := by decide +kernel
theorem dX7_nearOf_59 : decode cX7_nearOf 59 = .ok (.iload 4, 2) := by decide +kernel
theorem dX7_nearOf_61 : decode cX7_nearOf 61 = .ok (.ireturn, 1) := by decide +kernel
theorem dX7_near_0 : decode cX7_near 0 = .ok (.aload_n 0, 1) := by decide +kernel
theorem dX7_near_1 : decode cX7_near 1 = .ok (.iload_n 1, 1) := by decide +kernel
theorem dX7_near_2 : decode cX7_near 2 = .ok (.invokevirtual 136, 3) := by decide +kernel
theorem dX7_near_5 : decode cX7_near 5 = .ok (.ifCond .ne 6, 3) := by decide +kernel
theorem dX7_near_8 : decode cX7_near 8 = .ok (.bipush (-101), 2) := by decide +kernel
theorem dX7_near_10 : decode cX7_near 10 = .ok (.ireturn, 1) := by decide +kernel
theorem dX7_near_11 : decode cX7_near 11 = .ok (.iload_n 2, 1) := by decide +kernel
theorem dX7_near_12 : decode cX7_near 12 = .ok (.invokestatic 101, 3) := by decide +kernel
theorem dX7_near_15 : decode cX7_near 15 = .ok (.ifCond .eq 23, 3) := by decide +kernel
theorem dX7_near_18 : decode cX7_near 18 = .ok (.iload_n 3, 1) := by decide +kernel
theorem dX7_near_19 : decode cX7_near 19 = .ok (.i2l, 1) := by decide +kernel
theorem dX7_near_20 : decode cX7_near 20 = .ok (.lconst 0, 1) := by decide +kernel
theorem dX7_near_21 : decode cX7_near 21 = .ok (.lconst 1, 1) := by decide +kernel
theorem dX7_near_22 : decode cX7_near 22 = .ok (.invokestatic 40, 3) := by decide +kernel
theorem dX7_near_25 : decode cX7_near 25 = .ok (.ifCond .eq 13, 3) := by decide +kernel
theorem dX7_near_28 : decode cX7_near 28 = .ok (.aload_n 0, 1) := by decide +kernel
theorem dX7_near_29 : decode cX7_near 29 = .ok (.iload_n 1, 1) := by decide +kernel
theorem dX7_near_30 : decode cX7_near 30 = .ok (.iload_n 2, 1) := by decide +kernel
theorem dX7_near_31 : decode cX7_near 31 = .ok (.iload_n 3, 1) := by decide +kernel
theorem dX7_near_32 : decode cX7_near 32 = .ok (.invokevirtual 153, 3) := by decide +kernel
theorem dX7_near_35 : decode cX7_near 35 = .ok (.goto 5, 3) := by decide +kernel
theorem dX7_near_38 : decode cX7_near 38 = .ok (.bipush (-102), 2) := by decide +kernel
theorem dX7_near_40 : decode cX7_near 40 = .ok (.ireturn, 1) := by decide +kernel
theorem dX7_put_0 : decode cX7_put 0 = .ok (.aload_n 0, 1) := by decide +kernel
theorem dX7_put_1 : decode cX7_put 1 = .ok (.iload_n 1, 1) := by decide +kernel
theorem dX7_put_2 : decode cX7_put 2 = .ok (.invokevirtual 136, 3) := by decide +kernel
theorem dX7_put_5 : decode cX7_put 5 = .ok (.ifCond .ne 6, 3) := by decide +kernel
theorem dX7_put_8 : decode cX7_put 8 = .ok (.bipush (-101), 2) := by decide +kernel
theorem dX7_put_10 : decode cX7_put 10 = .ok (.ireturn, 1) := by decide +kernel
theorem dX7_put_11 : decode cX7_put 11 = .ok (.iload_n 2, 1) := by decide +kernel
theorem dX7_put_12 : decode cX7_put 12 = .ok (.i2l, 1) := by decide +kernel
theorem dX7_put_13 : decode cX7_put 13 = .ok (.lconst 0, 1) := by decide +kernel
theorem dX7_put_14 : decode cX7_put 14 = .ok (.ldc2_w 156, 3) := by decide +kernel
theorem dX7_put_17 : decode cX7_put 17 = .ok (.invokestatic 40, 3) := by decide +kernel
theorem dX7_put_20 : decode cX7_put 20 = .ok (.ifCond .ne 6, 3) := by decide +kernel
theorem dX7_put_23 : decode cX7_put 23 = .ok (.bipush (-102), 2) := by decide +kernel
theorem dX7_put_25 : decode cX7_put 25 = .ok (.ireturn, 1) := by decide +kernel
theorem dX7_put_26 : decode cX7_put 26 = .ok (.aload_n 0, 1) := by decide +kernel
theorem dX7_put_27 : decode cX7_put 27 = .ok (.getfield 85, 3) := by decide +kernel
theorem dX7_put_30 : decode cX7_put 30 = .ok (.bipush 8, 2) := by decide +kernel
theorem dX7_put_32 : decode cX7_put 32 = .ok (.if_icmp .ne 6, 3) := by decide +kernel
theorem dX7_put_35 : decode cX7_put 35 = .ok (.bipush (-104), 2) := by decide +kernel
theorem dX7_put_37 : decode cX7_put 37 = .ok (.ireturn, 1) := by decide +kernel
theorem dX7_put_38 : decode cX7_put 38 = .ok (.aload_n 0, 1) := by decide +kernel
theorem dX7_put_39 : decode cX7_put 39 = .ok (.getfield 25, 3) := by decide +kernel
theorem dX7_put_42 : decode cX7_put 42 = .ok (.iconst 4, 1) := by decide +kernel
theorem dX7_put_43 : decode cX7_put 43 = .ok (.aload_n 0, 1) := by decide +kernel
theorem dX7_put_44 : decode cX7_put 44 = .ok (.getfield 85, 3) := by decide +kernel
theorem dX7_put_47 : decode cX7_put 47 = .ok (.imul, 1) := by decide +kernel
theorem dX7_put_48 : decode cX7_put 48 = .ok (.iload_n 1, 1) := by decide +kernel
theorem dX7_put_49 : decode cX7_put 49 = .ok (.iastore, 1) := by decide +kernel
theorem dX7_put_50 : decode cX7_put 50 = .ok (.aload_n 0, 1) := by decide +kernel
theorem dX7_put_51 : decode cX7_put 51 = .ok (.getfield 25, 3) := by decide +kernel
theorem dX7_put_54 : decode cX7_put 54 = .ok (.iconst 4, 1) := by decide +kernel
theorem dX7_put_55 : decode cX7_put 55 = .ok (.aload_n 0, 1) := by decide +kernel
theorem dX7_put_56 : decode cX7_put 56 = .ok (.getfield 85, 3) := by decide +kernel
theorem dX7_put_59 : decode cX7_put 59 = .ok (.imul, 1) := by decide +kernel
theorem dX7_put_60 : decode cX7_put 60 = .ok (.iconst 1, 1) := by decide +kernel
theorem dX7_put_61 : decode cX7_put 61 = .ok (.iadd, 1) := by decide +kernel
theorem dX7_put_62 : decode cX7_put 62 = .ok (.iload_n 2, 1) := by decide +kernel
theorem dX7_put_63 : decode cX7_put 63 = .ok (.iastore, 1) := by decide +kernel
theorem dX7_put_64 : decode cX7_put 64 = .ok (.aload_n 0, 1) := by decide +kernel
theorem dX7_put_65 : decode cX7_put 65 = .ok (.getfield 25, 3) := by decide +kernel
theorem dX7_put_68 : decode cX7_put 68 = .ok (.iconst 4, 1) := by decide +kernel
theorem dX7_put_69 : decode cX7_put 69 = .ok (.aload_n 0, 1) := by decide +kernel
theorem dX7_put_70 : decode cX7_put 70 = .ok (.getfield 85, 3) := by decide +kernel
theorem dX7_put_73 : decode cX7_put 73 = .ok (.imul, 1) := by decide +kernel
theorem dX7_put_74 : decode cX7_put 74 = .ok (.iconst 2, 1) := by decide +kernel
theorem dX7_put_75 : decode cX7_put 75 = .ok (.iadd, 1) := by decide +kernel
theorem dX7_put_76 : decode cX7_put 76 = .ok (.iload_n 3, 1) := by decide +kernel
theorem dX7_put_77 : decode cX7_put 77 = .ok (.ifCond .eq 7, 3) := by decide +kernel
theorem dX7_put_80 : decode cX7_put 80 = .ok (.iconst 1, 1) := by decide +kernel
theorem dX7_put_81 : decode cX7_put 81 = .ok (.goto 4, 3) := by decide +kernel
theorem dX7_put_84 : decode cX7_put 84 = .ok (.iconst 0, 1) := by decide +kernel
theorem dX7_put_85 : decode cX7_put 85 = .ok (.iastore, 1) := by decide +kernel
theorem dX7_put_86 : decode cX7_put 86 = .ok (.aload_n 0, 1) := by decide +kernel
theorem dX7_put_87 : decode cX7_put 87 = .ok (.getfield 25, 3) := by decide +kernel
theorem dX7_put_90 : decode cX7_put 90 = .ok (.iconst 4, 1) := by decide +kernel
theorem dX7_put_91 : decode cX7_put 91 = .ok (.aload_n 0, 1) := by decide +kernel
theorem dX7_put_92 : decode cX7_put 92 = .ok (.getfield 85, 3) := by decide +kernel
theorem dX7_put_95 : decode cX7_put 95 = .ok (.imul, 1) := by decide +kernel
theorem dX7_put_96 : decode cX7_put 96 = .ok (.iconst 3, 1) := by decide +kernel
theorem dX7_put_97 : decode cX7_put 97 = .ok (.iadd, 1) := by decide +kernel
theorem dX7_put_98 : decode cX7_put 98 = .ok (.aload_n 0, 1) := by decide +kernel
theorem dX7_put_99 : decode cX7_put 99 = .ok (.getfield 22, 3) := by decide +kernel
theorem dX7_put_102 : decode cX7_put 102 = .ok (.iconst 4, 1) := by decide +kernel
theorem dX7_put_103 : decode cX7_put 103 = .ok (.iload_n 1, 1) := by decide +kernel
theorem dX7_put_104 : decode cX7_put 104 = .ok (.imul, 1) := by decide +kernel
theorem dX7_put_105 : decode cX7_put 105 = .ok (.iconst 2, 1) := by decide +kernel
theorem dX7_put_106 : decode cX7_put 106 = .ok (.iadd, 1) := by decide +kernel
theorem dX7_put_107 : decode cX7_put 107 = .ok (.iaload, 1) := by decide +kernel
theorem dX7_put_108 : decode cX7_put 108 = .ok (.iastore, 1) := by decide +kernel
theorem dX7_put_109 : decode cX7_put 109 = .ok (.aload_n 0, 1) := by decide +kernel
theorem dX7_put_110 : decode cX7_put 110 = .ok (.dup, 1) := by decide +kernel
theorem dX7_put_111 : decode cX7_put 111 = .ok (.getfield 85, 3) := by decide +kernel
theorem dX7_put_114 : decode cX7_put 114 = .ok (.iconst 1, 1) := by decide +kernel
theorem dX7_put_115 : decode cX7_put 115 = .ok (.iadd, 1) := by decide +kernel
theorem dX7_put_116 : decode cX7_put 116 = .ok (.putfield 85, 3) := by decide +kernel
theorem dX7_put_119 : decode cX7_put 119 = .ok (.aload_n 0, 1) := by decide +kernel
theorem dX7_put_120 : decode cX7_put 120 = .ok (.getfield 85, 3) := by decide +kernel
theorem dX7_put_123 : decode cX7_put 123 = .ok (.ireturn, 1) := by decide +kernel
theorem dX7_forget_0 : decode cX7_forget 0 = .ok (.aload_n 0, 1) := by decide +kernel
theorem dX7_forget_1 : decode cX7_forget 1 = .ok (.getfield 85, 3) := by decide +kernel
theorem dX7_forget_4 : decode cX7_forget 4 = .ok (.istore_n 1, 1) := by decide +kernel
theorem dX7_forget_5 : decode cX7_forget 5 = .ok (.aload_n 0, 1) := by decide +kernel
theorem dX7_forget_6 : decode cX7_forget 6 = .ok (.iconst 0, 1) := by decide +kernel
theorem dX7_forget_7 : decode cX7_forget 7 = .ok (.putfield 85, 3) := by decide +kernel
theorem dX7_forget_10 : decode cX7_forget 10 = .ok (.iload_n 1, 1) := by decide +kernel
theorem dX7_forget_11 : decode cX7_forget 11 = .ok (.ireturn, 1) := by decide +kernel
theorem dX7_slipsBy_0 : decode cX7_slipsBy 0 = .ok (.iconst 0, 1) := by decide +kernel
theorem dX7_slipsBy_1 : decode cX7_slipsBy 1 = .ok (.istore_n 3, 1) := by decide +kernel
theorem dX7_slipsBy_2 : decode cX7_slipsBy 2 = .ok (.iconst 0, 1) := by decide +kernel
theorem dX7_slipsBy_3 : decode cX7_slipsBy 3 = .ok (.istore 4, 2) := by decide +kernel
theorem dX7_slipsBy_5 : decode cX7_slipsBy 5 = .ok (.iload 4, 2) := by decide +kernel
theorem dX7_slipsBy_7 : decode cX7_slipsBy 7 = .ok (.iconst 4, 1) := by decide +kernel
theorem dX7_slipsBy_8 : decode cX7_slipsBy 8 = .ok (.aload_n 0, 1) := by decide +kernel
theorem dX7_slipsBy_9 : decode cX7_slipsBy 9 = .ok (.getfield 85, 3) := by decide +kernel
theorem dX7_slipsBy_12 : decode cX7_slipsBy 12 = .ok (.imul, 1) := by decide +kernel
theorem dX7_slipsBy_13 : decode cX7_slipsBy 13 = .ok (.if_icmp .ge 75, 3) := by decide +kernel
theorem dX7_slipsBy_16 : decode cX7_slipsBy 16 = .ok (.aload_n 0, 1) := by decide +kernel
theorem dX7_slipsBy_17 : decode cX7_slipsBy 17 = .ok (.aload_n 0, 1) := by decide +kernel
theorem dX7_slipsBy_18 : decode cX7_slipsBy 18 = .ok (.getfield 22, 3) := by decide +kernel
theorem dX7_slipsBy_21 : decode cX7_slipsBy 21 = .ok (.iconst 4, 1) := by decide +kernel
theorem dX7_slipsBy_22 : decode cX7_slipsBy 22 = .ok (.iload_n 1, 1) := by decide +kernel
theorem dX7_slipsBy_23 : decode cX7_slipsBy 23 = .ok (.imul, 1) := by decide +kernel
theorem dX7_slipsBy_24 : decode cX7_slipsBy 24 = .ok (.iaload, 1) := by decide +kernel
theorem dX7_slipsBy_25 : decode cX7_slipsBy 25 = .ok (.aload_n 0, 1) := by decide +kernel
theorem dX7_slipsBy_26 : decode cX7_slipsBy 26 = .ok (.getfield 25, 3) := by decide +kernel
theorem dX7_slipsBy_29 : decode cX7_slipsBy 29 = .ok (.iload 4, 2) := by decide +kernel
theorem dX7_slipsBy_31 : decode cX7_slipsBy 31 = .ok (.iconst 3, 1) := by decide +kernel
theorem dX7_slipsBy_32 : decode cX7_slipsBy 32 = .ok (.iadd, 1) := by decide +kernel
theorem dX7_slipsBy_33 : decode cX7_slipsBy 33 = .ok (.iaload, 1) := by decide +kernel
theorem dX7_slipsBy_34 : decode cX7_slipsBy 34 = .ok (.iload_n 2, 1) := by decide +kernel
theorem dX7_slipsBy_35 : decode cX7_slipsBy 35 = .ok (.aload_n 0, 1) := by decide +kernel
theorem dX7_slipsBy_36 : decode cX7_slipsBy 36 = .ok (.getfield 25, 3) := by decide +kernel
theorem dX7_slipsBy_39 : decode cX7_slipsBy 39 = .ok (.iload 4, 2) := by decide +kernel
theorem dX7_slipsBy_41 : decode cX7_slipsBy 41 = .ok (.iconst 1, 1) := by decide +kernel
theorem dX7_slipsBy_42 : decode cX7_slipsBy 42 = .ok (.iadd, 1) := by decide +kernel
theorem dX7_slipsBy_43 : decode cX7_slipsBy 43 = .ok (.iaload, 1) := by decide +kernel
theorem dX7_slipsBy_44 : decode cX7_slipsBy 44 = .ok (.invokevirtual 108, 3) := by decide +kernel
theorem dX7_slipsBy_47 : decode cX7_slipsBy 47 = .ok (.istore 5, 2) := by decide +kernel
theorem dX7_slipsBy_49 : decode cX7_slipsBy 49 = .ok (.iload_n 3, 1) := by decide +kernel
theorem dX7_slipsBy_50 : decode cX7_slipsBy 50 = .ok (.aload_n 0, 1) := by decide +kernel
theorem dX7_slipsBy_51 : decode cX7_slipsBy 51 = .ok (.getfield 25, 3) := by decide +kernel
theorem dX7_slipsBy_54 : decode cX7_slipsBy 54 = .ok (.iload 4, 2) := by decide +kernel
theorem dX7_slipsBy_56 : decode cX7_slipsBy 56 = .ok (.iaload, 1) := by decide +kernel
theorem dX7_slipsBy_57 : decode cX7_slipsBy 57 = .ok (.iload_n 1, 1) := by decide +kernel
theorem dX7_slipsBy_58 : decode cX7_slipsBy 58 = .ok (.if_icmp .ne 21, 3) := by decide +kernel
theorem dX7_slipsBy_61 : decode cX7_slipsBy 61 = .ok (.iload 5, 2) := by decide +kernel
theorem dX7_slipsBy_63 : decode cX7_slipsBy 63 = .ok (.aload_n 0, 1) := by decide +kernel
theorem dX7_slipsBy_64 : decode cX7_slipsBy 64 = .ok (.getfield 25, 3) := by decide +kernel
theorem dX7_slipsBy_67 : decode cX7_slipsBy 67 = .ok (.iload 4, 2) := by decide +kernel
theorem dX7_slipsBy_69 : decode cX7_slipsBy 69 = .ok (.iconst 2, 1) := by decide +kernel
theorem dX7_slipsBy_70 : decode cX7_slipsBy 70 = .ok (.iadd, 1) := by decide +kernel
theorem dX7_slipsBy_71 : decode cX7_slipsBy 71 = .ok (.iaload, 1) := by decide +kernel
theorem dX7_slipsBy_72 : decode cX7_slipsBy 72 = .ok (.if_icmp .eq 7, 3) := by decide +kernel
theorem dX7_slipsBy_75 : decode cX7_slipsBy 75 = .ok (.iconst 1, 1) := by decide +kernel
theorem dX7_slipsBy_76 : decode cX7_slipsBy 76 = .ok (.goto 4, 3) := by decide +kernel
theorem dX7_slipsBy_79 : decode cX7_slipsBy 79 = .ok (.iconst 0, 1) := by decide +kernel
theorem dX7_slipsBy_80 : decode cX7_slipsBy 80 = .ok (.iadd, 1) := by decide +kernel
theorem dX7_slipsBy_81 : decode cX7_slipsBy 81 = .ok (.istore_n 3, 1) := by decide +kernel
theorem dX7_slipsBy_82 : decode cX7_slipsBy 82 = .ok (.iinc 4 4, 3) := by decide +kernel
theorem dX7_slipsBy_85 : decode cX7_slipsBy 85 = .ok (.goto (-80), 3) := by decide +kernel
theorem dX7_slipsBy_88 : decode cX7_slipsBy 88 = .ok (.iload_n 3, 1) := by decide +kernel
theorem dX7_slipsBy_89 : decode cX7_slipsBy 89 = .ok (.ireturn, 1) := by decide +kernel
theorem dX7_saysOf_0 : decode cX7_saysOf 0 = .ok (.iconst 0, 1) := by decide +kernel
theorem dX7_saysOf_1 : decode cX7_saysOf 1 = .ok (.istore_n 2, 1) := by decide +kernel
theorem dX7_saysOf_2 : decode cX7_saysOf 2 = .ok (.iconst 0, 1) := by decide +kernel
theorem dX7_saysOf_3 : decode cX7_saysOf 3 = .ok (.istore_n 3, 1) := by decide +kernel
theorem dX7_saysOf_4 : decode cX7_saysOf 4 = .ok (.iload_n 3, 1) := by decide +kernel
theorem dX7_saysOf_5 : decode cX7_saysOf 5 = .ok (.iconst 4, 1) := by decide +kernel
theorem dX7_saysOf_6 : decode cX7_saysOf 6 = .ok (.if_icmp .ge 28, 3) := by decide +kernel
theorem dX7_saysOf_9 : decode cX7_saysOf 9 = .ok (.iload_n 2, 1) := by decide +kernel
theorem dX7_saysOf_10 : decode cX7_saysOf 10 = .ok (.aload_n 0, 1) := by decide +kernel
theorem dX7_saysOf_11 : decode cX7_saysOf 11 = .ok (.iload_n 1, 1) := by decide +kernel
theorem dX7_saysOf_12 : decode cX7_saysOf 12 = .ok (.iload_n 3, 1) := by decide +kernel
theorem dX7_saysOf_13 : decode cX7_saysOf 13 = .ok (.invokevirtual 130, 3) := by decide +kernel
theorem dX7_saysOf_16 : decode cX7_saysOf 16 = .ok (.ifCond .ne 9, 3) := by decide +kernel
theorem dX7_saysOf_19 : decode cX7_saysOf 19 = .ok (.iconst 1, 1) := by decide +kernel
theorem dX7_saysOf_20 : decode cX7_saysOf 20 = .ok (.iload_n 3, 1) := by decide +kernel
theorem dX7_saysOf_21 : decode cX7_saysOf 21 = .ok (.ishl, 1) := by decide +kernel
theorem dX7_saysOf_22 : decode cX7_saysOf 22 = .ok (.goto 4, 3) := by decide +kernel
theorem dX7_saysOf_25 : decode cX7_saysOf 25 = .ok (.iconst 0, 1) := by decide +kernel
theorem dX7_saysOf_26 : decode cX7_saysOf 26 = .ok (.ior, 1) := by decide +kernel
theorem dX7_saysOf_27 : decode cX7_saysOf 27 = .ok (.istore_n 2, 1) := by decide +kernel
theorem dX7_saysOf_28 : decode cX7_saysOf 28 = .ok (.iinc 3 1, 3) := by decide +kernel
theorem dX7_saysOf_31 : decode cX7_saysOf 31 = .ok (.goto (-27), 3) := by decide +kernel
theorem dX7_saysOf_34 : decode cX7_saysOf 34 = .ok (.iload_n 2, 1) := by decide +kernel
theorem dX7_saysOf_35 : decode cX7_saysOf 35 = .ok (.ireturn, 1) := by decide +kernel
theorem dX7_likelyOf_0 : decode cX7_likelyOf 0 = .ok (.iconst 0, 1) := by decide +kernel
theorem dX7_likelyOf_1 : decode cX7_likelyOf 1 = .ok (.istore_n 2, 1) := by decide +kernel
theorem dX7_likelyOf_2 : decode cX7_likelyOf 2 = .ok (.iconst 1, 1) := by decide +kernel
theorem dX7_likelyOf_3 : decode cX7_likelyOf 3 = .ok (.istore_n 3, 1) := by decide +kernel
theorem dX7_likelyOf_4 : decode cX7_likelyOf 4 = .ok (.iload_n 3, 1) := by decide +kernel
theorem dX7_likelyOf_5 : decode cX7_likelyOf 5 = .ok (.iconst 4, 1) := by decide +kernel
theorem dX7_likelyOf_6 : decode cX7_likelyOf 6 = .ok (.if_icmp .ge 30, 3) := by decide +kernel
theorem dX7_likelyOf_9 : decode cX7_likelyOf 9 = .ok (.aload_n 0, 1) := by decide +kernel
theorem dX7_likelyOf_10 : decode cX7_likelyOf 10 = .ok (.iload_n 1, 1) := by decide +kernel
theorem dX7_likelyOf_11 : decode cX7_likelyOf 11 = .ok (.iload_n 3, 1) := by decide +kernel
theorem dX7_likelyOf_12 : decode cX7_likelyOf 12 = .ok (.invokevirtual 130, 3) := by decide +kernel
theorem dX7_likelyOf_15 : decode cX7_likelyOf 15 = .ok (.aload_n 0, 1) := by decide +kernel
theorem dX7_likelyOf_16 : decode cX7_likelyOf 16 = .ok (.iload_n 1, 1) := by decide +kernel
theorem dX7_likelyOf_17 : decode cX7_likelyOf 17 = .ok (.iload_n 2, 1) := by decide +kernel
theorem dX7_likelyOf_18 : decode cX7_likelyOf 18 = .ok (.invokevirtual 130, 3) := by decide +kernel
theorem dX7_likelyOf_21 : decode cX7_likelyOf 21 = .ok (.if_icmp .ge 7, 3) := by decide +kernel
theorem dX7_likelyOf_24 : decode cX7_likelyOf 24 = .ok (.iload_n 3, 1) := by decide +kernel
theorem dX7_likelyOf_25 : decode cX7_likelyOf 25 = .ok (.goto 4, 3) := by decide +kernel
theorem dX7_likelyOf_28 : decode cX7_likelyOf 28 = .ok (.iload_n 2, 1) := by decide +kernel
theorem dX7_likelyOf_29 : decode cX7_likelyOf 29 = .ok (.istore_n 2, 1) := by decide +kernel
theorem dX7_likelyOf_30 : decode cX7_likelyOf 30 = .ok (.iinc 3 1, 3) := by decide +kernel
theorem dX7_likelyOf_33 : decode cX7_likelyOf 33 = .ok (.goto (-29), 3) := by decide +kernel
theorem dX7_likelyOf_36 : decode cX7_likelyOf 36 = .ok (.iload_n 2, 1) := by decide +kernel
theorem dX7_likelyOf_37 : decode cX7_likelyOf 37 = .ok (.ireturn, 1) := by decide +kernel
theorem dX7_listenOf_0 : decode cX7_listenOf 0 = .ok (.aload_n 0, 1) := by decide +kernel
theorem dX7_listenOf_1 : decode cX7_listenOf 1 = .ok (.iload_n 1, 1) := by decide +kernel
theorem dX7_listenOf_2 : decode cX7_listenOf 2 = .ok (.invokevirtual 124, 3) := by decide +kernel
theorem dX7_listenOf_5 : decode cX7_listenOf 5 = .ok (.istore_n 2, 1) := by decide +kernel
theorem dX7_listenOf_6 : decode cX7_listenOf 6 = .ok (.iconst (-1), 1) := by decide +kernel
theorem dX7_listenOf_7 : decode cX7_listenOf 7 = .ok (.istore_n 3, 1) := by decide +kernel
theorem dX7_listenOf_8 : decode cX7_listenOf 8 = .ok (.iconst 5, 1) := by decide +kernel
theorem dX7_listenOf_9 : decode cX7_listenOf 9 = .ok (.istore 4, 2) := by decide +kernel
theorem dX7_listenOf_11 : decode cX7_listenOf 11 = .ok (.iconst 0, 1) := by decide +kernel
theorem dX7_listenOf_12 : decode cX7_listenOf 12 = .ok (.istore 5, 2) := by decide +kernel
theorem dX7_listenOf_14 : decode cX7_listenOf 14 = .ok (.iload 5, 2) := by decide +kernel
theorem dX7_listenOf_16 : decode cX7_listenOf 16 = .ok (.bipush 8, 2) := by decide +kernel
theorem dX7_listenOf_18 : decode cX7_listenOf 18 = .ok (.if_icmp .ge 129, 3) := by decide +kernel
theorem dX7_listenOf_21 : decode cX7_listenOf 21 = .ok (.iload_n 2, 1) := by decide +kernel
theorem dX7_listenOf_22 : decode cX7_listenOf 22 = .ok (.ifCond .eq 125, 3) := by decide +kernel
theorem dX7_listenOf_25 : decode cX7_listenOf 25 = .ok (.iconst 0, 1) := by decide +kernel
theorem dX7_listenOf_26 : decode cX7_listenOf 26 = .ok (.istore 6, 2) := by decide +kernel
theorem dX7_listenOf_28 : decode cX7_listenOf 28 = .ok (.iconst 0, 1) := by decide +kernel
theorem dX7_listenOf_29 : decode cX7_listenOf 29 = .ok (.istore 7, 2) := by decide +kernel
theorem dX7_listenOf_31 : decode cX7_listenOf 31 = .ok (.iconst 0, 1) := by decide +kernel
theorem dX7_listenOf_32 : decode cX7_listenOf 32 = .ok (.istore 8, 2) := by decide +kernel
theorem dX7_listenOf_34 : decode cX7_listenOf 34 = .ok (.iload 8, 2) := by decide +kernel
theorem dX7_listenOf_36 : decode cX7_listenOf 36 = .ok (.iconst 4, 1) := by decide +kernel
theorem dX7_listenOf_37 : decode cX7_listenOf 37 = .ok (.if_icmp .ge 52, 3) := by decide +kernel
theorem dX7_listenOf_40 : decode cX7_listenOf 40 = .ok (.iload_n 2, 1) := by decide +kernel
theorem dX7_listenOf_41 : decode cX7_listenOf 41 = .ok (.iload 8, 2) := by decide +kernel
theorem dX7_listenOf_43 : decode cX7_listenOf 43 = .ok (.ishr, 1) := by decide +kernel
theorem dX7_listenOf_44 : decode cX7_listenOf 44 = .ok (.iconst 1, 1) := by decide +kernel
theorem dX7_listenOf_45 : decode cX7_listenOf 45 = .ok (.iand, 1) := by decide +kernel
theorem dX7_listenOf_46 : decode cX7_listenOf 46 = .ok (.istore 9, 2) := by decide +kernel
theorem dX7_listenOf_48 : decode cX7_listenOf 48 = .ok (.iload 7, 2) := by decide +kernel
theorem dX7_listenOf_50 : decode cX7_listenOf 50 = .ok (.iload 9, 2) := by decide +kernel
theorem dX7_listenOf_52 : decode cX7_listenOf 52 = .ok (.iadd, 1) := by decide +kernel
theorem dX7_listenOf_53 : decode cX7_listenOf 53 = .ok (.istore 7, 2) := by decide +kernel
theorem dX7_listenOf_55 : decode cX7_listenOf 55 = .ok (.iload 6, 2) := by decide +kernel
theorem dX7_listenOf_57 : decode cX7_listenOf 57 = .ok (.iload 9, 2) := by decide +kernel
theorem dX7_listenOf_59 : decode cX7_listenOf 59 = .ok (.aload_n 0, 1) := by decide +kernel
theorem dX7_listenOf_60 : decode cX7_listenOf 60 = .ok (.iload_n 1, 1) := by decide +kernel
theorem dX7_listenOf_61 : decode cX7_listenOf 61 = .ok (.iload 8, 2) := by decide +kernel
theorem dX7_listenOf_63 : decode cX7_listenOf 63 = .ok (.aload_n 0, 1) := by decide +kernel
theorem dX7_listenOf_64 : decode cX7_listenOf 64 = .ok (.getfield 22, 3) := by decide +kernel
theorem dX7_listenOf_67 : decode cX7_listenOf 67 = .ok (.iconst 4, 1) := by decide +kernel
theorem dX7_listenOf_68 : decode cX7_listenOf 68 = .ok (.iload_n 1, 1) := by decide +kernel
theorem dX7_listenOf_69 : decode cX7_listenOf 69 = .ok (.imul, 1) := by decide +kernel
theorem dX7_listenOf_70 : decode cX7_listenOf 70 = .ok (.iconst 3, 1) := by decide +kernel
theorem dX7_listenOf_71 : decode cX7_listenOf 71 = .ok (.iadd, 1) := by decide +kernel
theorem dX7_listenOf_72 : decode cX7_listenOf 72 = .ok (.iaload, 1) := by decide +kernel
theorem dX7_listenOf_73 : decode cX7_listenOf 73 = .ok (.iload 5, 2) := by decide +kernel
theorem dX7_listenOf_75 : decode cX7_listenOf 75 = .ok (.iadd, 1) := by decide +kernel
theorem dX7_listenOf_76 : decode cX7_listenOf 76 = .ok (.invokevirtual 112, 3) := by decide +kernel
theorem dX7_listenOf_79 : decode cX7_listenOf 79 = .ok (.imul, 1) := by decide +kernel
theorem dX7_listenOf_80 : decode cX7_listenOf 80 = .ok (.iadd, 1) := by decide +kernel
theorem dX7_listenOf_81 : decode cX7_listenOf 81 = .ok (.istore 6, 2) := by decide +kernel
theorem dX7_listenOf_83 : decode cX7_listenOf 83 = .ok (.iinc 8 1, 3) := by decide +kernel
theorem dX7_listenOf_86 : decode cX7_listenOf 86 = .ok (.goto (-52), 3) := by decide +kernel
theorem dX7_listenOf_89 : decode cX7_listenOf 89 = .ok (.iload 6, 2) := by decide +kernel
theorem dX7_listenOf_91 : decode cX7_listenOf 91 = .ok (.iload 7, 2) := by decide +kernel
theorem dX7_listenOf_93 : decode cX7_listenOf 93 = .ok (.iload 6, 2) := by decide +kernel
theorem dX7_listenOf_95 : decode cX7_listenOf 95 = .ok (.isub, 1) := by decide +kernel
theorem dX7_listenOf_96 : decode cX7_listenOf 96 = .ok (.if_icmp .le 8, 3) := by decide +kernel
theorem dX7_listenOf_99 : decode cX7_listenOf 99 = .ok (.iload 6, 2) := by decide +kernel
theorem dX7_listenOf_101 : decode cX7_listenOf 101 = .ok (.goto 8, 3) := by decide +kernel
theorem dX7_listenOf_104 : decode cX7_listenOf 104 = .ok (.iload 7, 2) := by decide +kernel
theorem dX7_listenOf_106 : decode cX7_listenOf 106 = .ok (.iload 6, 2) := by decide +kernel
theorem dX7_listenOf_108 : decode cX7_listenOf 108 = .ok (.isub, 1) := by decide +kernel
theorem dX7_listenOf_109 : decode cX7_listenOf 109 = .ok (.istore 8, 2) := by decide +kernel
theorem dX7_listenOf_111 : decode cX7_listenOf 111 = .ok (.iload 8, 2) := by decide +kernel
theorem dX7_listenOf_113 : decode cX7_listenOf 113 = .ok (.iload 4, 2) := by decide +kernel
theorem dX7_listenOf_115 : decode cX7_listenOf 115 = .ok (.if_icmp .ge 8, 3) := by decide +kernel
theorem dX7_listenOf_118 : decode cX7_listenOf 118 = .ok (.iload 5, 2) := by decide +kernel
theorem dX7_listenOf_120 : decode cX7_listenOf 120 = .ok (.goto 4, 3) := by decide +kernel
theorem dX7_listenOf_123 : decode cX7_listenOf 123 = .ok (.iload_n 3, 1) := by decide +kernel
theorem dX7_listenOf_124 : decode cX7_listenOf 124 = .ok (.istore_n 3, 1) := by decide +kernel
theorem dX7_listenOf_125 : decode cX7_listenOf 125 = .ok (.iload 8, 2) := by decide +kernel
theorem dX7_listenOf_127 : decode cX7_listenOf 127 = .ok (.iload 4, 2) := by decide +kernel
theorem dX7_listenOf_129 : decode cX7_listenOf 129 = .ok (.if_icmp .ge 8, 3) := by decide +kernel
theorem dX7_listenOf_132 : decode cX7_listenOf 132 = .ok (.iload 8, 2) := by decide +kernel
theorem dX7_listenOf_134 : decode cX7_listenOf 134 = .ok (.goto 5, 3) := by decide +kernel
theorem dX7_listenOf_137 : decode cX7_listenOf 137 = .ok (.iload 4, 2) := by decide +kernel
theorem dX7_listenOf_139 : decode cX7_listenOf 139 = .ok (.istore 4, 2) := by decide +kernel
theorem dX7_listenOf_141 : decode cX7_listenOf 141 = .ok (.iinc 5 1, 3) := by decide +kernel
theorem dX7_listenOf_144 : decode cX7_listenOf 144 = .ok (.goto (-130), 3) := by decide +kernel
theorem dX7_listenOf_147 : decode cX7_listenOf 147 = .ok (.iload_n 3, 1) := by decide +kernel
theorem dX7_listenOf_148 : decode cX7_listenOf 148 = .ok (.ireturn, 1) := by decide +kernel
theorem dX7_draw_0 : decode cX7_draw 0 = .ok (.aload_n 0, 1) := by decide +kernel
theorem dX7_draw_1 : decode cX7_draw 1 = .ok (.ldc2_w 158, 3) := by decide +kernel
theorem dX7_draw_4 : decode cX7_draw 4 = .ok (.aload_n 0, 1) := by decide +kernel
theorem dX7_draw_5 : decode cX7_draw 5 = .ok (.getfield 160, 3) := by decide +kernel
theorem dX7_draw_8 : decode cX7_draw 8 = .ok (.i2l, 1) := by decide +kernel
theorem dX7_draw_9 : decode cX7_draw 9 = .ok (.lmul, 1) := by decide +kernel
theorem dX7_draw_10 : decode cX7_draw 10 = .ok (.ldc2_w 163, 3) := by decide +kernel
theorem dX7_draw_13 : decode cX7_draw 13 = .ok (.ladd, 1) := by decide +kernel
theorem dX7_draw_14 : decode cX7_draw 14 = .ok (.ldc2_w 165, 3) := by decide +kernel
theorem dX7_draw_17 : decode cX7_draw 17 = .ok (.land, 1) := by decide +kernel
theorem dX7_draw_18 : decode cX7_draw 18 = .ok (.l2i, 1) := by decide +kernel
theorem dX7_draw_19 : decode cX7_draw 19 = .ok (.putfield 160, 3) := by decide +kernel
theorem dX7_draw_22 : decode cX7_draw 22 = .ok (.aload_n 0, 1) := by decide +kernel
theorem dX7_draw_23 : decode cX7_draw 23 = .ok (.getfield 160, 3) := by decide +kernel
theorem dX7_draw_26 : decode cX7_draw 26 = .ok (.ldc 167, 2) := by decide +kernel
theorem dX7_draw_28 : decode cX7_draw 28 = .ok (.idiv, 1) := by decide +kernel
theorem dX7_draw_29 : decode cX7_draw 29 = .ok (.iload_n 1, 1) := by decide +kernel
theorem dX7_draw_30 : decode cX7_draw 30 = .ok (.irem, 1) := by decide +kernel
theorem dX7_draw_31 : decode cX7_draw 31 = .ok (.ireturn, 1) := by decide +kernel
theorem dX7_nights_0 : decode cX7_nights 0 = .ok (.iload_n 1, 1) := by decide +kernel
theorem dX7_nights_1 : decode cX7_nights 1 = .ok (.i2l, 1) := by decide +kernel
theorem dX7_nights_2 : decode cX7_nights 2 = .ok (.lconst 1, 1) := by decide +kernel
theorem dX7_nights_3 : decode cX7_nights 3 = .ok (.ldc2_w 168, 3) := by decide +kernel
theorem dX7_nights_6 : decode cX7_nights 6 = .ok (.invokestatic 40, 3) := by decide +kernel
theorem dX7_nights_9 : decode cX7_nights 9 = .ok (.ifCond .eq 19, 3) := by decide +kernel
theorem dX7_nights_12 : decode cX7_nights 12 = .ok (.iload_n 2, 1) := by decide +kernel
theorem dX7_nights_13 : decode cX7_nights 13 = .ok (.ifCond .lt 15, 3) := by decide +kernel
theorem dX7_nights_16 : decode cX7_nights 16 = .ok (.iload_n 3, 1) := by decide +kernel
theorem dX7_nights_17 : decode cX7_nights 17 = .ok (.i2l, 1) := by decide +kernel
theorem dX7_nights_18 : decode cX7_nights 18 = .ok (.lconst 0, 1) := by decide +kernel
theorem dX7_nights_19 : decode cX7_nights 19 = .ok (.ldc2_w 170, 3) := by decide +kernel
theorem dX7_nights_22 : decode cX7_nights 22 = .ok (.invokestatic 40, 3) := by decide +kernel
theorem dX7_nights_25 : decode cX7_nights 25 = .ok (.ifCond .ne 6, 3) := by decide +kernel
theorem dX7_nights_28 : decode cX7_nights 28 = .ok (.bipush (-102), 2) := by decide +kernel
theorem dX7_nights_30 : decode cX7_nights 30 = .ok (.ireturn, 1) := by decide +kernel
theorem dX7_nights_31 : decode cX7_nights 31 = .ok (.aload_n 0, 1) := by decide +kernel
theorem dX7_nights_32 : decode cX7_nights 32 = .ok (.invokevirtual 97, 3) := by decide +kernel
theorem dX7_nights_35 : decode cX7_nights 35 = .ok (.ifCond .eq 6, 3) := by decide +kernel
theorem dX7_nights_38 : decode cX7_nights 38 = .ok (.bipush (-103), 2) := by decide +kernel
theorem dX7_nights_40 : decode cX7_nights 40 = .ok (.ireturn, 1) := by decide +kernel
theorem dX7_nights_41 : decode cX7_nights 41 = .ok (.aload_n 0, 1) := by decide +kernel
theorem dX7_nights_42 : decode cX7_nights 42 = .ok (.iload_n 2, 1) := by decide +kernel
theorem dX7_nights_43 : decode cX7_nights 43 = .ok (.putfield 160, 3) := by decide +kernel
theorem dX7_nights_46 : decode cX7_nights 46 = .ok (.iconst 0, 1) := by decide +kernel
theorem dX7_nights_47 : decode cX7_nights 47 = .ok (.istore 4, 2) := by decide +kernel
theorem dX7_nights_49 : decode cX7_nights 49 = .ok (.iconst 0, 1) := by decide +kernel
theorem dX7_nights_50 : decode cX7_nights 50 = .ok (.istore 5, 2) := by decide +kernel
theorem dX7_nights_52 : decode cX7_nights 52 = .ok (.iconst 0, 1) := by decide +kernel
theorem dX7_nights_53 : decode cX7_nights 53 = .ok (.istore 6, 2) := by decide +kernel
theorem dX7_nights_55 : decode cX7_nights 55 = .ok (.iload 6, 2) := by decide +kernel
theorem dX7_nights_57 : decode cX7_nights 57 = .ok (.iload_n 1, 1) := by decide +kernel
theorem dX7_nights_58 : decode cX7_nights 58 = .ok (.if_icmp .ge 99, 3) := by decide +kernel
theorem dX7_nights_61 : decode cX7_nights 61 = .ok (.iconst 0, 1) := by decide +kernel
theorem dX7_nights_62 : decode cX7_nights 62 = .ok (.istore 7, 2) := by decide +kernel
theorem dX7_nights_64 : decode cX7_nights 64 = .ok (.iload 7, 2) := by decide +kernel
theorem dX7_nights_66 : decode cX7_nights 66 = .ok (.aload_n 0, 1) := by decide +kernel
theorem dX7_nights_67 : decode cX7_nights 67 = .ok (.getfield 75, 3) := by decide +kernel
theorem dX7_nights_70 : decode cX7_nights 70 = .ok (.if_icmp .ge 81, 3) := by decide +kernel
theorem dX7_nights_73 : decode cX7_nights 73 = .ok (.aload_n 0, 1) := by decide +kernel
theorem dX7_nights_74 : decode cX7_nights 74 = .ok (.iload 7, 2) := by decide +kernel
theorem dX7_nights_76 : decode cX7_nights 76 = .ok (.aload_n 0, 1) := by decide +kernel
theorem dX7_nights_77 : decode cX7_nights 77 = .ok (.getfield 22, 3) := by decide +kernel
theorem dX7_nights_80 : decode cX7_nights 80 = .ok (.iconst 4, 1) := by decide +kernel
theorem dX7_nights_81 : decode cX7_nights 81 = .ok (.iload 7, 2) := by decide +kernel
theorem dX7_nights_83 : decode cX7_nights 83 = .ok (.imul, 1) := by decide +kernel
theorem dX7_nights_84 : decode cX7_nights 84 = .ok (.iconst 3, 1) := by decide +kernel
theorem dX7_nights_85 : decode cX7_nights 85 = .ok (.iadd, 1) := by decide +kernel
theorem dX7_nights_86 : decode cX7_nights 86 = .ok (.iaload, 1) := by decide +kernel
theorem dX7_nights_87 : decode cX7_nights 87 = .ok (.iload 6, 2) := by decide +kernel
theorem dX7_nights_89 : decode cX7_nights 89 = .ok (.iadd, 1) := by decide +kernel
theorem dX7_nights_90 : decode cX7_nights 90 = .ok (.invokevirtual 144, 3) := by decide +kernel
theorem dX7_nights_93 : decode cX7_nights 93 = .ok (.istore 8, 2) := by decide +kernel
theorem dX7_nights_95 : decode cX7_nights 95 = .ok (.aload_n 0, 1) := by decide +kernel
theorem dX7_nights_96 : decode cX7_nights 96 = .ok (.bipush 8, 2) := by decide +kernel
theorem dX7_nights_98 : decode cX7_nights 98 = .ok (.invokevirtual 172, 3) := by decide +kernel
theorem dX7_nights_101 : decode cX7_nights 101 = .ok (.ifCond .ne 7, 3) := by decide +kernel
theorem dX7_nights_104 : decode cX7_nights 104 = .ok (.iconst 1, 1) := by decide +kernel
theorem dX7_nights_105 : decode cX7_nights 105 = .ok (.goto 4, 3) := by decide +kernel
theorem dX7_nights_108 : decode cX7_nights 108 = .ok (.iconst 0, 1) := by decide +kernel
theorem dX7_nights_109 : decode cX7_nights 109 = .ok (.istore 9, 2) := by decide +kernel
theorem dX7_nights_111 : decode cX7_nights 111 = .ok (.iload 5, 2) := by decide +kernel
theorem dX7_nights_113 : decode cX7_nights 113 = .ok (.iload 9, 2) := by decide +kernel
theorem dX7_nights_115 : decode cX7_nights 115 = .ok (.ifCond .eq 7, 3) := by decide +kernel
theorem dX7_nights_118 : decode cX7_nights 118 = .ok (.iconst 1, 1) := by decide +kernel
theorem dX7_nights_119 : decode cX7_nights 119 = .ok (.goto 4, 3) := by decide +kernel
theorem dX7_nights_122 : decode cX7_nights 122 = .ok (.iconst 0, 1) := by decide +kernel
theorem dX7_nights_123 : decode cX7_nights 123 = .ok (.iadd, 1) := by decide +kernel
theorem dX7_nights_124 : decode cX7_nights 124 = .ok (.istore 5, 2) := by decide +kernel
theorem dX7_nights_126 : decode cX7_nights 126 = .ok (.iload 4, 2) := by decide +kernel
theorem dX7_nights_128 : decode cX7_nights 128 = .ok (.iload 9, 2) := by decide +kernel
theorem dX7_nights_130 : decode cX7_nights 130 = .ok (.ifCond .eq 10, 3) := by decide +kernel
theorem dX7_nights_133 : decode cX7_nights 133 = .ok (.iconst 1, 1) := by decide +kernel
theorem dX7_nights_134 : decode cX7_nights 134 = .ok (.iload 8, 2) := by decide +kernel
theorem dX7_nights_136 : decode cX7_nights 136 = .ok (.isub, 1) := by decide +kernel
theorem dX7_nights_137 : decode cX7_nights 137 = .ok (.goto 5, 3) := by decide +kernel
theorem dX7_nights_140 : decode cX7_nights 140 = .ok (.iload 8, 2) := by decide +kernel
theorem dX7_nights_142 : decode cX7_nights 142 = .ok (.iadd, 1) := by decide +kernel
theorem dX7_nights_143 : decode cX7_nights 143 = .ok (.istore 4, 2) := by decide +kernel
theorem dX7_nights_145 : decode cX7_nights 145 = .ok (.iinc 7 1, 3) := by decide +kernel
theorem dX7_nights_148 : decode cX7_nights 148 = .ok (.goto (-84), 3) := by decide +kernel
theorem dX7_nights_151 : decode cX7_nights 151 = .ok (.iinc 6 1, 3) := by decide +kernel
theorem dX7_nights_154 : decode cX7_nights 154 = .ok (.goto (-99), 3) := by decide +kernel
theorem dX7_nights_157 : decode cX7_nights 157 = .ok (.iload_n 3, 1) := by decide +kernel
theorem dX7_nights_158 : decode cX7_nights 158 = .ok (.ifCond .ne 8, 3) := by decide +kernel
theorem dX7_nights_161 : decode cX7_nights 161 = .ok (.iload 4, 2) := by decide +kernel
theorem dX7_nights_163 : decode cX7_nights 163 = .ok (.goto 17, 3) := by decide +kernel
theorem dX7_nights_166 : decode cX7_nights 166 = .ok (.iload_n 3, 1) := by decide +kernel
theorem dX7_nights_167 : decode cX7_nights 167 = .ok (.iconst 1, 1) := by decide +kernel
theorem dX7_nights_168 : decode cX7_nights 168 = .ok (.if_icmp .ne 8, 3) := by decide +kernel
theorem dX7_nights_171 : decode cX7_nights 171 = .ok (.iload 5, 2) := by decide +kernel
theorem dX7_nights_173 : decode cX7_nights 173 = .ok (.goto 7, 3) := by decide +kernel
theorem dX7_nights_176 : decode cX7_nights 176 = .ok (.aload_n 0, 1) := by decide +kernel
theorem dX7_nights_177 : decode cX7_nights 177 = .ok (.getfield 160, 3) := by decide +kernel
theorem dX7_nights_180 : decode cX7_nights 180 = .ok (.ireturn, 1) := by decide +kernel
theorem dX7_image_0 : decode cX7_image 0 = .ok (.aload_n 0, 1) := by decide +kernel
theorem dX7_image_1 : decode cX7_image 1 = .ok (.invokevirtual 97, 3) := by decide +kernel
theorem dX7_image_4 : decode cX7_image 4 = .ok (.ifCond .eq 6, 3) := by decide +kernel
theorem dX7_image_7 : decode cX7_image 7 = .ok (.bipush (-103), 2) := by decide +kernel
theorem dX7_image_9 : decode cX7_image 9 = .ok (.ireturn, 1) := by decide +kernel
theorem dX7_image_10 : decode cX7_image 10 = .ok (.aload_n 0, 1) := by decide +kernel
theorem dX7_image_11 : decode cX7_image 11 = .ok (.getfield 22, 3) := by decide +kernel
theorem dX7_image_14 : decode cX7_image 14 = .ok (.aload_n 0, 1) := by decide +kernel
theorem dX7_image_15 : decode cX7_image 15 = .ok (.getfield 28, 3) := by decide +kernel
theorem dX7_image_18 : decode cX7_image 18 = .ok (.invokestatic 78, 3) := by decide +kernel
theorem dX7_image_21 : decode cX7_image 21 = .ok (.aload_n 0, 1) := by decide +kernel
theorem dX7_image_22 : decode cX7_image 22 = .ok (.getfield 25, 3) := by decide +kernel
theorem dX7_image_25 : decode cX7_image 25 = .ok (.aload_n 0, 1) := by decide +kernel
theorem dX7_image_26 : decode cX7_image 26 = .ok (.getfield 31, 3) := by decide +kernel
theorem dX7_image_29 : decode cX7_image 29 = .ok (.invokestatic 78, 3) := by decide +kernel
theorem dX7_image_32 : decode cX7_image 32 = .ok (.aload_n 0, 1) := by decide +kernel
theorem dX7_image_33 : decode cX7_image 33 = .ok (.aload_n 0, 1) := by decide +kernel
theorem dX7_image_34 : decode cX7_image 34 = .ok (.getfield 75, 3) := by decide +kernel
theorem dX7_image_37 : decode cX7_image 37 = .ok (.putfield 175, 3) := by decide +kernel
theorem dX7_image_40 : decode cX7_image 40 = .ok (.aload_n 0, 1) := by decide +kernel
theorem dX7_image_41 : decode cX7_image 41 = .ok (.aload_n 0, 1) := by decide +kernel
theorem dX7_image_42 : decode cX7_image 42 = .ok (.getfield 82, 3) := by decide +kernel
theorem dX7_image_45 : decode cX7_image 45 = .ok (.putfield 178, 3) := by decide +kernel
theorem dX7_image_48 : decode cX7_image 48 = .ok (.aload_n 0, 1) := by decide +kernel
theorem dX7_image_49 : decode cX7_image 49 = .ok (.aload_n 0, 1) := by decide +kernel
theorem dX7_image_50 : decode cX7_image 50 = .ok (.getfield 85, 3) := by decide +kernel
theorem dX7_image_53 : decode cX7_image 53 = .ok (.putfield 181, 3) := by decide +kernel
theorem dX7_image_56 : decode cX7_image 56 = .ok (.aload_n 0, 1) := by decide +kernel
theorem dX7_image_57 : decode cX7_image 57 = .ok (.aload_n 0, 1) := by decide +kernel
theorem dX7_image_58 : decode cX7_image 58 = .ok (.getfield 88, 3) := by decide +kernel
theorem dX7_image_61 : decode cX7_image 61 = .ok (.putfield 34, 3) := by decide +kernel
theorem dX7_image_64 : decode cX7_image 64 = .ok (.aload_n 0, 1) := by decide +kernel
theorem dX7_image_65 : decode cX7_image 65 = .ok (.getfield 82, 3) := by decide +kernel
theorem dX7_image_68 : decode cX7_image 68 = .ok (.ireturn, 1) := by decide +kernel
theorem dX7_restore_0 : decode cX7_restore 0 = .ok (.aload_n 0, 1) := by decide +kernel
theorem dX7_restore_1 : decode cX7_restore 1 = .ok (.getfield 34, 3) := by decide +kernel
theorem dX7_restore_4 : decode cX7_restore 4 = .ok (.aload_n 0, 1) := by decide +kernel
theorem dX7_restore_5 : decode cX7_restore 5 = .ok (.getfield 88, 3) := by decide +kernel
theorem dX7_restore_8 : decode cX7_restore 8 = .ok (.if_icmp .eq 6, 3) := by decide +kernel
theorem dX7_restore_11 : decode cX7_restore 11 = .ok (.bipush (-103), 2) := by decide +kernel
theorem dX7_restore_13 : decode cX7_restore 13 = .ok (.ireturn, 1) := by decide +kernel
theorem dX7_restore_14 : decode cX7_restore 14 = .ok (.aload_n 0, 1) := by decide +kernel
theorem dX7_restore_15 : decode cX7_restore 15 = .ok (.getfield 28, 3) := by decide +kernel
theorem dX7_restore_18 : decode cX7_restore 18 = .ok (.aload_n 0, 1) := by decide +kernel
theorem dX7_restore_19 : decode cX7_restore 19 = .ok (.getfield 22, 3) := by decide +kernel
theorem dX7_restore_22 : decode cX7_restore 22 = .ok (.invokestatic 78, 3) := by decide +kernel
theorem dX7_restore_25 : decode cX7_restore 25 = .ok (.aload_n 0, 1) := by decide +kernel
theorem dX7_restore_26 : decode cX7_restore 26 = .ok (.getfield 31, 3) := by decide +kernel
theorem dX7_restore_29 : decode cX7_restore 29 = .ok (.aload_n 0, 1) := by decide +kernel
theorem dX7_restore_30 : decode cX7_restore 30 = .ok (.getfield 25, 3) := by decide +kernel
theorem dX7_restore_33 : decode cX7_restore 33 = .ok (.invokestatic 78, 3) := by decide +kernel
theorem dX7_restore_36 : decode cX7_restore 36 = .ok (.aload_n 0, 1) := by decide +kernel
theorem dX7_restore_37 : decode cX7_restore 37 = .ok (.aload_n 0, 1) := by decide +kernel
theorem dX7_restore_38 : decode cX7_restore 38 = .ok (.getfield 175, 3) := by decide +kernel
theorem dX7_restore_41 : decode cX7_restore 41 = .ok (.putfield 75, 3) := by decide +kernel
theorem dX7_restore_44 : decode cX7_restore 44 = .ok (.aload_n 0, 1) := by decide +kernel
theorem dX7_restore_45 : decode cX7_restore 45 = .ok (.aload_n 0, 1) := by decide +kernel
theorem dX7_restore_46 : decode cX7_restore 46 = .ok (.getfield 178, 3) := by decide +kernel
theorem dX7_restore_49 : decode cX7_restore 49 = .ok (.putfield 82, 3) := by decide +kernel
theorem dX7_restore_52 : decode cX7_restore 52 = .ok (.aload_n 0, 1) := by decide +kernel
theorem dX7_restore_53 : decode cX7_restore 53 = .ok (.aload_n 0, 1) := by decide +kernel
theorem dX7_restore_54 : decode cX7_restore 54 = .ok (.getfield 181, 3) := by decide +kernel
theorem dX7_restore_57 : decode cX7_restore 57 = .ok (.putfield 85, 3) := by decide +kernel
theorem dX7_restore_60 : decode cX7_restore 60 = .ok (.aload_n 0, 1) := by decide +kernel
theorem dX7_restore_61 : decode cX7_restore 61 = .ok (.getfield 82, 3) := by decide +kernel
theorem dX7_restore_64 : decode cX7_restore 64 = .ok (.ireturn, 1) := by decide +kernel
theorem dX7_beatsAll_0 : decode cX7_beatsAll 0 = .ok (.iconst 0, 1) := by decide +kernel
theorem dX7_beatsAll_1 : decode cX7_beatsAll 1 = .ok (.istore_n 1, 1) := by decide +kernel
theorem dX7_beatsAll_2 : decode cX7_beatsAll 2 = .ok (.iconst 0, 1) := by decide +kernel
theorem dX7_beatsAll_3 : decode cX7_beatsAll 3 = .ok (.istore_n 2, 1) := by decide +kernel
theorem dX7_beatsAll_4 : decode cX7_beatsAll 4 = .ok (.iload_n 2, 1) := by decide +kernel
theorem dX7_beatsAll_5 : decode cX7_beatsAll 5 = .ok (.iconst 4, 1) := by decide +kernel
theorem dX7_beatsAll_6 : decode cX7_beatsAll 6 = .ok (.if_icmp .ge 27, 3) := by decide +kernel
theorem dX7_beatsAll_9 : decode cX7_beatsAll 9 = .ok (.aload_n 0, 1) := by decide +kernel
theorem dX7_beatsAll_10 : decode cX7_beatsAll 10 = .ok (.invokevirtual 97, 3) := by decide +kernel
theorem dX7_beatsAll_13 : decode cX7_beatsAll 13 = .ok (.ifCond .ne 20, 3) := by decide +kernel
theorem dX7_beatsAll_16 : decode cX7_beatsAll 16 = .ok (.iload_n 1, 1) := by decide +kernel
theorem dX7_beatsAll_17 : decode cX7_beatsAll 17 = .ok (.aload_n 0, 1) := by decide +kernel
theorem dX7_beatsAll_18 : decode cX7_beatsAll 18 = .ok (.getfield 19, 3) := by decide +kernel
theorem dX7_beatsAll_21 : decode cX7_beatsAll 21 = .ok (.iconst 5, 1) := by decide +kernel
theorem dX7_beatsAll_22 : decode cX7_beatsAll 22 = .ok (.iload_n 2, 1) := by decide +kernel
theorem dX7_beatsAll_23 : decode cX7_beatsAll 23 = .ok (.imul, 1) := by decide +kernel
theorem dX7_beatsAll_24 : decode cX7_beatsAll 24 = .ok (.iaload, 1) := by decide +kernel
theorem dX7_beatsAll_25 : decode cX7_beatsAll 25 = .ok (.iadd, 1) := by decide +kernel
theorem dX7_beatsAll_26 : decode cX7_beatsAll 26 = .ok (.istore_n 1, 1) := by decide +kernel
theorem dX7_beatsAll_27 : decode cX7_beatsAll 27 = .ok (.iinc 2 1, 3) := by decide +kernel
theorem dX7_beatsAll_30 : decode cX7_beatsAll 30 = .ok (.goto (-26), 3) := by decide +kernel
theorem dX7_beatsAll_33 : decode cX7_beatsAll 33 = .ok (.iload_n 1, 1) := by decide +kernel
theorem dX7_beatsAll_34 : decode cX7_beatsAll 34 = .ok (.ireturn, 1) := by decide +kernel
theorem dX7_sumAt_0 : decode cX7_sumAt 0 = .ok (.iconst 0, 1) := by decide +kernel
theorem dX7_sumAt_1 : decode cX7_sumAt 1 = .ok (.istore_n 2, 1) := by decide +kernel
theorem dX7_sumAt_2 : decode cX7_sumAt 2 = .ok (.iconst 0, 1) := by decide +kernel
theorem dX7_sumAt_3 : decode cX7_sumAt 3 = .ok (.istore_n 3, 1) := by decide +kernel
theorem dX7_sumAt_4 : decode cX7_sumAt 4 = .ok (.iload_n 3, 1) := by decide +kernel
theorem dX7_sumAt_5 : decode cX7_sumAt 5 = .ok (.aload_n 0, 1) := by decide +kernel
theorem dX7_sumAt_6 : decode cX7_sumAt 6 = .ok (.getfield 75, 3) := by decide +kernel
theorem dX7_sumAt_9 : decode cX7_sumAt 9 = .ok (.if_icmp .ge 22, 3) := by decide +kernel
theorem dX7_sumAt_12 : decode cX7_sumAt 12 = .ok (.iload_n 2, 1) := by decide +kernel
theorem dX7_sumAt_13 : decode cX7_sumAt 13 = .ok (.aload_n 0, 1) := by decide +kernel
theorem dX7_sumAt_14 : decode cX7_sumAt 14 = .ok (.getfield 22, 3) := by decide +kernel
theorem dX7_sumAt_17 : decode cX7_sumAt 17 = .ok (.iconst 4, 1) := by decide +kernel
theorem dX7_sumAt_18 : decode cX7_sumAt 18 = .ok (.iload_n 3, 1) := by decide +kernel
theorem dX7_sumAt_19 : decode cX7_sumAt 19 = .ok (.imul, 1) := by decide +kernel
theorem dX7_sumAt_20 : decode cX7_sumAt 20 = .ok (.iload_n 1, 1) := by decide +kernel
theorem dX7_sumAt_21 : decode cX7_sumAt 21 = .ok (.iadd, 1) := by decide +kernel
theorem dX7_sumAt_22 : decode cX7_sumAt 22 = .ok (.iaload, 1) := by decide +kernel
theorem dX7_sumAt_23 : decode cX7_sumAt 23 = .ok (.iadd, 1) := by decide +kernel
theorem dX7_sumAt_24 : decode cX7_sumAt 24 = .ok (.istore_n 2, 1) := by decide +kernel
theorem dX7_sumAt_25 : decode cX7_sumAt 25 = .ok (.iinc 3 1, 3) := by decide +kernel
theorem dX7_sumAt_28 : decode cX7_sumAt 28 = .ok (.goto (-24), 3) := by decide +kernel
theorem dX7_sumAt_31 : decode cX7_sumAt 31 = .ok (.iload_n 2, 1) := by decide +kernel
theorem dX7_sumAt_32 : decode cX7_sumAt 32 = .ok (.ireturn, 1) := by decide +kernel
theorem dX7_countOf_0 : decode cX7_countOf 0 = .ok (.iload_n 1, 1) := by decide +kernel
theorem dX7_countOf_1 : decode cX7_countOf 1 = .ok (.tableswitch 89 0 7 #[47, 52, 57, 63, 69, 74, 79, 84], 47) := by decide +kernel
theorem dX7_countOf_48 : decode cX7_countOf 48 = .ok (.aload_n 0, 1) := by decide +kernel
theorem dX7_countOf_49 : decode cX7_countOf 49 = .ok (.getfield 75, 3) := by decide +kernel
theorem dX7_countOf_52 : decode cX7_countOf 52 = .ok (.ireturn, 1) := by decide +kernel
theorem dX7_countOf_53 : decode cX7_countOf 53 = .ok (.aload_n 0, 1) := by decide +kernel
theorem dX7_countOf_54 : decode cX7_countOf 54 = .ok (.invokevirtual 184, 3) := by decide +kernel
theorem dX7_countOf_57 : decode cX7_countOf 57 = .ok (.ireturn, 1) := by decide +kernel
theorem dX7_countOf_58 : decode cX7_countOf 58 = .ok (.aload_n 0, 1) := by decide +kernel
theorem dX7_countOf_59 : decode cX7_countOf 59 = .ok (.iconst 2, 1) := by decide +kernel
theorem dX7_countOf_60 : decode cX7_countOf 60 = .ok (.invokevirtual 187, 3) := by decide +kernel
theorem dX7_countOf_63 : decode cX7_countOf 63 = .ok (.ireturn, 1) := by decide +kernel
theorem dX7_countOf_64 : decode cX7_countOf 64 = .ok (.aload_n 0, 1) := by decide +kernel
theorem dX7_countOf_65 : decode cX7_countOf 65 = .ok (.iconst 3, 1) := by decide +kernel
theorem dX7_countOf_66 : decode cX7_countOf 66 = .ok (.invokevirtual 187, 3) := by decide +kernel
theorem dX7_countOf_69 : decode cX7_countOf 69 = .ok (.ireturn, 1) := by decide +kernel
theorem dX7_countOf_70 : decode cX7_countOf 70 = .ok (.aload_n 0, 1) := by decide +kernel
theorem dX7_countOf_71 : decode cX7_countOf 71 = .ok (.getfield 82, 3) := by decide +kernel
theorem dX7_countOf_74 : decode cX7_countOf 74 = .ok (.ireturn, 1) := by decide +kernel
theorem dX7_countOf_75 : decode cX7_countOf 75 = .ok (.aload_n 0, 1) := by decide +kernel
theorem dX7_countOf_76 : decode cX7_countOf 76 = .ok (.getfield 85, 3) := by decide +kernel
theorem dX7_countOf_79 : decode cX7_countOf 79 = .ok (.ireturn, 1) := by decide +kernel
theorem dX7_countOf_80 : decode cX7_countOf 80 = .ok (.aload_n 0, 1) := by decide +kernel
theorem dX7_countOf_81 : decode cX7_countOf 81 = .ok (.getfield 44, 3) := by decide +kernel
theorem dX7_countOf_84 : decode cX7_countOf 84 = .ok (.ireturn, 1) := by decide +kernel
theorem dX7_countOf_85 : decode cX7_countOf 85 = .ok (.aload_n 0, 1) := by decide +kernel
theorem dX7_countOf_86 : decode cX7_countOf 86 = .ok (.getfield 88, 3) := by decide +kernel
theorem dX7_countOf_89 : decode cX7_countOf 89 = .ok (.ireturn, 1) := by decide +kernel
theorem dX7_countOf_90 : decode cX7_countOf 90 = .ok (.bipush (-102), 2) := by decide +kernel
theorem dX7_countOf_92 : decode cX7_countOf 92 = .ok (.ireturn, 1) := by decide +kernel
theorem dX7_count_0 : decode cX7_count 0 = .ok (.aload_n 0, 1) := by decide +kernel
theorem dX7_count_1 : decode cX7_count 1 = .ok (.iload_n 1, 1) := by decide +kernel
theorem dX7_count_2 : decode cX7_count 2 = .ok (.invokevirtual 190, 3) := by decide +kernel
theorem dX7_count_5 : decode cX7_count 5 = .ok (.ireturn, 1) := by decide +kernel
theorem dX7_say_0 : decode cX7_say 0 = .ok (.aload_n 0, 1) := by decide +kernel
theorem dX7_say_1 : decode cX7_say 1 = .ok (.ldc2_w 193, 3) := by decide +kernel
theorem dX7_say_4 : decode cX7_say 4 = .ok (.aload_n 0, 1) := by decide +kernel
theorem dX7_say_5 : decode cX7_say 5 = .ok (.getfield 195, 3) := by decide +kernel
theorem dX7_say_8 : decode cX7_say 8 = .ok (.lmul, 1) := by decide +kernel
theorem dX7_say_9 : decode cX7_say 9 = .ok (.lload_n 1, 1) := by decide +kernel
theorem dX7_say_10 : decode cX7_say 10 = .ok (.ladd, 1) := by decide +kernel
theorem dX7_say_11 : decode cX7_say 11 = .ok (.putfield 195, 3) := by decide +kernel
theorem dX7_say_14 : decode cX7_say 14 = .ok (.return_, 1) := by decide +kernel
theorem dX7_sayTap_0 : decode cX7_sayTap 0 = .ok (.iconst 0, 1) := by decide +kernel
theorem dX7_sayTap_1 : decode cX7_sayTap 1 = .ok (.istore_n 2, 1) := by decide +kernel
theorem dX7_sayTap_2 : decode cX7_sayTap 2 = .ok (.iload_n 2, 1) := by decide +kernel
theorem dX7_sayTap_3 : decode cX7_sayTap 3 = .ok (.bipush 9, 2) := by decide +kernel
theorem dX7_sayTap_5 : decode cX7_sayTap 5 = .ok (.if_icmp .ge 20, 3) := by decide +kernel
theorem dX7_sayTap_8 : decode cX7_sayTap 8 = .ok (.aload_n 0, 1) := by decide +kernel
theorem dX7_sayTap_9 : decode cX7_sayTap 9 = .ok (.aload_n 0, 1) := by decide +kernel
theorem dX7_sayTap_10 : decode cX7_sayTap 10 = .ok (.iload_n 1, 1) := by decide +kernel
theorem dX7_sayTap_11 : decode cX7_sayTap 11 = .ok (.iload_n 2, 1) := by decide +kernel
theorem dX7_sayTap_12 : decode cX7_sayTap 12 = .ok (.invokevirtual 139, 3) := by decide +kernel
theorem dX7_sayTap_15 : decode cX7_sayTap 15 = .ok (.i2l, 1) := by decide +kernel
theorem dX7_sayTap_16 : decode cX7_sayTap 16 = .ok (.invokevirtual 199, 3) := by decide +kernel
theorem dX7_sayTap_19 : decode cX7_sayTap 19 = .ok (.iinc 2 1, 3) := by decide +kernel
theorem dX7_sayTap_22 : decode cX7_sayTap 22 = .ok (.goto (-20), 3) := by decide +kernel
theorem dX7_sayTap_25 : decode cX7_sayTap 25 = .ok (.iconst 0, 1) := by decide +kernel
theorem dX7_sayTap_26 : decode cX7_sayTap 26 = .ok (.istore_n 2, 1) := by decide +kernel
theorem dX7_sayTap_27 : decode cX7_sayTap 27 = .ok (.iload_n 2, 1) := by decide +kernel
theorem dX7_sayTap_28 : decode cX7_sayTap 28 = .ok (.bipush 8, 2) := by decide +kernel
theorem dX7_sayTap_30 : decode cX7_sayTap 30 = .ok (.if_icmp .ge 20, 3) := by decide +kernel
theorem dX7_sayTap_33 : decode cX7_sayTap 33 = .ok (.aload_n 0, 1) := by decide +kernel
theorem dX7_sayTap_34 : decode cX7_sayTap 34 = .ok (.aload_n 0, 1) := by decide +kernel
theorem dX7_sayTap_35 : decode cX7_sayTap 35 = .ok (.iload_n 1, 1) := by decide +kernel
theorem dX7_sayTap_36 : decode cX7_sayTap 36 = .ok (.iload_n 2, 1) := by decide +kernel
theorem dX7_sayTap_37 : decode cX7_sayTap 37 = .ok (.invokevirtual 144, 3) := by decide +kernel
theorem dX7_sayTap_40 : decode cX7_sayTap 40 = .ok (.i2l, 1) := by decide +kernel
theorem dX7_sayTap_41 : decode cX7_sayTap 41 = .ok (.invokevirtual 199, 3) := by decide +kernel
theorem dX7_sayTap_44 : decode cX7_sayTap 44 = .ok (.iinc 2 1, 3) := by decide +kernel
theorem dX7_sayTap_47 : decode cX7_sayTap 47 = .ok (.goto (-20), 3) := by decide +kernel
theorem dX7_sayTap_50 : decode cX7_sayTap 50 = .ok (.iconst 0, 1) := by decide +kernel
theorem dX7_sayTap_51 : decode cX7_sayTap 51 = .ok (.istore_n 2, 1) := by decide +kernel
theorem dX7_sayTap_52 : decode cX7_sayTap 52 = .ok (.iload_n 2, 1) := by decide +kernel
theorem dX7_sayTap_53 : decode cX7_sayTap 53 = .ok (.iconst 4, 1) := by decide +kernel
theorem dX7_sayTap_54 : decode cX7_sayTap 54 = .ok (.if_icmp .ge 33, 3) := by decide +kernel
theorem dX7_sayTap_57 : decode cX7_sayTap 57 = .ok (.aload_n 0, 1) := by decide +kernel
theorem dX7_sayTap_58 : decode cX7_sayTap 58 = .ok (.aload_n 0, 1) := by decide +kernel
theorem dX7_sayTap_59 : decode cX7_sayTap 59 = .ok (.iload_n 1, 1) := by decide +kernel
theorem dX7_sayTap_60 : decode cX7_sayTap 60 = .ok (.iload_n 2, 1) := by decide +kernel
theorem dX7_sayTap_61 : decode cX7_sayTap 61 = .ok (.iconst 0, 1) := by decide +kernel
theorem dX7_sayTap_62 : decode cX7_sayTap 62 = .ok (.invokevirtual 153, 3) := by decide +kernel
theorem dX7_sayTap_65 : decode cX7_sayTap 65 = .ok (.i2l, 1) := by decide +kernel
theorem dX7_sayTap_66 : decode cX7_sayTap 66 = .ok (.invokevirtual 199, 3) := by decide +kernel
theorem dX7_sayTap_69 : decode cX7_sayTap 69 = .ok (.aload_n 0, 1) := by decide +kernel
theorem dX7_sayTap_70 : decode cX7_sayTap 70 = .ok (.aload_n 0, 1) := by decide +kernel
theorem dX7_sayTap_71 : decode cX7_sayTap 71 = .ok (.iload_n 1, 1) := by decide +kernel
theorem dX7_sayTap_72 : decode cX7_sayTap 72 = .ok (.iload_n 2, 1) := by decide +kernel
theorem dX7_sayTap_73 : decode cX7_sayTap 73 = .ok (.iconst 1, 1) := by decide +kernel
theorem dX7_sayTap_74 : decode cX7_sayTap 74 = .ok (.invokevirtual 153, 3) := by decide +kernel
theorem dX7_sayTap_77 : decode cX7_sayTap 77 = .ok (.i2l, 1) := by decide +kernel
theorem dX7_sayTap_78 : decode cX7_sayTap 78 = .ok (.invokevirtual 199, 3) := by decide +kernel
theorem dX7_sayTap_81 : decode cX7_sayTap 81 = .ok (.iinc 2 1, 3) := by decide +kernel
theorem dX7_sayTap_84 : decode cX7_sayTap 84 = .ok (.goto (-32), 3) := by decide +kernel
theorem dX7_sayTap_87 : decode cX7_sayTap 87 = .ok (.return_, 1) := by decide +kernel
theorem dX7_digest_0 : decode cX7_digest 0 = .ok (.aload_n 0, 1) := by decide +kernel
theorem dX7_digest_1 : decode cX7_digest 1 = .ok (.ldc2_w 203, 3) := by decide +kernel
theorem dX7_digest_4 : decode cX7_digest 4 = .ok (.putfield 195, 3) := by decide +kernel
theorem dX7_digest_7 : decode cX7_digest 7 = .ok (.iconst 0, 1) := by decide +kernel
theorem dX7_digest_8 : decode cX7_digest 8 = .ok (.istore_n 1, 1) := by decide +kernel
theorem dX7_digest_9 : decode cX7_digest 9 = .ok (.iload_n 1, 1) := by decide +kernel
theorem dX7_digest_10 : decode cX7_digest 10 = .ok (.iconst 4, 1) := by decide +kernel
theorem dX7_digest_11 : decode cX7_digest 11 = .ok (.if_icmp .ge 53, 3) := by decide +kernel
theorem dX7_digest_14 : decode cX7_digest 14 = .ok (.aload_n 0, 1) := by decide +kernel
theorem dX7_digest_15 : decode cX7_digest 15 = .ok (.invokevirtual 97, 3) := by decide +kernel
theorem dX7_digest_18 : decode cX7_digest 18 = .ok (.ifCond .ne 46, 3) := by decide +kernel
theorem dX7_digest_21 : decode cX7_digest 21 = .ok (.aload_n 0, 1) := by decide +kernel
theorem dX7_digest_22 : decode cX7_digest 22 = .ok (.aload_n 0, 1) := by decide +kernel
theorem dX7_digest_23 : decode cX7_digest 23 = .ok (.iload_n 1, 1) := by decide +kernel
theorem dX7_digest_24 : decode cX7_digest 24 = .ok (.iconst 0, 1) := by decide +kernel
theorem dX7_digest_25 : decode cX7_digest 25 = .ok (.invokevirtual 104, 3) := by decide +kernel
theorem dX7_digest_28 : decode cX7_digest 28 = .ok (.i2l, 1) := by decide +kernel
theorem dX7_digest_29 : decode cX7_digest 29 = .ok (.invokevirtual 199, 3) := by decide +kernel
theorem dX7_digest_32 : decode cX7_digest 32 = .ok (.bipush 10, 2) := by decide +kernel
theorem dX7_digest_34 : decode cX7_digest 34 = .ok (.istore_n 2, 1) := by decide +kernel
theorem dX7_digest_35 : decode cX7_digest 35 = .ok (.iload_n 2, 1) := by decide +kernel
theorem dX7_digest_36 : decode cX7_digest 36 = .ok (.bipush 14, 2) := by decide +kernel
theorem dX7_digest_38 : decode cX7_digest 38 = .ok (.if_icmp .ge 20, 3) := by decide +kernel
theorem dX7_digest_41 : decode cX7_digest 41 = .ok (.aload_n 0, 1) := by decide +kernel
theorem dX7_digest_42 : decode cX7_digest 42 = .ok (.aload_n 0, 1) := by decide +kernel
theorem dX7_digest_43 : decode cX7_digest 43 = .ok (.iload_n 1, 1) := by decide +kernel
theorem dX7_digest_44 : decode cX7_digest 44 = .ok (.iload_n 2, 1) := by decide +kernel
theorem dX7_digest_45 : decode cX7_digest 45 = .ok (.invokevirtual 104, 3) := by decide +kernel
theorem dX7_digest_48 : decode cX7_digest 48 = .ok (.i2l, 1) := by decide +kernel
theorem dX7_digest_49 : decode cX7_digest 49 = .ok (.invokevirtual 199, 3) := by decide +kernel
theorem dX7_digest_52 : decode cX7_digest 52 = .ok (.iinc 2 1, 3) := by decide +kernel
theorem dX7_digest_55 : decode cX7_digest 55 = .ok (.goto (-20), 3) := by decide +kernel
theorem dX7_digest_58 : decode cX7_digest 58 = .ok (.iinc 1 1, 3) := by decide +kernel
theorem dX7_digest_61 : decode cX7_digest 61 = .ok (.goto (-52), 3) := by decide +kernel
theorem dX7_digest_64 : decode cX7_digest 64 = .ok (.iconst 0, 1) := by decide +kernel
theorem dX7_digest_65 : decode cX7_digest 65 = .ok (.istore_n 1, 1) := by decide +kernel
theorem dX7_digest_66 : decode cX7_digest 66 = .ok (.iload_n 1, 1) := by decide +kernel
theorem dX7_digest_67 : decode cX7_digest 67 = .ok (.aload_n 0, 1) := by decide +kernel
theorem dX7_digest_68 : decode cX7_digest 68 = .ok (.getfield 75, 3) := by decide +kernel
theorem dX7_digest_71 : decode cX7_digest 71 = .ok (.if_icmp .ge 14, 3) := by decide +kernel
theorem dX7_digest_74 : decode cX7_digest 74 = .ok (.aload_n 0, 1) := by decide +kernel
theorem dX7_digest_75 : decode cX7_digest 75 = .ok (.iload_n 1, 1) := by decide +kernel
theorem dX7_digest_76 : decode cX7_digest 76 = .ok (.invokevirtual 205, 3) := by decide +kernel
theorem dX7_digest_79 : decode cX7_digest 79 = .ok (.iinc 1 1, 3) := by decide +kernel
theorem dX7_digest_82 : decode cX7_digest 82 = .ok (.goto (-16), 3) := by decide +kernel
theorem dX7_digest_85 : decode cX7_digest 85 = .ok (.iconst 0, 1) := by decide +kernel
theorem dX7_digest_86 : decode cX7_digest 86 = .ok (.istore_n 1, 1) := by decide +kernel
theorem dX7_digest_87 : decode cX7_digest 87 = .ok (.iload_n 1, 1) := by decide +kernel
theorem dX7_digest_88 : decode cX7_digest 88 = .ok (.aload_n 0, 1) := by decide +kernel
theorem dX7_digest_89 : decode cX7_digest 89 = .ok (.getfield 44, 3) := by decide +kernel
theorem dX7_digest_92 : decode cX7_digest 92 = .ok (.if_icmp .ge 20, 3) := by decide +kernel
theorem dX7_digest_95 : decode cX7_digest 95 = .ok (.aload_n 0, 1) := by decide +kernel
theorem dX7_digest_96 : decode cX7_digest 96 = .ok (.aload_n 0, 1) := by decide +kernel
theorem dX7_digest_97 : decode cX7_digest 97 = .ok (.getfield 7, 3) := by decide +kernel
theorem dX7_digest_100 : decode cX7_digest 100 = .ok (.iload_n 1, 1) := by decide +kernel
theorem dX7_digest_101 : decode cX7_digest 101 = .ok (.iaload, 1) := by decide +kernel
theorem dX7_digest_102 : decode cX7_digest 102 = .ok (.i2l, 1) := by decide +kernel
theorem dX7_digest_103 : decode cX7_digest 103 = .ok (.invokevirtual 199, 3) := by decide +kernel
theorem dX7_digest_106 : decode cX7_digest 106 = .ok (.iinc 1 1, 3) := by decide +kernel
theorem dX7_digest_109 : decode cX7_digest 109 = .ok (.goto (-22), 3) := by decide +kernel
theorem dX7_digest_112 : decode cX7_digest 112 = .ok (.iconst 0, 1) := by decide +kernel
theorem dX7_digest_113 : decode cX7_digest 113 = .ok (.istore_n 1, 1) := by decide +kernel
theorem dX7_digest_114 : decode cX7_digest 114 = .ok (.iload_n 1, 1) := by decide +kernel
theorem dX7_digest_115 : decode cX7_digest 115 = .ok (.bipush 8, 2) := by decide +kernel
theorem dX7_digest_117 : decode cX7_digest 117 = .ok (.if_icmp .ge 19, 3) := by decide +kernel
theorem dX7_digest_120 : decode cX7_digest 120 = .ok (.aload_n 0, 1) := by decide +kernel
theorem dX7_digest_121 : decode cX7_digest 121 = .ok (.aload_n 0, 1) := by decide +kernel
theorem dX7_digest_122 : decode cX7_digest 122 = .ok (.iload_n 1, 1) := by decide +kernel
theorem dX7_digest_123 : decode cX7_digest 123 = .ok (.invokevirtual 190, 3) := by decide +kernel
theorem dX7_digest_126 : decode cX7_digest 126 = .ok (.i2l, 1) := by decide +kernel
theorem dX7_digest_127 : decode cX7_digest 127 = .ok (.invokevirtual 199, 3) := by decide +kernel
theorem dX7_digest_130 : decode cX7_digest 130 = .ok (.iinc 1 1, 3) := by decide +kernel
theorem dX7_digest_133 : decode cX7_digest 133 = .ok (.goto (-19), 3) := by decide +kernel
theorem dX7_digest_136 : decode cX7_digest 136 = .ok (.aload_n 0, 1) := by decide +kernel
theorem dX7_digest_137 : decode cX7_digest 137 = .ok (.getfield 195, 3) := by decide +kernel
theorem dX7_digest_140 : decode cX7_digest 140 = .ok (.lreturn, 1) := by decide +kernel
