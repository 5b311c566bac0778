theorem dX0_init_0 : decode cX0_init 0 = .ok (.aload_n 0, 1) := by decide +kernel
theorem dX0_init_1 : decode cX0_init 1 = .ok (.invokespecial 1, 3) := by decide +kernel
theorem dX0_init_4 : decode cX0_init 4 = .ok (.return_, 1) := by decide +kernel
theorem dX0_become_0 : decode cX0_become 0 = .ok (.aload_n 0, 1) := by decide +kernel
theorem dX0_become_1 : decode cX0_become 1 = .ok (.iload_n 1, 1) := by decide +kernel
theorem dX0_become_2 : decode cX0_become 2 = .ok (.putfield 7, 3) := by decide +kernel
theorem dX0_become_5 : decode cX0_become 5 = .ok (.aload_n 0, 1) := by decide +kernel
theorem dX0_become_6 : decode cX0_become 6 = .ok (.iload_n 2, 1) := by decide +kernel
theorem dX0_become_7 : decode cX0_become 7 = .ok (.putfield 13, 3) := by decide +kernel
theorem dX0_become_10 : decode cX0_become 10 = .ok (.aload_n 0, 1) := by decide +kernel
theorem dX0_become_11 : decode cX0_become 11 = .ok (.iload_n 3, 1) := by decide +kernel
theorem dX0_become_12 : decode cX0_become 12 = .ok (.putfield 16, 3) := by decide +kernel
theorem dX0_become_15 : decode cX0_become 15 = .ok (.aload_n 0, 1) := by decide +kernel
theorem dX0_become_16 : decode cX0_become 16 = .ok (.iload 4, 2) := by decide +kernel
theorem dX0_become_18 : decode cX0_become 18 = .ok (.putfield 19, 3) := by decide +kernel
theorem dX0_become_21 : decode cX0_become 21 = .ok (.return_, 1) := by decide +kernel
theorem dX1_init_0 : decode cX1_init 0 = .ok (.aload_n 0, 1) := by decide +kernel
theorem dX1_init_1 : decode cX1_init 1 = .ok (.invokespecial 3, 3) := by decide +kernel
theorem dX1_init_4 : decode cX1_init 4 = .ok (.aload_n 0, 1) := by decide +kernel
theorem dX1_init_5 : decode cX1_init 5 = .ok (.bipush 30, 2) := by decide +kernel
theorem dX1_init_7 : decode cX1_init 7 = .ok (.newarray .int, 2) := by decide +kernel
theorem dX1_init_9 : decode cX1_init 9 = .ok (.putfield 9, 3) := by decide +kernel
theorem dX1_init_12 : decode cX1_init 12 = .ok (.aload_n 0, 1) := by decide +kernel
theorem dX1_init_13 : decode cX1_init 13 = .ok (.new 15, 3) := by decide +kernel
theorem dX1_init_16 : decode cX1_init 16 = .ok (.dup, 1) := by decide +kernel
theorem dX1_init_17 : decode cX1_init 17 = .ok (.invokespecial 17, 3) := by decide +kernel
theorem dX1_init_20 : decode cX1_init 20 = .ok (.putfield 18, 3) := by decide +kernel
theorem dX1_init_23 : decode cX1_init 23 = .ok (.return_, 1) := by decide +kernel
theorem dX1_clear_0 : decode cX1_clear 0 = .ok (.aload_n 0, 1) := by decide +kernel
theorem dX1_clear_1 : decode cX1_clear 1 = .ok (.iconst 0, 1) := by decide +kernel
theorem dX1_clear_2 : decode cX1_clear 2 = .ok (.putfield 22, 3) := by decide +kernel
theorem dX1_clear_5 : decode cX1_clear 5 = .ok (.return_, 1) := by decide +kernel
theorem dX1_add_0 : decode cX1_add 0 = .ok (.aload_n 0, 1) := by decide +kernel
theorem dX1_add_1 : decode cX1_add 1 = .ok (.getfield 22, 3) := by decide +kernel
theorem dX1_add_4 : decode cX1_add 4 = .ok (.ifCond .lt 15, 3) := by decide +kernel
theorem dX1_add_7 : decode cX1_add 7 = .ok (.aload_n 0, 1) := by decide +kernel
theorem dX1_add_8 : decode cX1_add 8 = .ok (.getfield 22, 3) := by decide +kernel
theorem dX1_add_11 : decode cX1_add 11 = .ok (.aload_n 0, 1) := by decide +kernel
theorem dX1_add_12 : decode cX1_add 12 = .ok (.getfield 9, 3) := by decide +kernel
theorem dX1_add_15 : decode cX1_add 15 = .ok (.arraylength, 1) := by decide +kernel
theorem dX1_add_16 : decode cX1_add 16 = .ok (.if_icmp .lt 4, 3) := by decide +kernel
theorem dX1_add_19 : decode cX1_add 19 = .ok (.return_, 1) := by decide +kernel
theorem dX1_add_20 : decode cX1_add 20 = .ok (.aload_n 0, 1) := by decide +kernel
theorem dX1_add_21 : decode cX1_add 21 = .ok (.getfield 9, 3) := by decide +kernel
theorem dX1_add_24 : decode cX1_add 24 = .ok (.aload_n 0, 1) := by decide +kernel
theorem dX1_add_25 : decode cX1_add 25 = .ok (.getfield 22, 3) := by decide +kernel
theorem dX1_add_28 : decode cX1_add 28 = .ok (.iload_n 1, 1) := by decide +kernel
theorem dX1_add_29 : decode cX1_add 29 = .ok (.iastore, 1) := by decide +kernel
theorem dX1_add_30 : decode cX1_add 30 = .ok (.aload_n 0, 1) := by decide +kernel
theorem dX1_add_31 : decode cX1_add 31 = .ok (.dup, 1) := by decide +kernel
theorem dX1_add_32 : decode cX1_add 32 = .ok (.getfield 22, 3) := by decide +kernel
theorem dX1_add_35 : decode cX1_add 35 = .ok (.iconst 1, 1) := by decide +kernel
theorem dX1_add_36 : decode cX1_add 36 = .ok (.iadd, 1) := by decide +kernel
theorem dX1_add_37 : decode cX1_add 37 = .ok (.putfield 22, 3) := by decide +kernel
theorem dX1_add_40 : decode cX1_add 40 = .ok (.return_, 1) := by decide +kernel
theorem dX1_codeAt_0 : decode cX1_codeAt 0 = .ok (.iload_n 1, 1) := by decide +kernel
theorem dX1_codeAt_1 : decode cX1_codeAt 1 = .ok (.ifCond .lt 29, 3) := by decide +kernel
theorem dX1_codeAt_4 : decode cX1_codeAt 4 = .ok (.iload_n 1, 1) := by decide +kernel
theorem dX1_codeAt_5 : decode cX1_codeAt 5 = .ok (.aload_n 0, 1) := by decide +kernel
theorem dX1_codeAt_6 : decode cX1_codeAt 6 = .ok (.getfield 22, 3) := by decide +kernel
theorem dX1_codeAt_9 : decode cX1_codeAt 9 = .ok (.if_icmp .ge 21, 3) := by decide +kernel
theorem dX1_codeAt_12 : decode cX1_codeAt 12 = .ok (.iload_n 1, 1) := by decide +kernel
theorem dX1_codeAt_13 : decode cX1_codeAt 13 = .ok (.aload_n 0, 1) := by decide +kernel
theorem dX1_codeAt_14 : decode cX1_codeAt 14 = .ok (.getfield 9, 3) := by decide +kernel
theorem dX1_codeAt_17 : decode cX1_codeAt 17 = .ok (.arraylength, 1) := by decide +kernel
theorem dX1_codeAt_18 : decode cX1_codeAt 18 = .ok (.if_icmp .ge 12, 3) := by decide +kernel
theorem dX1_codeAt_21 : decode cX1_codeAt 21 = .ok (.aload_n 0, 1) := by decide +kernel
theorem dX1_codeAt_22 : decode cX1_codeAt 22 = .ok (.getfield 9, 3) := by decide +kernel
theorem dX1_codeAt_25 : decode cX1_codeAt 25 = .ok (.iload_n 1, 1) := by decide +kernel
theorem dX1_codeAt_26 : decode cX1_codeAt 26 = .ok (.iaload, 1) := by decide +kernel
theorem dX1_codeAt_27 : decode cX1_codeAt 27 = .ok (.goto 4, 3) := by decide +kernel
theorem dX1_codeAt_30 : decode cX1_codeAt 30 = .ok (.iconst (-1), 1) := by decide +kernel
theorem dX1_codeAt_31 : decode cX1_codeAt 31 = .ok (.ireturn, 1) := by decide +kernel
theorem dX1_firstFault_0 : decode cX1_firstFault 0 = .ok (.aload_n 0, 1) := by decide +kernel
theorem dX1_firstFault_1 : decode cX1_firstFault 1 = .ok (.getfield 18, 3) := by decide +kernel
theorem dX1_firstFault_4 : decode cX1_firstFault 4 = .ok (.invokevirtual 26, 3) := by decide +kernel
theorem dX1_firstFault_7 : decode cX1_firstFault 7 = .ok (.iconst 0, 1) := by decide +kernel
theorem dX1_firstFault_8 : decode cX1_firstFault 8 = .ok (.istore_n 1, 1) := by decide +kernel
theorem dX1_firstFault_9 : decode cX1_firstFault 9 = .ok (.iload_n 1, 1) := by decide +kernel
theorem dX1_firstFault_10 : decode cX1_firstFault 10 = .ok (.aload_n 0, 1) := by decide +kernel
theorem dX1_firstFault_11 : decode cX1_firstFault 11 = .ok (.getfield 22, 3) := by decide +kernel
theorem dX1_firstFault_14 : decode cX1_firstFault 14 = .ok (.if_icmp .ge 26, 3) := by decide +kernel
theorem dX1_firstFault_17 : decode cX1_firstFault 17 = .ok (.aload_n 0, 1) := by decide +kernel
theorem dX1_firstFault_18 : decode cX1_firstFault 18 = .ok (.getfield 18, 3) := by decide +kernel
theorem dX1_firstFault_21 : decode cX1_firstFault 21 = .ok (.aload_n 0, 1) := by decide +kernel
theorem dX1_firstFault_22 : decode cX1_firstFault 22 = .ok (.iload_n 1, 1) := by decide +kernel
theorem dX1_firstFault_23 : decode cX1_firstFault 23 = .ok (.invokevirtual 29, 3) := by decide +kernel
theorem dX1_firstFault_26 : decode cX1_firstFault 26 = .ok (.invokevirtual 33, 3) := by decide +kernel
theorem dX1_firstFault_29 : decode cX1_firstFault 29 = .ok (.ifCond .ne 5, 3) := by decide +kernel
theorem dX1_firstFault_32 : decode cX1_firstFault 32 = .ok (.iload_n 1, 1) := by decide +kernel
theorem dX1_firstFault_33 : decode cX1_firstFault 33 = .ok (.ireturn, 1) := by decide +kernel
theorem dX1_firstFault_34 : decode cX1_firstFault 34 = .ok (.iinc 1 1, 3) := by decide +kernel
theorem dX1_firstFault_37 : decode cX1_firstFault 37 = .ok (.goto (-28), 3) := by decide +kernel
theorem dX1_firstFault_40 : decode cX1_firstFault 40 = .ok (.aload_n 0, 1) := by decide +kernel
theorem dX1_firstFault_41 : decode cX1_firstFault 41 = .ok (.getfield 22, 3) := by decide +kernel
theorem dX1_firstFault_44 : decode cX1_firstFault 44 = .ok (.ireturn, 1) := by decide +kernel
theorem dX1_isHouse_0 : decode cX1_isHouse 0 = .ok (.aload_n 0, 1) := by decide +kernel
theorem dX1_isHouse_1 : decode cX1_isHouse 1 = .ok (.invokevirtual 37, 3) := by decide +kernel
theorem dX1_isHouse_4 : decode cX1_isHouse 4 = .ok (.aload_n 0, 1) := by decide +kernel
theorem dX1_isHouse_5 : decode cX1_isHouse 5 = .ok (.getfield 22, 3) := by decide +kernel
theorem dX1_isHouse_8 : decode cX1_isHouse 8 = .ok (.if_icmp .ne 17, 3) := by decide +kernel
theorem dX1_isHouse_11 : decode cX1_isHouse 11 = .ok (.aload_n 0, 1) := by decide +kernel
theorem dX1_isHouse_12 : decode cX1_isHouse 12 = .ok (.getfield 18, 3) := by decide +kernel
theorem dX1_isHouse_15 : decode cX1_isHouse 15 = .ok (.invokevirtual 41, 3) := by decide +kernel
theorem dX1_isHouse_18 : decode cX1_isHouse 18 = .ok (.ifCond .eq 7, 3) := by decide +kernel
theorem dX1_isHouse_21 : decode cX1_isHouse 21 = .ok (.iconst 1, 1) := by decide +kernel
theorem dX1_isHouse_22 : decode cX1_isHouse 22 = .ok (.goto 4, 3) := by decide +kernel
theorem dX1_isHouse_25 : decode cX1_isHouse 25 = .ok (.iconst 0, 1) := by decide +kernel
theorem dX1_isHouse_26 : decode cX1_isHouse 26 = .ok (.ireturn, 1) := by decide +kernel
theorem dX2_init_0 : decode cX2_init 0 = .ok (.aload_n 0, 1) := by decide +kernel
theorem dX2_init_1 : decode cX2_init 1 = .ok (.invokespecial 3, 3) := by decide +kernel
theorem dX2_init_4 : decode cX2_init 4 = .ok (.return_, 1) := by decide +kernel
theorem dX2_begin_0 : decode cX2_begin 0 = .ok (.aload_n 0, 1) := by decide +kernel
theorem dX2_begin_1 : decode cX2_begin 1 = .ok (.iconst 0, 1) := by decide +kernel
theorem dX2_begin_2 : decode cX2_begin 2 = .ok (.putfield 9, 3) := by decide +kernel
theorem dX2_begin_5 : decode cX2_begin 5 = .ok (.aload_n 0, 1) := by decide +kernel
theorem dX2_begin_6 : decode cX2_begin 6 = .ok (.iconst 0, 1) := by decide +kernel
theorem dX2_begin_7 : decode cX2_begin 7 = .ok (.putfield 15, 3) := by decide +kernel
theorem dX2_begin_10 : decode cX2_begin 10 = .ok (.aload_n 0, 1) := by decide +kernel
theorem dX2_begin_11 : decode cX2_begin 11 = .ok (.iconst 0, 1) := by decide +kernel
theorem dX2_begin_12 : decode cX2_begin 12 = .ok (.putfield 18, 3) := by decide +kernel
theorem dX2_begin_15 : decode cX2_begin 15 = .ok (.return_, 1) := by decide +kernel
theorem dX2_takes_0 : decode cX2_takes 0 = .ok (.aload_n 0, 1) := by decide +kernel
theorem dX2_takes_1 : decode cX2_takes 1 = .ok (.getfield 9, 3) := by decide +kernel
theorem dX2_takes_4 : decode cX2_takes 4 = .ok (.iconst 4, 1) := by decide +kernel
theorem dX2_takes_5 : decode cX2_takes 5 = .ok (.if_icmp .ge 11, 3) := by decide +kernel
theorem dX2_takes_8 : decode cX2_takes 8 = .ok (.aload_n 0, 1) := by decide +kernel
theorem dX2_takes_9 : decode cX2_takes 9 = .ok (.iload_n 1, 1) := by decide +kernel
theorem dX2_takes_10 : decode cX2_takes 10 = .ok (.invokevirtual 21, 3) := by decide +kernel
theorem dX2_takes_13 : decode cX2_takes 13 = .ok (.goto 8, 3) := by decide +kernel
theorem dX2_takes_16 : decode cX2_takes 16 = .ok (.aload_n 0, 1) := by decide +kernel
theorem dX2_takes_17 : decode cX2_takes 17 = .ok (.iload_n 1, 1) := by decide +kernel
theorem dX2_takes_18 : decode cX2_takes 18 = .ok (.invokevirtual 25, 3) := by decide +kernel
theorem dX2_takes_21 : decode cX2_takes 21 = .ok (.ireturn, 1) := by decide +kernel
theorem dX2_isAtEnd_0 : decode cX2_isAtEnd 0 = .ok (.aload_n 0, 1) := by decide +kernel
theorem dX2_isAtEnd_1 : decode cX2_isAtEnd 1 = .ok (.getfield 9, 3) := by decide +kernel
theorem dX2_isAtEnd_4 : decode cX2_isAtEnd 4 = .ok (.iconst 4, 1) := by decide +kernel
theorem dX2_isAtEnd_5 : decode cX2_isAtEnd 5 = .ok (.if_icmp .ne 15, 3) := by decide +kernel
theorem dX2_isAtEnd_8 : decode cX2_isAtEnd 8 = .ok (.aload_n 0, 1) := by decide +kernel
theorem dX2_isAtEnd_9 : decode cX2_isAtEnd 9 = .ok (.getfield 18, 3) := by decide +kernel
theorem dX2_isAtEnd_12 : decode cX2_isAtEnd 12 = .ok (.iconst 2, 1) := by decide +kernel
theorem dX2_isAtEnd_13 : decode cX2_isAtEnd 13 = .ok (.if_icmp .ne 7, 3) := by decide +kernel
theorem dX2_isAtEnd_16 : decode cX2_isAtEnd 16 = .ok (.iconst 1, 1) := by decide +kernel
theorem dX2_isAtEnd_17 : decode cX2_isAtEnd 17 = .ok (.goto 4, 3) := by decide +kernel
theorem dX2_isAtEnd_20 : decode cX2_isAtEnd 20 = .ok (.iconst 0, 1) := by decide +kernel
theorem dX2_isAtEnd_21 : decode cX2_isAtEnd 21 = .ok (.ireturn, 1) := by decide +kernel
theorem dX2_takesInSaying_0 : decode cX2_takesInSaying 0 = .ok (.iload_n 1, 1) := by decide +kernel
theorem dX2_takesInSaying_1 : decode cX2_takesInSaying 1 = .ok (.bipush 115, 2) := by decide +kernel
theorem dX2_takesInSaying_3 : decode cX2_takesInSaying 3 = .ok (.if_icmp .eq 9, 3) := by decide +kernel
theorem dX2_takesInSaying_6 : decode cX2_takesInSaying 6 = .ok (.iload_n 1, 1) := by decide +kernel
theorem dX2_takesInSaying_7 : decode cX2_takesInSaying 7 = .ok (.bipush 108, 2) := by decide +kernel
theorem dX2_takesInSaying_9 : decode cX2_takesInSaying 9 = .ok (.if_icmp .ne 27, 3) := by decide +kernel
theorem dX2_takesInSaying_12 : decode cX2_takesInSaying 12 = .ok (.aload_n 0, 1) := by decide +kernel
theorem dX2_takesInSaying_13 : decode cX2_takesInSaying 13 = .ok (.dup, 1) := by decide +kernel
theorem dX2_takesInSaying_14 : decode cX2_takesInSaying 14 = .ok (.getfield 18, 3) := by decide +kernel
theorem dX2_takesInSaying_17 : decode cX2_takesInSaying 17 = .ok (.iconst 1, 1) := by decide +kernel
theorem dX2_takesInSaying_18 : decode cX2_takesInSaying 18 = .ok (.iadd, 1) := by decide +kernel
theorem dX2_takesInSaying_19 : decode cX2_takesInSaying 19 = .ok (.putfield 18, 3) := by decide +kernel
theorem dX2_takesInSaying_22 : decode cX2_takesInSaying 22 = .ok (.aload_n 0, 1) := by decide +kernel
theorem dX2_takesInSaying_23 : decode cX2_takesInSaying 23 = .ok (.getfield 18, 3) := by decide +kernel
theorem dX2_takesInSaying_26 : decode cX2_takesInSaying 26 = .ok (.iconst 4, 1) := by decide +kernel
theorem dX2_takesInSaying_27 : decode cX2_takesInSaying 27 = .ok (.if_icmp .gt 7, 3) := by decide +kernel
theorem dX2_takesInSaying_30 : decode cX2_takesInSaying 30 = .ok (.iconst 1, 1) := by decide +kernel
theorem dX2_takesInSaying_31 : decode cX2_takesInSaying 31 = .ok (.goto 4, 3) := by decide +kernel
theorem dX2_takesInSaying_34 : decode cX2_takesInSaying 34 = .ok (.iconst 0, 1) := by decide +kernel
theorem dX2_takesInSaying_35 : decode cX2_takesInSaying 35 = .ok (.ireturn, 1) := by decide +kernel
theorem dX2_takesInSaying_36 : decode cX2_takesInSaying 36 = .ok (.aload_n 0, 1) := by decide +kernel
theorem dX2_takesInSaying_37 : decode cX2_takesInSaying 37 = .ok (.getfield 9, 3) := by decide +kernel
theorem dX2_takesInSaying_40 : decode cX2_takesInSaying 40 = .ok (.iconst 3, 1) := by decide +kernel
theorem dX2_takesInSaying_41 : decode cX2_takesInSaying 41 = .ok (.if_icmp .ne 8, 3) := by decide +kernel
theorem dX2_takesInSaying_44 : decode cX2_takesInSaying 44 = .ok (.bipush 59, 2) := by decide +kernel
theorem dX2_takesInSaying_46 : decode cX2_takesInSaying 46 = .ok (.goto 5, 3) := by decide +kernel
theorem dX2_takesInSaying_49 : decode cX2_takesInSaying 49 = .ok (.bipush 44, 2) := by decide +kernel
theorem dX2_takesInSaying_51 : decode cX2_takesInSaying 51 = .ok (.istore_n 2, 1) := by decide +kernel
theorem dX2_takesInSaying_52 : decode cX2_takesInSaying 52 = .ok (.aload_n 0, 1) := by decide +kernel
theorem dX2_takesInSaying_53 : decode cX2_takesInSaying 53 = .ok (.getfield 18, 3) := by decide +kernel
theorem dX2_takesInSaying_56 : decode cX2_takesInSaying 56 = .ok (.ifCond .eq 8, 3) := by decide +kernel
theorem dX2_takesInSaying_59 : decode cX2_takesInSaying 59 = .ok (.iload_n 1, 1) := by decide +kernel
theorem dX2_takesInSaying_60 : decode cX2_takesInSaying 60 = .ok (.iload_n 2, 1) := by decide +kernel
theorem dX2_takesInSaying_61 : decode cX2_takesInSaying 61 = .ok (.if_icmp .eq 5, 3) := by decide +kernel
theorem dX2_takesInSaying_64 : decode cX2_takesInSaying 64 = .ok (.iconst 0, 1) := by decide +kernel
theorem dX2_takesInSaying_65 : decode cX2_takesInSaying 65 = .ok (.ireturn, 1) := by decide +kernel
theorem dX2_takesInSaying_66 : decode cX2_takesInSaying 66 = .ok (.aload_n 0, 1) := by decide +kernel
theorem dX2_takesInSaying_67 : decode cX2_takesInSaying 67 = .ok (.dup, 1) := by decide +kernel
theorem dX2_takesInSaying_68 : decode cX2_takesInSaying 68 = .ok (.getfield 9, 3) := by decide +kernel
theorem dX2_takesInSaying_71 : decode cX2_takesInSaying 71 = .ok (.iconst 1, 1) := by decide +kernel
theorem dX2_takesInSaying_72 : decode cX2_takesInSaying 72 = .ok (.iadd, 1) := by decide +kernel
theorem dX2_takesInSaying_73 : decode cX2_takesInSaying 73 = .ok (.putfield 9, 3) := by decide +kernel
theorem dX2_takesInSaying_76 : decode cX2_takesInSaying 76 = .ok (.aload_n 0, 1) := by decide +kernel
theorem dX2_takesInSaying_77 : decode cX2_takesInSaying 77 = .ok (.iconst 0, 1) := by decide +kernel
theorem dX2_takesInSaying_78 : decode cX2_takesInSaying 78 = .ok (.putfield 18, 3) := by decide +kernel
theorem dX2_takesInSaying_81 : decode cX2_takesInSaying 81 = .ok (.iconst 1, 1) := by decide +kernel
theorem dX2_takesInSaying_82 : decode cX2_takesInSaying 82 = .ok (.ireturn, 1) := by decide +kernel
theorem dX2_takesInTap_0 : decode cX2_takesInTap 0 = .ok (.aload_n 0, 1) := by decide +kernel
theorem dX2_takesInTap_1 : decode cX2_takesInTap 1 = .ok (.getfield 18, 3) := by decide +kernel
theorem dX2_takesInTap_4 : decode cX2_takesInTap 4 = .ok (.ifCond .ne 22, 3) := by decide +kernel
theorem dX2_takesInTap_7 : decode cX2_takesInTap 7 = .ok (.aload_n 0, 1) := by decide +kernel
theorem dX2_takesInTap_8 : decode cX2_takesInTap 8 = .ok (.iconst 1, 1) := by decide +kernel
theorem dX2_takesInTap_9 : decode cX2_takesInTap 9 = .ok (.putfield 18, 3) := by decide +kernel
theorem dX2_takesInTap_12 : decode cX2_takesInTap 12 = .ok (.iload_n 1, 1) := by decide +kernel
theorem dX2_takesInTap_13 : decode cX2_takesInTap 13 = .ok (.invokestatic 28, 3) := by decide +kernel
theorem dX2_takesInTap_16 : decode cX2_takesInTap 16 = .ok (.iconst (-1), 1) := by decide +kernel
theorem dX2_takesInTap_17 : decode cX2_takesInTap 17 = .ok (.if_icmp .eq 7, 3) := by decide +kernel
theorem dX2_takesInTap_20 : decode cX2_takesInTap 20 = .ok (.iconst 1, 1) := by decide +kernel
theorem dX2_takesInTap_21 : decode cX2_takesInTap 21 = .ok (.goto 4, 3) := by decide +kernel
theorem dX2_takesInTap_24 : decode cX2_takesInTap 24 = .ok (.iconst 0, 1) := by decide +kernel
theorem dX2_takesInTap_25 : decode cX2_takesInTap 25 = .ok (.ireturn, 1) := by decide +kernel
theorem dX2_takesInTap_26 : decode cX2_takesInTap 26 = .ok (.aload_n 0, 1) := by decide +kernel
theorem dX2_takesInTap_27 : decode cX2_takesInTap 27 = .ok (.getfield 18, 3) := by decide +kernel
theorem dX2_takesInTap_30 : decode cX2_takesInTap 30 = .ok (.iconst 1, 1) := by decide +kernel
theorem dX2_takesInTap_31 : decode cX2_takesInTap 31 = .ok (.if_icmp .ne 26, 3) := by decide +kernel
theorem dX2_takesInTap_34 : decode cX2_takesInTap 34 = .ok (.aload_n 0, 1) := by decide +kernel
theorem dX2_takesInTap_35 : decode cX2_takesInTap 35 = .ok (.iconst 2, 1) := by decide +kernel
theorem dX2_takesInTap_36 : decode cX2_takesInTap 36 = .ok (.putfield 18, 3) := by decide +kernel
theorem dX2_takesInTap_39 : decode cX2_takesInTap 39 = .ok (.aload_n 0, 1) := by decide +kernel
theorem dX2_takesInTap_40 : decode cX2_takesInTap 40 = .ok (.dup, 1) := by decide +kernel
theorem dX2_takesInTap_41 : decode cX2_takesInTap 41 = .ok (.getfield 15, 3) := by decide +kernel
theorem dX2_takesInTap_44 : decode cX2_takesInTap 44 = .ok (.iconst 1, 1) := by decide +kernel
theorem dX2_takesInTap_45 : decode cX2_takesInTap 45 = .ok (.iadd, 1) := by decide +kernel
theorem dX2_takesInTap_46 : decode cX2_takesInTap 46 = .ok (.putfield 15, 3) := by decide +kernel
theorem dX2_takesInTap_49 : decode cX2_takesInTap 49 = .ok (.iload_n 1, 1) := by decide +kernel
theorem dX2_takesInTap_50 : decode cX2_takesInTap 50 = .ok (.bipush 48, 2) := by decide +kernel
theorem dX2_takesInTap_52 : decode cX2_takesInTap 52 = .ok (.isub, 1) := by decide +kernel
theorem dX2_takesInTap_53 : decode cX2_takesInTap 53 = .ok (.invokestatic 32, 3) := by decide +kernel
theorem dX2_takesInTap_56 : decode cX2_takesInTap 56 = .ok (.ireturn, 1) := by decide +kernel
theorem dX2_takesInTap_57 : decode cX2_takesInTap 57 = .ok (.aload_n 0, 1) := by decide +kernel
theorem dX2_takesInTap_58 : decode cX2_takesInTap 58 = .ok (.iconst 0, 1) := by decide +kernel
theorem dX2_takesInTap_59 : decode cX2_takesInTap 59 = .ok (.putfield 18, 3) := by decide +kernel
theorem dX2_takesInTap_62 : decode cX2_takesInTap 62 = .ok (.iload_n 1, 1) := by decide +kernel
theorem dX2_takesInTap_63 : decode cX2_takesInTap 63 = .ok (.bipush 44, 2) := by decide +kernel
theorem dX2_takesInTap_65 : decode cX2_takesInTap 65 = .ok (.if_icmp .ne 15, 3) := by decide +kernel
theorem dX2_takesInTap_68 : decode cX2_takesInTap 68 = .ok (.aload_n 0, 1) := by decide +kernel
theorem dX2_takesInTap_69 : decode cX2_takesInTap 69 = .ok (.getfield 15, 3) := by decide +kernel
theorem dX2_takesInTap_72 : decode cX2_takesInTap 72 = .ok (.iconst 3, 1) := by decide +kernel
theorem dX2_takesInTap_73 : decode cX2_takesInTap 73 = .ok (.if_icmp .ge 7, 3) := by decide +kernel
theorem dX2_takesInTap_76 : decode cX2_takesInTap 76 = .ok (.iconst 1, 1) := by decide +kernel
theorem dX2_takesInTap_77 : decode cX2_takesInTap 77 = .ok (.goto 4, 3) := by decide +kernel
theorem dX2_takesInTap_80 : decode cX2_takesInTap 80 = .ok (.iconst 0, 1) := by decide +kernel
theorem dX2_takesInTap_81 : decode cX2_takesInTap 81 = .ok (.ireturn, 1) := by decide +kernel
theorem dX3_init_0 : decode cX3_init 0 = .ok (.aload_n 0, 1) := by decide +kernel
theorem dX3_init_1 : decode cX3_init 1 = .ok (.invokespecial 3, 3) := by decide +kernel
theorem dX3_init_4 : decode cX3_init 4 = .ok (.aload_n 0, 1) := by decide +kernel
theorem dX3_init_5 : decode cX3_init 5 = .ok (.iconst 5, 1) := by decide +kernel
theorem dX3_init_6 : decode cX3_init 6 = .ok (.anewarray 9, 3) := by decide +kernel
theorem dX3_init_9 : decode cX3_init 9 = .ok (.putfield 11, 3) := by decide +kernel
theorem dX3_init_12 : decode cX3_init 12 = .ok (.iconst 0, 1) := by decide +kernel
theorem dX3_init_13 : decode cX3_init 13 = .ok (.istore_n 1, 1) := by decide +kernel
theorem dX3_init_14 : decode cX3_init 14 = .ok (.iload_n 1, 1) := by decide +kernel
theorem dX3_init_15 : decode cX3_init 15 = .ok (.aload_n 0, 1) := by decide +kernel
theorem dX3_init_16 : decode cX3_init 16 = .ok (.getfield 11, 3) := by decide +kernel
theorem dX3_init_19 : decode cX3_init 19 = .ok (.arraylength, 1) := by decide +kernel
theorem dX3_init_20 : decode cX3_init 20 = .ok (.if_icmp .ge 23, 3) := by decide +kernel
theorem dX3_init_23 : decode cX3_init 23 = .ok (.aload_n 0, 1) := by decide +kernel
theorem dX3_init_24 : decode cX3_init 24 = .ok (.getfield 11, 3) := by decide +kernel
theorem dX3_init_27 : decode cX3_init 27 = .ok (.iload_n 1, 1) := by decide +kernel
theorem dX3_init_28 : decode cX3_init 28 = .ok (.new 9, 3) := by decide +kernel
theorem dX3_init_31 : decode cX3_init 31 = .ok (.dup, 1) := by decide +kernel
theorem dX3_init_32 : decode cX3_init 32 = .ok (.iload_n 1, 1) := by decide +kernel
theorem dX3_init_33 : decode cX3_init 33 = .ok (.invokespecial 17, 3) := by decide +kernel
theorem dX3_init_36 : decode cX3_init 36 = .ok (.aastore, 1) := by decide +kernel
theorem dX3_init_37 : decode cX3_init 37 = .ok (.iinc 1 1, 3) := by decide +kernel
theorem dX3_init_40 : decode cX3_init 40 = .ok (.goto (-26), 3) := by decide +kernel
theorem dX3_init_43 : decode cX3_init 43 = .ok (.aload_n 0, 1) := by decide +kernel
theorem dX3_init_44 : decode cX3_init 44 = .ok (.bipush 8, 2) := by decide +kernel
theorem dX3_init_46 : decode cX3_init 46 = .ok (.anewarray 20, 3) := by decide +kernel
theorem dX3_init_49 : decode cX3_init 49 = .ok (.putfield 22, 3) := by decide +kernel
theorem dX3_init_52 : decode cX3_init 52 = .ok (.iconst 0, 1) := by decide +kernel
theorem dX3_init_53 : decode cX3_init 53 = .ok (.istore_n 1, 1) := by decide +kernel
theorem dX3_init_54 : decode cX3_init 54 = .ok (.iload_n 1, 1) := by decide +kernel
theorem dX3_init_55 : decode cX3_init 55 = .ok (.aload_n 0, 1) := by decide +kernel
theorem dX3_init_56 : decode cX3_init 56 = .ok (.getfield 22, 3) := by decide +kernel
theorem dX3_init_59 : decode cX3_init 59 = .ok (.arraylength, 1) := by decide +kernel
theorem dX3_init_60 : decode cX3_init 60 = .ok (.if_icmp .ge 22, 3) := by decide +kernel
theorem dX3_init_63 : decode cX3_init 63 = .ok (.aload_n 0, 1) := by decide +kernel
theorem dX3_init_64 : decode cX3_init 64 = .ok (.getfield 22, 3) := by decide +kernel
theorem dX3_init_67 : decode cX3_init 67 = .ok (.iload_n 1, 1) := by decide +kernel
theorem dX3_init_68 : decode cX3_init 68 = .ok (.new 20, 3) := by decide +kernel
theorem dX3_init_71 : decode cX3_init 71 = .ok (.dup, 1) := by decide +kernel
theorem dX3_init_72 : decode cX3_init 72 = .ok (.invokespecial 26, 3) := by decide +kernel
theorem dX3_init_75 : decode cX3_init 75 = .ok (.aastore, 1) := by decide +kernel
theorem dX3_init_76 : decode cX3_init 76 = .ok (.iinc 1 1, 3) := by decide +kernel
theorem dX3_init_79 : decode cX3_init 79 = .ok (.goto (-25), 3) := by decide +kernel
theorem dX3_init_82 : decode cX3_init 82 = .ok (.return_, 1) := by decide +kernel
theorem dX3_clear_0 : decode cX3_clear 0 = .ok (.aload_n 0, 1) := by decide +kernel
theorem dX3_clear_1 : decode cX3_clear 1 = .ok (.iconst 0, 1) := by decide +kernel
theorem dX3_clear_2 : decode cX3_clear 2 = .ok (.putfield 27, 3) := by decide +kernel
theorem dX3_clear_5 : decode cX3_clear 5 = .ok (.aload_n 0, 1) := by decide +kernel
theorem dX3_clear_6 : decode cX3_clear 6 = .ok (.iconst 0, 1) := by decide +kernel
theorem dX3_clear_7 : decode cX3_clear 7 = .ok (.putfield 31, 3) := by decide +kernel
theorem dX3_clear_10 : decode cX3_clear 10 = .ok (.aload_n 0, 1) := by decide +kernel
theorem dX3_clear_11 : decode cX3_clear 11 = .ok (.iconst 0, 1) := by decide +kernel
theorem dX3_clear_12 : decode cX3_clear 12 = .ok (.putfield 34, 3) := by decide +kernel
theorem dX3_clear_15 : decode cX3_clear 15 = .ok (.return_, 1) := by decide +kernel
theorem dX3_tapAt_0 : decode cX3_tapAt 0 = .ok (.iload_n 1, 1) := by decide +kernel
theorem dX3_tapAt_1 : decode cX3_tapAt 1 = .ok (.ifCond .lt 29, 3) := by decide +kernel
theorem dX3_tapAt_4 : decode cX3_tapAt 4 = .ok (.iload_n 1, 1) := by decide +kernel
theorem dX3_tapAt_5 : decode cX3_tapAt 5 = .ok (.aload_n 0, 1) := by decide +kernel
theorem dX3_tapAt_6 : decode cX3_tapAt 6 = .ok (.getfield 27, 3) := by decide +kernel
theorem dX3_tapAt_9 : decode cX3_tapAt 9 = .ok (.if_icmp .ge 21, 3) := by decide +kernel
theorem dX3_tapAt_12 : decode cX3_tapAt 12 = .ok (.iload_n 1, 1) := by decide +kernel
theorem dX3_tapAt_13 : decode cX3_tapAt 13 = .ok (.aload_n 0, 1) := by decide +kernel
theorem dX3_tapAt_14 : decode cX3_tapAt 14 = .ok (.getfield 11, 3) := by decide +kernel
theorem dX3_tapAt_17 : decode cX3_tapAt 17 = .ok (.arraylength, 1) := by decide +kernel
theorem dX3_tapAt_18 : decode cX3_tapAt 18 = .ok (.if_icmp .ge 12, 3) := by decide +kernel
theorem dX3_tapAt_21 : decode cX3_tapAt 21 = .ok (.aload_n 0, 1) := by decide +kernel
theorem dX3_tapAt_22 : decode cX3_tapAt 22 = .ok (.getfield 11, 3) := by decide +kernel
theorem dX3_tapAt_25 : decode cX3_tapAt 25 = .ok (.iload_n 1, 1) := by decide +kernel
theorem dX3_tapAt_26 : decode cX3_tapAt 26 = .ok (.aaload, 1) := by decide +kernel
theorem dX3_tapAt_27 : decode cX3_tapAt 27 = .ok (.goto 4, 3) := by decide +kernel
theorem dX3_tapAt_30 : decode cX3_tapAt 30 = .ok (.aconst_null, 1) := by decide +kernel
theorem dX3_tapAt_31 : decode cX3_tapAt 31 = .ok (.areturn, 1) := by decide +kernel
theorem dX3_noteAt_0 : decode cX3_noteAt 0 = .ok (.iload_n 1, 1) := by decide +kernel
theorem dX3_noteAt_1 : decode cX3_noteAt 1 = .ok (.ifCond .lt 29, 3) := by decide +kernel
theorem dX3_noteAt_4 : decode cX3_noteAt 4 = .ok (.iload_n 1, 1) := by decide +kernel
theorem dX3_noteAt_5 : decode cX3_noteAt 5 = .ok (.aload_n 0, 1) := by decide +kernel
theorem dX3_noteAt_6 : decode cX3_noteAt 6 = .ok (.getfield 31, 3) := by decide +kernel
theorem dX3_noteAt_9 : decode cX3_noteAt 9 = .ok (.if_icmp .ge 21, 3) := by decide +kernel
theorem dX3_noteAt_12 : decode cX3_noteAt 12 = .ok (.iload_n 1, 1) := by decide +kernel
theorem dX3_noteAt_13 : decode cX3_noteAt 13 = .ok (.aload_n 0, 1) := by decide +kernel
theorem dX3_noteAt_14 : decode cX3_noteAt 14 = .ok (.getfield 22, 3) := by decide +kernel
theorem dX3_noteAt_17 : decode cX3_noteAt 17 = .ok (.arraylength, 1) := by decide +kernel
theorem dX3_noteAt_18 : decode cX3_noteAt 18 = .ok (.if_icmp .ge 12, 3) := by decide +kernel
theorem dX3_noteAt_21 : decode cX3_noteAt 21 = .ok (.aload_n 0, 1) := by decide +kernel
theorem dX3_noteAt_22 : decode cX3_noteAt 22 = .ok (.getfield 22, 3) := by decide +kernel
theorem dX3_noteAt_25 : decode cX3_noteAt 25 = .ok (.iload_n 1, 1) := by decide +kernel
theorem dX3_noteAt_26 : decode cX3_noteAt 26 = .ok (.aaload, 1) := by decide +kernel
theorem dX3_noteAt_27 : decode cX3_noteAt 27 = .ok (.goto 4, 3) := by decide +kernel
theorem dX3_noteAt_30 : decode cX3_noteAt 30 = .ok (.aconst_null, 1) := by decide +kernel
theorem dX3_noteAt_31 : decode cX3_noteAt 31 = .ok (.areturn, 1) := by decide +kernel
theorem dX3_addTap_0 : decode cX3_addTap 0 = .ok (.aload_n 0, 1) := by decide +kernel
theorem dX3_addTap_1 : decode cX3_addTap 1 = .ok (.getfield 27, 3) := by decide +kernel
theorem dX3_addTap_4 : decode cX3_addTap 4 = .ok (.iconst 5, 1) := by decide +kernel
theorem dX3_addTap_5 : decode cX3_addTap 5 = .ok (.if_icmp .lt 4, 3) := by decide +kernel
theorem dX3_addTap_8 : decode cX3_addTap 8 = .ok (.return_, 1) := by decide +kernel
theorem dX3_addTap_9 : decode cX3_addTap 9 = .ok (.aload_n 0, 1) := by decide +kernel
theorem dX3_addTap_10 : decode cX3_addTap 10 = .ok (.dup, 1) := by decide +kernel
theorem dX3_addTap_11 : decode cX3_addTap 11 = .ok (.getfield 27, 3) := by decide +kernel
theorem dX3_addTap_14 : decode cX3_addTap 14 = .ok (.iconst 1, 1) := by decide +kernel
theorem dX3_addTap_15 : decode cX3_addTap 15 = .ok (.iadd, 1) := by decide +kernel
theorem dX3_addTap_16 : decode cX3_addTap 16 = .ok (.putfield 27, 3) := by decide +kernel
theorem dX3_addTap_19 : decode cX3_addTap 19 = .ok (.aload_n 0, 1) := by decide +kernel
theorem dX3_addTap_20 : decode cX3_addTap 20 = .ok (.aload_n 0, 1) := by decide +kernel
theorem dX3_addTap_21 : decode cX3_addTap 21 = .ok (.getfield 27, 3) := by decide +kernel
theorem dX3_addTap_24 : decode cX3_addTap 24 = .ok (.iconst 1, 1) := by decide +kernel
theorem dX3_addTap_25 : decode cX3_addTap 25 = .ok (.isub, 1) := by decide +kernel
theorem dX3_addTap_26 : decode cX3_addTap 26 = .ok (.invokevirtual 37, 3) := by decide +kernel
theorem dX3_addTap_29 : decode cX3_addTap 29 = .ok (.astore_n 3, 1) := by decide +kernel
theorem dX3_addTap_30 : decode cX3_addTap 30 = .ok (.aload_n 3, 1) := by decide +kernel
theorem dX3_addTap_31 : decode cX3_addTap 31 = .ok (.ifnull 11, 3) := by decide +kernel
theorem dX3_addTap_34 : decode cX3_addTap 34 = .ok (.aload_n 3, 1) := by decide +kernel
theorem dX3_addTap_35 : decode cX3_addTap 35 = .ok (.iload_n 1, 1) := by decide +kernel
theorem dX3_addTap_36 : decode cX3_addTap 36 = .ok (.iload_n 2, 1) := by decide +kernel
theorem dX3_addTap_37 : decode cX3_addTap 37 = .ok (.iconst 0, 1) := by decide +kernel
theorem dX3_addTap_38 : decode cX3_addTap 38 = .ok (.iconst 0, 1) := by decide +kernel
theorem dX3_addTap_39 : decode cX3_addTap 39 = .ok (.invokevirtual 41, 3) := by decide +kernel
theorem dX3_addTap_42 : decode cX3_addTap 42 = .ok (.return_, 1) := by decide +kernel
theorem dX3_addNote_0 : decode cX3_addNote 0 = .ok (.aload_n 0, 1) := by decide +kernel
theorem dX3_addNote_1 : decode cX3_addNote 1 = .ok (.getfield 31, 3) := by decide +kernel
theorem dX3_addNote_4 : decode cX3_addNote 4 = .ok (.bipush 8, 2) := by decide +kernel
theorem dX3_addNote_6 : decode cX3_addNote 6 = .ok (.if_icmp .lt 4, 3) := by decide +kernel
theorem dX3_addNote_9 : decode cX3_addNote 9 = .ok (.return_, 1) := by decide +kernel
theorem dX3_addNote_10 : decode cX3_addNote 10 = .ok (.aload_n 0, 1) := by decide +kernel
theorem dX3_addNote_11 : decode cX3_addNote 11 = .ok (.dup, 1) := by decide +kernel
theorem dX3_addNote_12 : decode cX3_addNote 12 = .ok (.getfield 31, 3) := by decide +kernel
theorem dX3_addNote_15 : decode cX3_addNote 15 = .ok (.iconst 1, 1) := by decide +kernel
theorem dX3_addNote_16 : decode cX3_addNote 16 = .ok (.iadd, 1) := by decide +kernel
theorem dX3_addNote_17 : decode cX3_addNote 17 = .ok (.putfield 31, 3) := by decide +kernel
theorem dX3_addNote_20 : decode cX3_addNote 20 = .ok (.aload_n 0, 1) := by decide +kernel
theorem dX3_addNote_21 : decode cX3_addNote 21 = .ok (.aload_n 0, 1) := by decide +kernel
theorem dX3_addNote_22 : decode cX3_addNote 22 = .ok (.getfield 31, 3) := by decide +kernel
theorem dX3_addNote_25 : decode cX3_addNote 25 = .ok (.iconst 1, 1) := by decide +kernel
theorem dX3_addNote_26 : decode cX3_addNote 26 = .ok (.isub, 1) := by decide +kernel
theorem dX3_addNote_27 : decode cX3_addNote 27 = .ok (.invokevirtual 45, 3) := by decide +kernel
theorem dX3_addNote_30 : decode cX3_addNote 30 = .ok (.astore 4, 2) := by decide +kernel
theorem dX3_addNote_32 : decode cX3_addNote 32 = .ok (.aload 4, 2) := by decide +kernel
theorem dX3_addNote_34 : decode cX3_addNote 34 = .ok (.ifnull 18, 3) := by decide +kernel
theorem dX3_addNote_37 : decode cX3_addNote 37 = .ok (.aload 4, 2) := by decide +kernel
theorem dX3_addNote_39 : decode cX3_addNote 39 = .ok (.aload_n 1, 1) := by decide +kernel
theorem dX3_addNote_40 : decode cX3_addNote 40 = .ok (.getfield 49, 3) := by decide +kernel
theorem dX3_addNote_43 : decode cX3_addNote 43 = .ok (.iload_n 2, 1) := by decide +kernel
theorem dX3_addNote_44 : decode cX3_addNote 44 = .ok (.iload_n 3, 1) := by decide +kernel
theorem dX3_addNote_45 : decode cX3_addNote 45 = .ok (.aload_n 1, 1) := by decide +kernel
theorem dX3_addNote_46 : decode cX3_addNote 46 = .ok (.getfield 52, 3) := by decide +kernel
theorem dX3_addNote_49 : decode cX3_addNote 49 = .ok (.invokevirtual 55, 3) := by decide +kernel
theorem dX3_addNote_52 : decode cX3_addNote 52 = .ok (.return_, 1) := by decide +kernel
theorem dX3_copyFrom_0 : decode cX3_copyFrom 0 = .ok (.aload_n 0, 1) := by decide +kernel
theorem dX3_copyFrom_1 : decode cX3_copyFrom 1 = .ok (.aload_n 1, 1) := by decide +kernel
theorem dX3_copyFrom_2 : decode cX3_copyFrom 2 = .ok (.getfield 27, 3) := by decide +kernel
theorem dX3_copyFrom_5 : decode cX3_copyFrom 5 = .ok (.putfield 27, 3) := by decide +kernel
theorem dX3_copyFrom_8 : decode cX3_copyFrom 8 = .ok (.aload_n 0, 1) := by decide +kernel
theorem dX3_copyFrom_9 : decode cX3_copyFrom 9 = .ok (.aload_n 1, 1) := by decide +kernel
theorem dX3_copyFrom_10 : decode cX3_copyFrom 10 = .ok (.getfield 31, 3) := by decide +kernel
theorem dX3_copyFrom_13 : decode cX3_copyFrom 13 = .ok (.putfield 31, 3) := by decide +kernel
theorem dX3_copyFrom_16 : decode cX3_copyFrom 16 = .ok (.aload_n 0, 1) := by decide +kernel
theorem dX3_copyFrom_17 : decode cX3_copyFrom 17 = .ok (.aload_n 1, 1) := by decide +kernel
theorem dX3_copyFrom_18 : decode cX3_copyFrom 18 = .ok (.getfield 34, 3) := by decide +kernel
theorem dX3_copyFrom_21 : decode cX3_copyFrom 21 = .ok (.putfield 34, 3) := by decide +kernel
theorem dX3_copyFrom_24 : decode cX3_copyFrom 24 = .ok (.iconst 0, 1) := by decide +kernel
theorem dX3_copyFrom_25 : decode cX3_copyFrom 25 = .ok (.istore_n 2, 1) := by decide +kernel
theorem dX3_copyFrom_26 : decode cX3_copyFrom 26 = .ok (.iload_n 2, 1) := by decide +kernel
theorem dX3_copyFrom_27 : decode cX3_copyFrom 27 = .ok (.aload_n 0, 1) := by decide +kernel
theorem dX3_copyFrom_28 : decode cX3_copyFrom 28 = .ok (.getfield 27, 3) := by decide +kernel
theorem dX3_copyFrom_31 : decode cX3_copyFrom 31 = .ok (.if_icmp .ge 58, 3) := by decide +kernel
theorem dX3_copyFrom_34 : decode cX3_copyFrom 34 = .ok (.aload_n 0, 1) := by decide +kernel
theorem dX3_copyFrom_35 : decode cX3_copyFrom 35 = .ok (.iload_n 2, 1) := by decide +kernel
theorem dX3_copyFrom_36 : decode cX3_copyFrom 36 = .ok (.invokevirtual 37, 3) := by decide +kernel
theorem dX3_copyFrom_39 : decode cX3_copyFrom 39 = .ok (.astore_n 3, 1) := by decide +kernel
theorem dX3_copyFrom_40 : decode cX3_copyFrom 40 = .ok (.aload_n 1, 1) := by decide +kernel
theorem dX3_copyFrom_41 : decode cX3_copyFrom 41 = .ok (.iload_n 2, 1) := by decide +kernel
theorem dX3_copyFrom_42 : decode cX3_copyFrom 42 = .ok (.invokevirtual 37, 3) := by decide +kernel
theorem dX3_copyFrom_45 : decode cX3_copyFrom 45 = .ok (.astore 4, 2) := by decide +kernel
theorem dX3_copyFrom_47 : decode cX3_copyFrom 47 = .ok (.aload_n 3, 1) := by decide +kernel
theorem dX3_copyFrom_48 : decode cX3_copyFrom 48 = .ok (.ifnull 35, 3) := by decide +kernel
theorem dX3_copyFrom_51 : decode cX3_copyFrom 51 = .ok (.aload 4, 2) := by decide +kernel
theorem dX3_copyFrom_53 : decode cX3_copyFrom 53 = .ok (.ifnonnull 6, 3) := by decide +kernel
theorem dX3_copyFrom_56 : decode cX3_copyFrom 56 = .ok (.goto 27, 3) := by decide +kernel
theorem dX3_copyFrom_59 : decode cX3_copyFrom 59 = .ok (.aload_n 3, 1) := by decide +kernel
theorem dX3_copyFrom_60 : decode cX3_copyFrom 60 = .ok (.aload 4, 2) := by decide +kernel
theorem dX3_copyFrom_62 : decode cX3_copyFrom 62 = .ok (.getfield 56, 3) := by decide +kernel
theorem dX3_copyFrom_65 : decode cX3_copyFrom 65 = .ok (.aload 4, 2) := by decide +kernel
theorem dX3_copyFrom_67 : decode cX3_copyFrom 67 = .ok (.getfield 59, 3) := by decide +kernel
theorem dX3_copyFrom_70 : decode cX3_copyFrom 70 = .ok (.aload 4, 2) := by decide +kernel
theorem dX3_copyFrom_72 : decode cX3_copyFrom 72 = .ok (.getfield 52, 3) := by decide +kernel
theorem dX3_copyFrom_75 : decode cX3_copyFrom 75 = .ok (.aload 4, 2) := by decide +kernel
theorem dX3_copyFrom_77 : decode cX3_copyFrom 77 = .ok (.getfield 62, 3) := by decide +kernel
theorem dX3_copyFrom_80 : decode cX3_copyFrom 80 = .ok (.invokevirtual 41, 3) := by decide +kernel
theorem dX3_copyFrom_83 : decode cX3_copyFrom 83 = .ok (.iinc 2 1, 3) := by decide +kernel
theorem dX3_copyFrom_86 : decode cX3_copyFrom 86 = .ok (.goto (-60), 3) := by decide +kernel
theorem dX3_copyFrom_89 : decode cX3_copyFrom 89 = .ok (.iconst 0, 1) := by decide +kernel
theorem dX3_copyFrom_90 : decode cX3_copyFrom 90 = .ok (.istore_n 2, 1) := by decide +kernel
theorem dX3_copyFrom_91 : decode cX3_copyFrom 91 = .ok (.iload_n 2, 1) := by decide +kernel
theorem dX3_copyFrom_92 : decode cX3_copyFrom 92 = .ok (.aload_n 0, 1) := by decide +kernel
theorem dX3_copyFrom_93 : decode cX3_copyFrom 93 = .ok (.getfield 31, 3) := by decide +kernel
theorem dX3_copyFrom_96 : decode cX3_copyFrom 96 = .ok (.if_icmp .ge 58, 3) := by decide +kernel
theorem dX3_copyFrom_99 : decode cX3_copyFrom 99 = .ok (.aload_n 0, 1) := by decide +kernel
theorem dX3_copyFrom_100 : decode cX3_copyFrom 100 = .ok (.iload_n 2, 1) := by decide +kernel
theorem dX3_copyFrom_101 : decode cX3_copyFrom 101 = .ok (.invokevirtual 45, 3) := by decide +kernel
theorem dX3_copyFrom_104 : decode cX3_copyFrom 104 = .ok (.astore_n 3, 1) := by decide +kernel
theorem dX3_copyFrom_105 : decode cX3_copyFrom 105 = .ok (.aload_n 1, 1) := by decide +kernel
theorem dX3_copyFrom_106 : decode cX3_copyFrom 106 = .ok (.iload_n 2, 1) := by decide +kernel
theorem dX3_copyFrom_107 : decode cX3_copyFrom 107 = .ok (.invokevirtual 45, 3) := by decide +kernel
theorem dX3_copyFrom_110 : decode cX3_copyFrom 110 = .ok (.astore 4, 2) := by decide +kernel
theorem dX3_copyFrom_112 : decode cX3_copyFrom 112 = .ok (.aload_n 3, 1) := by decide +kernel
theorem dX3_copyFrom_113 : decode cX3_copyFrom 113 = .ok (.ifnull 35, 3) := by decide +kernel
theorem dX3_copyFrom_116 : decode cX3_copyFrom 116 = .ok (.aload 4, 2) := by decide +kernel
theorem dX3_copyFrom_118 : decode cX3_copyFrom 118 = .ok (.ifnonnull 6, 3) := by decide +kernel
theorem dX3_copyFrom_121 : decode cX3_copyFrom 121 = .ok (.goto 27, 3) := by decide +kernel
theorem dX3_copyFrom_124 : decode cX3_copyFrom 124 = .ok (.aload_n 3, 1) := by decide +kernel
theorem dX3_copyFrom_125 : decode cX3_copyFrom 125 = .ok (.aload 4, 2) := by decide +kernel
theorem dX3_copyFrom_127 : decode cX3_copyFrom 127 = .ok (.getfield 65, 3) := by decide +kernel
theorem dX3_copyFrom_130 : decode cX3_copyFrom 130 = .ok (.aload 4, 2) := by decide +kernel
theorem dX3_copyFrom_132 : decode cX3_copyFrom 132 = .ok (.getfield 68, 3) := by decide +kernel
theorem dX3_copyFrom_135 : decode cX3_copyFrom 135 = .ok (.aload 4, 2) := by decide +kernel
theorem dX3_copyFrom_137 : decode cX3_copyFrom 137 = .ok (.getfield 71, 3) := by decide +kernel
theorem dX3_copyFrom_140 : decode cX3_copyFrom 140 = .ok (.aload 4, 2) := by decide +kernel
theorem dX3_copyFrom_142 : decode cX3_copyFrom 142 = .ok (.getfield 74, 3) := by decide +kernel
theorem dX3_copyFrom_145 : decode cX3_copyFrom 145 = .ok (.invokevirtual 55, 3) := by decide +kernel
theorem dX3_copyFrom_148 : decode cX3_copyFrom 148 = .ok (.iinc 2 1, 3) := by decide +kernel
theorem dX3_copyFrom_151 : decode cX3_copyFrom 151 = .ok (.goto (-60), 3) := by decide +kernel
theorem dX3_copyFrom_154 : decode cX3_copyFrom 154 = .ok (.return_, 1) := by decide +kernel
theorem dX3_washerCount_0 : decode cX3_washerCount 0 = .ok (.iconst 0, 1) := by decide +kernel
theorem dX3_washerCount_1 : decode cX3_washerCount 1 = .ok (.istore_n 1, 1) := by decide +kernel
theorem dX3_washerCount_2 : decode cX3_washerCount 2 = .ok (.iconst 0, 1) := by decide +kernel
theorem dX3_washerCount_3 : decode cX3_washerCount 3 = .ok (.istore_n 2, 1) := by decide +kernel
theorem dX3_washerCount_4 : decode cX3_washerCount 4 = .ok (.iload_n 2, 1) := by decide +kernel
theorem dX3_washerCount_5 : decode cX3_washerCount 5 = .ok (.aload_n 0, 1) := by decide +kernel
theorem dX3_washerCount_6 : decode cX3_washerCount 6 = .ok (.getfield 27, 3) := by decide +kernel
theorem dX3_washerCount_9 : decode cX3_washerCount 9 = .ok (.if_icmp .ge 26, 3) := by decide +kernel
theorem dX3_washerCount_12 : decode cX3_washerCount 12 = .ok (.aload_n 0, 1) := by decide +kernel
theorem dX3_washerCount_13 : decode cX3_washerCount 13 = .ok (.iload_n 2, 1) := by decide +kernel
theorem dX3_washerCount_14 : decode cX3_washerCount 14 = .ok (.invokevirtual 37, 3) := by decide +kernel
theorem dX3_washerCount_17 : decode cX3_washerCount 17 = .ok (.astore_n 3, 1) := by decide +kernel
theorem dX3_washerCount_18 : decode cX3_washerCount 18 = .ok (.aload_n 3, 1) := by decide +kernel
theorem dX3_washerCount_19 : decode cX3_washerCount 19 = .ok (.ifnull 10, 3) := by decide +kernel
theorem dX3_washerCount_22 : decode cX3_washerCount 22 = .ok (.iload_n 1, 1) := by decide +kernel
theorem dX3_washerCount_23 : decode cX3_washerCount 23 = .ok (.aload_n 3, 1) := by decide +kernel
theorem dX3_washerCount_24 : decode cX3_washerCount 24 = .ok (.getfield 52, 3) := by decide +kernel
theorem dX3_washerCount_27 : decode cX3_washerCount 27 = .ok (.iadd, 1) := by decide +kernel
theorem dX3_washerCount_28 : decode cX3_washerCount 28 = .ok (.istore_n 1, 1) := by decide +kernel
theorem dX3_washerCount_29 : decode cX3_washerCount 29 = .ok (.iinc 2 1, 3) := by decide +kernel
theorem dX3_washerCount_32 : decode cX3_washerCount 32 = .ok (.goto (-28), 3) := by decide +kernel
theorem dX3_washerCount_35 : decode cX3_washerCount 35 = .ok (.iload_n 1, 1) := by decide +kernel
theorem dX3_washerCount_36 : decode cX3_washerCount 36 = .ok (.ireturn, 1) := by decide +kernel
theorem dX3_heardCount_0 : decode cX3_heardCount 0 = .ok (.iconst 0, 1) := by decide +kernel
theorem dX3_heardCount_1 : decode cX3_heardCount 1 = .ok (.istore_n 1, 1) := by decide +kernel
theorem dX3_heardCount_2 : decode cX3_heardCount 2 = .ok (.iconst 0, 1) := by decide +kernel
theorem dX3_heardCount_3 : decode cX3_heardCount 3 = .ok (.istore_n 2, 1) := by decide +kernel
theorem dX3_heardCount_4 : decode cX3_heardCount 4 = .ok (.iload_n 2, 1) := by decide +kernel
theorem dX3_heardCount_5 : decode cX3_heardCount 5 = .ok (.aload_n 0, 1) := by decide +kernel
theorem dX3_heardCount_6 : decode cX3_heardCount 6 = .ok (.getfield 27, 3) := by decide +kernel
theorem dX3_heardCount_9 : decode cX3_heardCount 9 = .ok (.if_icmp .ge 26, 3) := by decide +kernel
theorem dX3_heardCount_12 : decode cX3_heardCount 12 = .ok (.aload_n 0, 1) := by decide +kernel
theorem dX3_heardCount_13 : decode cX3_heardCount 13 = .ok (.iload_n 2, 1) := by decide +kernel
theorem dX3_heardCount_14 : decode cX3_heardCount 14 = .ok (.invokevirtual 37, 3) := by decide +kernel
theorem dX3_heardCount_17 : decode cX3_heardCount 17 = .ok (.astore_n 3, 1) := by decide +kernel
theorem dX3_heardCount_18 : decode cX3_heardCount 18 = .ok (.aload_n 3, 1) := by decide +kernel
theorem dX3_heardCount_19 : decode cX3_heardCount 19 = .ok (.ifnull 10, 3) := by decide +kernel
theorem dX3_heardCount_22 : decode cX3_heardCount 22 = .ok (.iload_n 1, 1) := by decide +kernel
theorem dX3_heardCount_23 : decode cX3_heardCount 23 = .ok (.aload_n 3, 1) := by decide +kernel
theorem dX3_heardCount_24 : decode cX3_heardCount 24 = .ok (.getfield 62, 3) := by decide +kernel
theorem dX3_heardCount_27 : decode cX3_heardCount 27 = .ok (.iadd, 1) := by decide +kernel
theorem dX3_heardCount_28 : decode cX3_heardCount 28 = .ok (.istore_n 1, 1) := by decide +kernel
theorem dX3_heardCount_29 : decode cX3_heardCount 29 = .ok (.iinc 2 1, 3) := by decide +kernel
theorem dX3_heardCount_32 : decode cX3_heardCount 32 = .ok (.goto (-28), 3) := by decide +kernel
theorem dX3_heardCount_35 : decode cX3_heardCount 35 = .ok (.iload_n 1, 1) := by decide +kernel
theorem dX3_heardCount_36 : decode cX3_heardCount 36 = .ok (.ireturn, 1) := by decide +kernel
theorem dX4_init_0 : decode cX4_init 0 = .ok (.aload_n 0, 1) := by decide +kernel
theorem dX4_init_1 : decode cX4_init 1 = .ok (.invokespecial 3, 3) := by decide +kernel
theorem dX4_init_4 : decode cX4_init 4 = .ok (.aload_n 0, 1) := by decide +kernel
theorem dX4_init_5 : decode cX4_init 5 = .ok (.bipush 16, 2) := by decide +kernel
theorem dX4_init_7 : decode cX4_init 7 = .ok (.newarray .int, 2) := by decide +kernel
theorem dX4_init_9 : decode cX4_init 9 = .ok (.putfield 9, 3) := by decide +kernel
theorem dX4_init_12 : decode cX4_init 12 = .ok (.aload_n 0, 1) := by decide +kernel
theorem dX4_init_13 : decode cX4_init 13 = .ok (.iconst 4, 1) := by decide +kernel
theorem dX4_init_14 : decode cX4_init 14 = .ok (.newarray .int, 2) := by decide +kernel
theorem dX4_init_16 : decode cX4_init 16 = .ok (.putfield 15, 3) := by decide +kernel
theorem dX4_init_19 : decode cX4_init 19 = .ok (.return_, 1) := by decide +kernel
theorem dX4_clear_0 : decode cX4_clear 0 = .ok (.iconst 0, 1) := by decide +kernel
theorem dX4_clear_1 : decode cX4_clear 1 = .ok (.istore_n 1, 1) := by decide +kernel
theorem dX4_clear_2 : decode cX4_clear 2 = .ok (.iload_n 1, 1) := by decide +kernel
theorem dX4_clear_3 : decode cX4_clear 3 = .ok (.aload_n 0, 1) := by decide +kernel
theorem dX4_clear_4 : decode cX4_clear 4 = .ok (.getfield 9, 3) := by decide +kernel
theorem dX4_clear_7 : decode cX4_clear 7 = .ok (.arraylength, 1) := by decide +kernel
theorem dX4_clear_8 : decode cX4_clear 8 = .ok (.if_icmp .ge 16, 3) := by decide +kernel
theorem dX4_clear_11 : decode cX4_clear 11 = .ok (.aload_n 0, 1) := by decide +kernel
theorem dX4_clear_12 : decode cX4_clear 12 = .ok (.getfield 9, 3) := by decide +kernel
theorem dX4_clear_15 : decode cX4_clear 15 = .ok (.iload_n 1, 1) := by decide +kernel
theorem dX4_clear_16 : decode cX4_clear 16 = .ok (.iconst (-1), 1) := by decide +kernel
theorem dX4_clear_17 : decode cX4_clear 17 = .ok (.iastore, 1) := by decide +kernel
theorem dX4_clear_18 : decode cX4_clear 18 = .ok (.iinc 1 1, 3) := by decide +kernel
theorem dX4_clear_21 : decode cX4_clear 21 = .ok (.goto (-19), 3) := by decide +kernel
theorem dX4_clear_24 : decode cX4_clear 24 = .ok (.iconst 0, 1) := by decide +kernel
theorem dX4_clear_25 : decode cX4_clear 25 = .ok (.istore_n 1, 1) := by decide +kernel
theorem dX4_clear_26 : decode cX4_clear 26 = .ok (.iload_n 1, 1) := by decide +kernel
theorem dX4_clear_27 : decode cX4_clear 27 = .ok (.aload_n 0, 1) := by decide +kernel
theorem dX4_clear_28 : decode cX4_clear 28 = .ok (.getfield 15, 3) := by decide +kernel
theorem dX4_clear_31 : decode cX4_clear 31 = .ok (.arraylength, 1) := by decide +kernel
theorem dX4_clear_32 : decode cX4_clear 32 = .ok (.if_icmp .ge 16, 3) := by decide +kernel
theorem dX4_clear_35 : decode cX4_clear 35 = .ok (.aload_n 0, 1) := by decide +kernel
theorem dX4_clear_36 : decode cX4_clear 36 = .ok (.getfield 15, 3) := by decide +kernel
theorem dX4_clear_39 : decode cX4_clear 39 = .ok (.iload_n 1, 1) := by decide +kernel
theorem dX4_clear_40 : decode cX4_clear 40 = .ok (.iconst 0, 1) := by decide +kernel
theorem dX4_clear_41 : decode cX4_clear 41 = .ok (.iastore, 1) := by decide +kernel
theorem dX4_clear_42 : decode cX4_clear 42 = .ok (.iinc 1 1, 3) := by decide +kernel
theorem dX4_clear_45 : decode cX4_clear 45 = .ok (.goto (-19), 3) := by decide +kernel
theorem dX4_clear_48 : decode cX4_clear 48 = .ok (.return_, 1) := by decide +kernel
theorem dX4_addBeat_0 : decode cX4_addBeat 0 = .ok (.iload_n 1, 1) := by decide +kernel
theorem dX4_addBeat_1 : decode cX4_addBeat 1 = .ok (.ifCond .lt 12, 3) := by decide +kernel
theorem dX4_addBeat_4 : decode cX4_addBeat 4 = .ok (.iload_n 1, 1) := by decide +kernel
theorem dX4_addBeat_5 : decode cX4_addBeat 5 = .ok (.aload_n 0, 1) := by decide +kernel
theorem dX4_addBeat_6 : decode cX4_addBeat 6 = .ok (.getfield 15, 3) := by decide +kernel
theorem dX4_addBeat_9 : decode cX4_addBeat 9 = .ok (.arraylength, 1) := by decide +kernel
theorem dX4_addBeat_10 : decode cX4_addBeat 10 = .ok (.if_icmp .lt 4, 3) := by decide +kernel
theorem dX4_addBeat_13 : decode cX4_addBeat 13 = .ok (.return_, 1) := by decide +kernel
theorem dX4_addBeat_14 : decode cX4_addBeat 14 = .ok (.iload_n 1, 1) := by decide +kernel
theorem dX4_addBeat_15 : decode cX4_addBeat 15 = .ok (.iconst 4, 1) := by decide +kernel
theorem dX4_addBeat_16 : decode cX4_addBeat 16 = .ok (.imul, 1) := by decide +kernel
theorem dX4_addBeat_17 : decode cX4_addBeat 17 = .ok (.aload_n 0, 1) := by decide +kernel
theorem dX4_addBeat_18 : decode cX4_addBeat 18 = .ok (.getfield 15, 3) := by decide +kernel
theorem dX4_addBeat_21 : decode cX4_addBeat 21 = .ok (.iload_n 1, 1) := by decide +kernel
theorem dX4_addBeat_22 : decode cX4_addBeat 22 = .ok (.iaload, 1) := by decide +kernel
theorem dX4_addBeat_23 : decode cX4_addBeat 23 = .ok (.iadd, 1) := by decide +kernel
theorem dX4_addBeat_24 : decode cX4_addBeat 24 = .ok (.istore_n 3, 1) := by decide +kernel
theorem dX4_addBeat_25 : decode cX4_addBeat 25 = .ok (.aload_n 0, 1) := by decide +kernel
theorem dX4_addBeat_26 : decode cX4_addBeat 26 = .ok (.getfield 15, 3) := by decide +kernel
theorem dX4_addBeat_29 : decode cX4_addBeat 29 = .ok (.iload_n 1, 1) := by decide +kernel
theorem dX4_addBeat_30 : decode cX4_addBeat 30 = .ok (.iaload, 1) := by decide +kernel
theorem dX4_addBeat_31 : decode cX4_addBeat 31 = .ok (.iconst 4, 1) := by decide +kernel
theorem dX4_addBeat_32 : decode cX4_addBeat 32 = .ok (.if_icmp .ge 16, 3) := by decide +kernel
theorem dX4_addBeat_35 : decode cX4_addBeat 35 = .ok (.iload_n 3, 1) := by decide +kernel
theorem dX4_addBeat_36 : decode cX4_addBeat 36 = .ok (.ifCond .lt 12, 3) := by decide +kernel
theorem dX4_addBeat_39 : decode cX4_addBeat 39 = .ok (.iload_n 3, 1) := by decide +kernel
theorem dX4_addBeat_40 : decode cX4_addBeat 40 = .ok (.aload_n 0, 1) := by decide +kernel
theorem dX4_addBeat_41 : decode cX4_addBeat 41 = .ok (.getfield 9, 3) := by decide +kernel
theorem dX4_addBeat_44 : decode cX4_addBeat 44 = .ok (.arraylength, 1) := by decide +kernel
theorem dX4_addBeat_45 : decode cX4_addBeat 45 = .ok (.if_icmp .lt 4, 3) := by decide +kernel
theorem dX4_addBeat_48 : decode cX4_addBeat 48 = .ok (.return_, 1) := by decide +kernel
theorem dX4_addBeat_49 : decode cX4_addBeat 49 = .ok (.aload_n 0, 1) := by decide +kernel
theorem dX4_addBeat_50 : decode cX4_addBeat 50 = .ok (.getfield 9, 3) := by decide +kernel
theorem dX4_addBeat_53 : decode cX4_addBeat 53 = .ok (.iload_n 3, 1) := by decide +kernel
theorem dX4_addBeat_54 : decode cX4_addBeat 54 = .ok (.iload_n 2, 1) := by decide +kernel
theorem dX4_addBeat_55 : decode cX4_addBeat 55 = .ok (.iastore, 1) := by decide +kernel
theorem dX4_addBeat_56 : decode cX4_addBeat 56 = .ok (.aload_n 0, 1) := by decide +kernel
theorem dX4_addBeat_57 : decode cX4_addBeat 57 = .ok (.getfield 15, 3) := by decide +kernel
theorem dX4_addBeat_60 : decode cX4_addBeat 60 = .ok (.iload_n 1, 1) := by decide +kernel
theorem dX4_addBeat_61 : decode cX4_addBeat 61 = .ok (.dup2, 1) := by decide +kernel
theorem dX4_addBeat_62 : decode cX4_addBeat 62 = .ok (.iaload, 1) := by decide +kernel
theorem dX4_addBeat_63 : decode cX4_addBeat 63 = .ok (.iconst 1, 1) := by decide +kernel
theorem dX4_addBeat_64 : decode cX4_addBeat 64 = .ok (.iadd, 1) := by decide +kernel
theorem dX4_addBeat_65 : decode cX4_addBeat 65 = .ok (.iastore, 1) := by decide +kernel
theorem dX4_addBeat_66 : decode cX4_addBeat 66 = .ok (.return_, 1) := by decide +kernel
theorem dX4_lengthOf_0 : decode cX4_lengthOf 0 = .ok (.iload_n 1, 1) := by decide +kernel
theorem dX4_lengthOf_1 : decode cX4_lengthOf 1 = .ok (.ifCond .lt 21, 3) := by decide +kernel
theorem dX4_lengthOf_4 : decode cX4_lengthOf 4 = .ok (.iload_n 1, 1) := by decide +kernel
theorem dX4_lengthOf_5 : decode cX4_lengthOf 5 = .ok (.aload_n 0, 1) := by decide +kernel
theorem dX4_lengthOf_6 : decode cX4_lengthOf 6 = .ok (.getfield 15, 3) := by decide +kernel
theorem dX4_lengthOf_9 : decode cX4_lengthOf 9 = .ok (.arraylength, 1) := by decide +kernel
theorem dX4_lengthOf_10 : decode cX4_lengthOf 10 = .ok (.if_icmp .ge 12, 3) := by decide +kernel
theorem dX4_lengthOf_13 : decode cX4_lengthOf 13 = .ok (.aload_n 0, 1) := by decide +kernel
theorem dX4_lengthOf_14 : decode cX4_lengthOf 14 = .ok (.getfield 15, 3) := by decide +kernel
theorem dX4_lengthOf_17 : decode cX4_lengthOf 17 = .ok (.iload_n 1, 1) := by decide +kernel
theorem dX4_lengthOf_18 : decode cX4_lengthOf 18 = .ok (.iaload, 1) := by decide +kernel
theorem dX4_lengthOf_19 : decode cX4_lengthOf 19 = .ok (.goto 4, 3) := by decide +kernel
theorem dX4_lengthOf_22 : decode cX4_lengthOf 22 = .ok (.iconst 0, 1) := by decide +kernel
theorem dX4_lengthOf_23 : decode cX4_lengthOf 23 = .ok (.ireturn, 1) := by decide +kernel
theorem dX4_beatOf_0 : decode cX4_beatOf 0 = .ok (.iload_n 1, 1) := by decide +kernel
theorem dX4_beatOf_1 : decode cX4_beatOf 1 = .ok (.ifCond .lt 17, 3) := by decide +kernel
theorem dX4_beatOf_4 : decode cX4_beatOf 4 = .ok (.iload_n 1, 1) := by decide +kernel
theorem dX4_beatOf_5 : decode cX4_beatOf 5 = .ok (.iconst 4, 1) := by decide +kernel
theorem dX4_beatOf_6 : decode cX4_beatOf 6 = .ok (.if_icmp .ge 12, 3) := by decide +kernel
theorem dX4_beatOf_9 : decode cX4_beatOf 9 = .ok (.iload_n 2, 1) := by decide +kernel
theorem dX4_beatOf_10 : decode cX4_beatOf 10 = .ok (.ifCond .lt 8, 3) := by decide +kernel
theorem dX4_beatOf_13 : decode cX4_beatOf 13 = .ok (.iload_n 2, 1) := by decide +kernel
theorem dX4_beatOf_14 : decode cX4_beatOf 14 = .ok (.iconst 4, 1) := by decide +kernel
theorem dX4_beatOf_15 : decode cX4_beatOf 15 = .ok (.if_icmp .lt 5, 3) := by decide +kernel
theorem dX4_beatOf_18 : decode cX4_beatOf 18 = .ok (.iconst (-1), 1) := by decide +kernel
theorem dX4_beatOf_19 : decode cX4_beatOf 19 = .ok (.ireturn, 1) := by decide +kernel
theorem dX4_beatOf_20 : decode cX4_beatOf 20 = .ok (.iload_n 1, 1) := by decide +kernel
theorem dX4_beatOf_21 : decode cX4_beatOf 21 = .ok (.iconst 4, 1) := by decide +kernel
theorem dX4_beatOf_22 : decode cX4_beatOf 22 = .ok (.imul, 1) := by decide +kernel
theorem dX4_beatOf_23 : decode cX4_beatOf 23 = .ok (.iload_n 2, 1) := by decide +kernel
theorem dX4_beatOf_24 : decode cX4_beatOf 24 = .ok (.iadd, 1) := by decide +kernel
theorem dX4_beatOf_25 : decode cX4_beatOf 25 = .ok (.istore_n 3, 1) := by decide +kernel
theorem dX4_beatOf_26 : decode cX4_beatOf 26 = .ok (.iload_n 3, 1) := by decide +kernel
theorem dX4_beatOf_27 : decode cX4_beatOf 27 = .ok (.aload_n 0, 1) := by decide +kernel
theorem dX4_beatOf_28 : decode cX4_beatOf 28 = .ok (.getfield 9, 3) := by decide +kernel
theorem dX4_beatOf_31 : decode cX4_beatOf 31 = .ok (.arraylength, 1) := by decide +kernel
theorem dX4_beatOf_32 : decode cX4_beatOf 32 = .ok (.if_icmp .ge 12, 3) := by decide +kernel
theorem dX4_beatOf_35 : decode cX4_beatOf 35 = .ok (.aload_n 0, 1) := by decide +kernel
theorem dX4_beatOf_36 : decode cX4_beatOf 36 = .ok (.getfield 9, 3) := by decide +kernel
theorem dX4_beatOf_39 : decode cX4_beatOf 39 = .ok (.iload_n 3, 1) := by decide +kernel
theorem dX4_beatOf_40 : decode cX4_beatOf 40 = .ok (.iaload, 1) := by decide +kernel
theorem dX4_beatOf_41 : decode cX4_beatOf 41 = .ok (.goto 4, 3) := by decide +kernel
theorem dX4_beatOf_44 : decode cX4_beatOf 44 = .ok (.iconst (-1), 1) := by decide +kernel
theorem dX4_beatOf_45 : decode cX4_beatOf 45 = .ok (.ireturn, 1) := by decide +kernel
theorem dX4_beatCount_0 : decode cX4_beatCount 0 = .ok (.iconst 0, 1) := by decide +kernel
theorem dX4_beatCount_1 : decode cX4_beatCount 1 = .ok (.istore_n 1, 1) := by decide +kernel
theorem dX4_beatCount_2 : decode cX4_beatCount 2 = .ok (.iconst 0, 1) := by decide +kernel
theorem dX4_beatCount_3 : decode cX4_beatCount 3 = .ok (.istore_n 2, 1) := by decide +kernel
theorem dX4_beatCount_4 : decode cX4_beatCount 4 = .ok (.iload_n 2, 1) := by decide +kernel
theorem dX4_beatCount_5 : decode cX4_beatCount 5 = .ok (.aload_n 0, 1) := by decide +kernel
theorem dX4_beatCount_6 : decode cX4_beatCount 6 = .ok (.getfield 15, 3) := by decide +kernel
theorem dX4_beatCount_9 : decode cX4_beatCount 9 = .ok (.arraylength, 1) := by decide +kernel
theorem dX4_beatCount_10 : decode cX4_beatCount 10 = .ok (.if_icmp .ge 18, 3) := by decide +kernel
theorem dX4_beatCount_13 : decode cX4_beatCount 13 = .ok (.iload_n 1, 1) := by decide +kernel
theorem dX4_beatCount_14 : decode cX4_beatCount 14 = .ok (.aload_n 0, 1) := by decide +kernel
theorem dX4_beatCount_15 : decode cX4_beatCount 15 = .ok (.getfield 15, 3) := by decide +kernel
theorem dX4_beatCount_18 : decode cX4_beatCount 18 = .ok (.iload_n 2, 1) := by decide +kernel
theorem dX4_beatCount_19 : decode cX4_beatCount 19 = .ok (.iaload, 1) := by decide +kernel
theorem dX4_beatCount_20 : decode cX4_beatCount 20 = .ok (.iadd, 1) := by decide +kernel
theorem dX4_beatCount_21 : decode cX4_beatCount 21 = .ok (.istore_n 1, 1) := by decide +kernel
theorem dX4_beatCount_22 : decode cX4_beatCount 22 = .ok (.iinc 2 1, 3) := by decide +kernel
theorem dX4_beatCount_25 : decode cX4_beatCount 25 = .ok (.goto (-21), 3) := by decide +kernel
theorem dX4_beatCount_28 : decode cX4_beatCount 28 = .ok (.iload_n 1, 1) := by decide +kernel
theorem dX4_beatCount_29 : decode cX4_beatCount 29 = .ok (.ireturn, 1) := by decide +kernel
theorem dX4_dripBy_0 : decode cX4_dripBy 0 = .ok (.aload_n 0, 1) := by decide +kernel
theorem dX4_dripBy_1 : decode cX4_dripBy 1 = .ok (.iload_n 2, 1) := by decide +kernel
theorem dX4_dripBy_2 : decode cX4_dripBy 2 = .ok (.invokevirtual 18, 3) := by decide +kernel
theorem dX4_dripBy_5 : decode cX4_dripBy 5 = .ok (.istore 5, 2) := by decide +kernel
theorem dX4_dripBy_7 : decode cX4_dripBy 7 = .ok (.iload 5, 2) := by decide +kernel
theorem dX4_dripBy_9 : decode cX4_dripBy 9 = .ok (.iconst 1, 1) := by decide +kernel
theorem dX4_dripBy_10 : decode cX4_dripBy 10 = .ok (.if_icmp .lt 8, 3) := by decide +kernel
theorem dX4_dripBy_13 : decode cX4_dripBy 13 = .ok (.iload 4, 2) := by decide +kernel
theorem dX4_dripBy_15 : decode cX4_dripBy 15 = .ok (.ifCond .ge 5, 3) := by decide +kernel
theorem dX4_dripBy_18 : decode cX4_dripBy 18 = .ok (.iconst 0, 1) := by decide +kernel
theorem dX4_dripBy_19 : decode cX4_dripBy 19 = .ok (.ireturn, 1) := by decide +kernel
theorem dX4_dripBy_20 : decode cX4_dripBy 20 = .ok (.iload 4, 2) := by decide +kernel
theorem dX4_dripBy_22 : decode cX4_dripBy 22 = .ok (.iload 5, 2) := by decide +kernel
theorem dX4_dripBy_24 : decode cX4_dripBy 24 = .ok (.irem, 1) := by decide +kernel
theorem dX4_dripBy_25 : decode cX4_dripBy 25 = .ok (.istore 6, 2) := by decide +kernel
theorem dX4_dripBy_27 : decode cX4_dripBy 27 = .ok (.iload 5, 2) := by decide +kernel
theorem dX4_dripBy_29 : decode cX4_dripBy 29 = .ok (.iconst 1, 1) := by decide +kernel
theorem dX4_dripBy_30 : decode cX4_dripBy 30 = .ok (.isub, 1) := by decide +kernel
theorem dX4_dripBy_31 : decode cX4_dripBy 31 = .ok (.iload 6, 2) := by decide +kernel
theorem dX4_dripBy_33 : decode cX4_dripBy 33 = .ok (.isub, 1) := by decide +kernel
theorem dX4_dripBy_34 : decode cX4_dripBy 34 = .ok (.istore 7, 2) := by decide +kernel
theorem dX4_dripBy_36 : decode cX4_dripBy 36 = .ok (.iload_n 1, 1) := by decide +kernel
theorem dX4_dripBy_37 : decode cX4_dripBy 37 = .ok (.tableswitch 94 1 4 #[31, 41, 63, 82], 31) := by decide +kernel
theorem dX4_dripBy_68 : decode cX4_dripBy 68 = .ok (.aload_n 0, 1) := by decide +kernel
theorem dX4_dripBy_69 : decode cX4_dripBy 69 = .ok (.iload_n 2, 1) := by decide +kernel
theorem dX4_dripBy_70 : decode cX4_dripBy 70 = .ok (.iload 7, 2) := by decide +kernel
theorem dX4_dripBy_72 : decode cX4_dripBy 72 = .ok (.invokevirtual 22, 3) := by decide +kernel
theorem dX4_dripBy_75 : decode cX4_dripBy 75 = .ok (.iload_n 3, 1) := by decide +kernel
theorem dX4_dripBy_76 : decode cX4_dripBy 76 = .ok (.ixor, 1) := by decide +kernel
theorem dX4_dripBy_77 : decode cX4_dripBy 77 = .ok (.ireturn, 1) := by decide +kernel
theorem dX4_dripBy_78 : decode cX4_dripBy 78 = .ok (.iload 4, 2) := by decide +kernel
theorem dX4_dripBy_80 : decode cX4_dripBy 80 = .ok (.iconst 2, 1) := by decide +kernel
theorem dX4_dripBy_81 : decode cX4_dripBy 81 = .ok (.irem, 1) := by decide +kernel
theorem dX4_dripBy_82 : decode cX4_dripBy 82 = .ok (.iconst 1, 1) := by decide +kernel
theorem dX4_dripBy_83 : decode cX4_dripBy 83 = .ok (.if_icmp .ne 7, 3) := by decide +kernel
theorem dX4_dripBy_86 : decode cX4_dripBy 86 = .ok (.iconst 0, 1) := by decide +kernel
theorem dX4_dripBy_87 : decode cX4_dripBy 87 = .ok (.goto 10, 3) := by decide +kernel
theorem dX4_dripBy_90 : decode cX4_dripBy 90 = .ok (.aload_n 0, 1) := by decide +kernel
theorem dX4_dripBy_91 : decode cX4_dripBy 91 = .ok (.iload_n 2, 1) := by decide +kernel
theorem dX4_dripBy_92 : decode cX4_dripBy 92 = .ok (.iload 6, 2) := by decide +kernel
theorem dX4_dripBy_94 : decode cX4_dripBy 94 = .ok (.invokevirtual 22, 3) := by decide +kernel
theorem dX4_dripBy_97 : decode cX4_dripBy 97 = .ok (.iload_n 3, 1) := by decide +kernel
theorem dX4_dripBy_98 : decode cX4_dripBy 98 = .ok (.ixor, 1) := by decide +kernel
theorem dX4_dripBy_99 : decode cX4_dripBy 99 = .ok (.ireturn, 1) := by decide +kernel
theorem dX4_dripBy_100 : decode cX4_dripBy 100 = .ok (.iload 6, 2) := by decide +kernel
theorem dX4_dripBy_102 : decode cX4_dripBy 102 = .ok (.ifCond .ne 7, 3) := by decide +kernel
theorem dX4_dripBy_105 : decode cX4_dripBy 105 = .ok (.iconst 1, 1) := by decide +kernel
theorem dX4_dripBy_106 : decode cX4_dripBy 106 = .ok (.goto 10, 3) := by decide +kernel
theorem dX4_dripBy_109 : decode cX4_dripBy 109 = .ok (.aload_n 0, 1) := by decide +kernel
theorem dX4_dripBy_110 : decode cX4_dripBy 110 = .ok (.iload_n 2, 1) := by decide +kernel
theorem dX4_dripBy_111 : decode cX4_dripBy 111 = .ok (.iload 6, 2) := by decide +kernel
theorem dX4_dripBy_113 : decode cX4_dripBy 113 = .ok (.invokevirtual 22, 3) := by decide +kernel
theorem dX4_dripBy_116 : decode cX4_dripBy 116 = .ok (.iload_n 3, 1) := by decide +kernel
theorem dX4_dripBy_117 : decode cX4_dripBy 117 = .ok (.ixor, 1) := by decide +kernel
theorem dX4_dripBy_118 : decode cX4_dripBy 118 = .ok (.ireturn, 1) := by decide +kernel
theorem dX4_dripBy_119 : decode cX4_dripBy 119 = .ok (.aload_n 0, 1) := by decide +kernel
theorem dX4_dripBy_120 : decode cX4_dripBy 120 = .ok (.iload_n 2, 1) := by decide +kernel
theorem dX4_dripBy_121 : decode cX4_dripBy 121 = .ok (.iload 7, 2) := by decide +kernel
theorem dX4_dripBy_123 : decode cX4_dripBy 123 = .ok (.invokevirtual 22, 3) := by decide +kernel
theorem dX4_dripBy_126 : decode cX4_dripBy 126 = .ok (.iconst 1, 1) := by decide +kernel
theorem dX4_dripBy_127 : decode cX4_dripBy 127 = .ok (.ixor, 1) := by decide +kernel
theorem dX4_dripBy_128 : decode cX4_dripBy 128 = .ok (.iload_n 3, 1) := by decide +kernel
theorem dX4_dripBy_129 : decode cX4_dripBy 129 = .ok (.ixor, 1) := by decide +kernel
theorem dX4_dripBy_130 : decode cX4_dripBy 130 = .ok (.ireturn, 1) := by decide +kernel
theorem dX4_dripBy_131 : decode cX4_dripBy 131 = .ok (.aload_n 0, 1) := by decide +kernel
theorem dX4_dripBy_132 : decode cX4_dripBy 132 = .ok (.iload_n 2, 1) := by decide +kernel
theorem dX4_dripBy_133 : decode cX4_dripBy 133 = .ok (.iload 6, 2) := by decide +kernel
theorem dX4_dripBy_135 : decode cX4_dripBy 135 = .ok (.invokevirtual 22, 3) := by decide +kernel
theorem dX4_dripBy_138 : decode cX4_dripBy 138 = .ok (.iload_n 3, 1) := by decide +kernel
theorem dX4_dripBy_139 : decode cX4_dripBy 139 = .ok (.ixor, 1) := by decide +kernel
theorem dX4_dripBy_140 : decode cX4_dripBy 140 = .ok (.ireturn, 1) := by decide +kernel
theorem dX5_init_0 : decode cX5_init 0 = .ok (.aload_n 0, 1) := by decide +kernel
theorem dX5_init_1 : decode cX5_init 1 = .ok (.invokespecial 1, 3) := by decide +kernel
theorem dX5_init_4 : decode cX5_init 4 = .ok (.aload_n 0, 1) := by decide +kernel
theorem dX5_init_5 : decode cX5_init 5 = .ok (.iload_n 1, 1) := by decide +kernel
theorem dX5_init_6 : decode cX5_init 6 = .ok (.putfield 7, 3) := by decide +kernel
theorem dX5_init_9 : decode cX5_init 9 = .ok (.return_, 1) := by decide +kernel
theorem dX5_become_0 : decode cX5_become 0 = .ok (.aload_n 0, 1) := by decide +kernel
theorem dX5_become_1 : decode cX5_become 1 = .ok (.iload_n 1, 1) := by decide +kernel
theorem dX5_become_2 : decode cX5_become 2 = .ok (.putfield 13, 3) := by decide +kernel
theorem dX5_become_5 : decode cX5_become 5 = .ok (.aload_n 0, 1) := by decide +kernel
theorem dX5_become_6 : decode cX5_become 6 = .ok (.iload_n 2, 1) := by decide +kernel
theorem dX5_become_7 : decode cX5_become 7 = .ok (.putfield 16, 3) := by decide +kernel
theorem dX5_become_10 : decode cX5_become 10 = .ok (.aload_n 0, 1) := by decide +kernel
theorem dX5_become_11 : decode cX5_become 11 = .ok (.iload_n 3, 1) := by decide +kernel
theorem dX5_become_12 : decode cX5_become 12 = .ok (.putfield 19, 3) := by decide +kernel
theorem dX5_become_15 : decode cX5_become 15 = .ok (.aload_n 0, 1) := by decide +kernel
theorem dX5_become_16 : decode cX5_become 16 = .ok (.iload 4, 2) := by decide +kernel
theorem dX5_become_18 : decode cX5_become 18 = .ok (.putfield 22, 3) := by decide +kernel
theorem dX5_become_21 : decode cX5_become 21 = .ok (.return_, 1) := by decide +kernel
theorem dX6_init_0 : decode cX6_init 0 = .ok (.aload_n 0, 1) := by decide +kernel
theorem dX6_init_1 : decode cX6_init 1 = .ok (.invokespecial 1, 3) := by decide +kernel
theorem dX6_init_4 : decode cX6_init 4 = .ok (.aload_n 0, 1) := by decide +kernel
theorem dX6_init_5 : decode cX6_init 5 = .ok (.new 7, 3) := by decide +kernel
theorem dX6_init_8 : decode cX6_init 8 = .ok (.dup, 1) := by decide +kernel
theorem dX6_init_9 : decode cX6_init 9 = .ok (.invokespecial 9, 3) := by decide +kernel
theorem dX6_init_12 : decode cX6_init 12 = .ok (.putfield 10, 3) := by decide +kernel
theorem dX6_init_15 : decode cX6_init 15 = .ok (.aload_n 0, 1) := by decide +kernel
theorem dX6_init_16 : decode cX6_init 16 = .ok (.new 16, 3) := by decide +kernel
theorem dX6_init_19 : decode cX6_init 19 = .ok (.dup, 1) := by decide +kernel
theorem dX6_init_20 : decode cX6_init 20 = .ok (.invokespecial 18, 3) := by decide +kernel
theorem dX6_init_23 : decode cX6_init 23 = .ok (.putfield 19, 3) := by decide +kernel
theorem dX6_init_26 : decode cX6_init 26 = .ok (.aload_n 0, 1) := by decide +kernel
theorem dX6_init_27 : decode cX6_init 27 = .ok (.new 23, 3) := by decide +kernel
theorem dX6_init_30 : decode cX6_init 30 = .ok (.dup, 1) := by decide +kernel
theorem dX6_init_31 : decode cX6_init 31 = .ok (.invokespecial 25, 3) := by decide +kernel
theorem dX6_init_34 : decode cX6_init 34 = .ok (.putfield 26, 3) := by decide +kernel
theorem dX6_init_37 : decode cX6_init 37 = .ok (.aload_n 0, 1) := by decide +kernel
theorem dX6_init_38 : decode cX6_init 38 = .ok (.new 23, 3) := by decide +kernel
theorem dX6_init_41 : decode cX6_init 41 = .ok (.dup, 1) := by decide +kernel
theorem dX6_init_42 : decode cX6_init 42 = .ok (.invokespecial 25, 3) := by decide +kernel
theorem dX6_init_45 : decode cX6_init 45 = .ok (.putfield 30, 3) := by decide +kernel
theorem dX6_init_48 : decode cX6_init 48 = .ok (.return_, 1) := by decide +kernel
theorem dX6_letter_0 : decode cX6_letter 0 = .ok (.iload_n 1, 1) := by decide +kernel
theorem dX6_letter_1 : decode cX6_letter 1 = .ok (.iconst 1, 1) := by decide +kernel
theorem dX6_letter_2 : decode cX6_letter 2 = .ok (.if_icmp .lt 9, 3) := by decide +kernel
theorem dX6_letter_5 : decode cX6_letter 5 = .ok (.iload_n 1, 1) := by decide +kernel
theorem dX6_letter_6 : decode cX6_letter 6 = .ok (.bipush 126, 2) := by decide +kernel
theorem dX6_letter_8 : decode cX6_letter 8 = .ok (.if_icmp .le 6, 3) := by decide +kernel
theorem dX6_letter_11 : decode cX6_letter 11 = .ok (.bipush (-102), 2) := by decide +kernel
theorem dX6_letter_13 : decode cX6_letter 13 = .ok (.ireturn, 1) := by decide +kernel
theorem dX6_letter_14 : decode cX6_letter 14 = .ok (.aload_n 0, 1) := by decide +kernel
theorem dX6_letter_15 : decode cX6_letter 15 = .ok (.getfield 10, 3) := by decide +kernel
theorem dX6_letter_18 : decode cX6_letter 18 = .ok (.getfield 33, 3) := by decide +kernel
theorem dX6_letter_21 : decode cX6_letter 21 = .ok (.bipush 30, 2) := by decide +kernel
theorem dX6_letter_23 : decode cX6_letter 23 = .ok (.if_icmp .lt 6, 3) := by decide +kernel
theorem dX6_letter_26 : decode cX6_letter 26 = .ok (.bipush (-104), 2) := by decide +kernel
theorem dX6_letter_28 : decode cX6_letter 28 = .ok (.ireturn, 1) := by decide +kernel
theorem dX6_letter_29 : decode cX6_letter 29 = .ok (.aload_n 0, 1) := by decide +kernel
theorem dX6_letter_30 : decode cX6_letter 30 = .ok (.getfield 10, 3) := by decide +kernel
theorem dX6_letter_33 : decode cX6_letter 33 = .ok (.iload_n 1, 1) := by decide +kernel
theorem dX6_letter_34 : decode cX6_letter 34 = .ok (.invokevirtual 37, 3) := by decide +kernel
theorem dX6_letter_37 : decode cX6_letter 37 = .ok (.aload_n 0, 1) := by decide +kernel
theorem dX6_letter_38 : decode cX6_letter 38 = .ok (.getfield 10, 3) := by decide +kernel
theorem dX6_letter_41 : decode cX6_letter 41 = .ok (.getfield 33, 3) := by decide +kernel
theorem dX6_letter_44 : decode cX6_letter 44 = .ok (.ireturn, 1) := by decide +kernel
theorem dX6_blank_0 : decode cX6_blank 0 = .ok (.aload_n 0, 1) := by decide +kernel
theorem dX6_blank_1 : decode cX6_blank 1 = .ok (.getfield 10, 3) := by decide +kernel
theorem dX6_blank_4 : decode cX6_blank 4 = .ok (.getfield 33, 3) := by decide +kernel
theorem dX6_blank_7 : decode cX6_blank 7 = .ok (.istore_n 1, 1) := by decide +kernel
theorem dX6_blank_8 : decode cX6_blank 8 = .ok (.aload_n 0, 1) := by decide +kernel
theorem dX6_blank_9 : decode cX6_blank 9 = .ok (.getfield 10, 3) := by decide +kernel
theorem dX6_blank_12 : decode cX6_blank 12 = .ok (.invokevirtual 41, 3) := by decide +kernel
theorem dX6_blank_15 : decode cX6_blank 15 = .ok (.iload_n 1, 1) := by decide +kernel
theorem dX6_blank_16 : decode cX6_blank 16 = .ok (.ireturn, 1) := by decide +kernel
theorem dX6_fault_0 : decode cX6_fault 0 = .ok (.aload_n 0, 1) := by decide +kernel
theorem dX6_fault_1 : decode cX6_fault 1 = .ok (.getfield 10, 3) := by decide +kernel
theorem dX6_fault_4 : decode cX6_fault 4 = .ok (.invokevirtual 44, 3) := by decide +kernel
theorem dX6_fault_7 : decode cX6_fault 7 = .ok (.ireturn, 1) := by decide +kernel
theorem dX6_house_0 : decode cX6_house 0 = .ok (.aload_n 0, 1) := by decide +kernel
theorem dX6_house_1 : decode cX6_house 1 = .ok (.getfield 10, 3) := by decide +kernel
theorem dX6_house_4 : decode cX6_house 4 = .ok (.invokevirtual 48, 3) := by decide +kernel
theorem dX6_house_7 : decode cX6_house 7 = .ok (.ifCond .ne 6, 3) := by decide +kernel
theorem dX6_house_10 : decode cX6_house 10 = .ok (.bipush (-103), 2) := by decide +kernel
theorem dX6_house_12 : decode cX6_house 12 = .ok (.ireturn, 1) := by decide +kernel
theorem dX6_house_13 : decode cX6_house 13 = .ok (.aload_n 0, 1) := by decide +kernel
theorem dX6_house_14 : decode cX6_house 14 = .ok (.getfield 19, 3) := by decide +kernel
theorem dX6_house_17 : decode cX6_house 17 = .ok (.invokevirtual 52, 3) := by decide +kernel
theorem dX6_house_20 : decode cX6_house 20 = .ok (.aload_n 0, 1) := by decide +kernel
theorem dX6_house_21 : decode cX6_house 21 = .ok (.getfield 26, 3) := by decide +kernel
theorem dX6_house_24 : decode cX6_house 24 = .ok (.invokevirtual 53, 3) := by decide +kernel
theorem dX6_house_27 : decode cX6_house 27 = .ok (.aload_n 0, 1) := by decide +kernel
theorem dX6_house_28 : decode cX6_house 28 = .ok (.invokevirtual 54, 3) := by decide +kernel
theorem dX6_house_31 : decode cX6_house 31 = .ok (.aload_n 0, 1) := by decide +kernel
theorem dX6_house_32 : decode cX6_house 32 = .ok (.getfield 10, 3) := by decide +kernel
theorem dX6_house_35 : decode cX6_house 35 = .ok (.invokevirtual 41, 3) := by decide +kernel
theorem dX6_house_38 : decode cX6_house 38 = .ok (.aload_n 0, 1) := by decide +kernel
theorem dX6_house_39 : decode cX6_house 39 = .ok (.iconst 1, 1) := by decide +kernel
theorem dX6_house_40 : decode cX6_house 40 = .ok (.putfield 57, 3) := by decide +kernel
theorem dX6_house_43 : decode cX6_house 43 = .ok (.aload_n 0, 1) := by decide +kernel
theorem dX6_house_44 : decode cX6_house 44 = .ok (.iconst 0, 1) := by decide +kernel
theorem dX6_house_45 : decode cX6_house 45 = .ok (.putfield 61, 3) := by decide +kernel
theorem dX6_house_48 : decode cX6_house 48 = .ok (.aload_n 0, 1) := by decide +kernel
theorem dX6_house_49 : decode cX6_house 49 = .ok (.dup, 1) := by decide +kernel
theorem dX6_house_50 : decode cX6_house 50 = .ok (.getfield 64, 3) := by decide +kernel
theorem dX6_house_53 : decode cX6_house 53 = .ok (.iconst 1, 1) := by decide +kernel
theorem dX6_house_54 : decode cX6_house 54 = .ok (.iadd, 1) := by decide +kernel
theorem dX6_house_55 : decode cX6_house 55 = .ok (.putfield 64, 3) := by decide +kernel
theorem dX6_house_58 : decode cX6_house 58 = .ok (.aload_n 0, 1) := by decide +kernel
theorem dX6_house_59 : decode cX6_house 59 = .ok (.getfield 26, 3) := by decide +kernel
theorem dX6_house_62 : decode cX6_house 62 = .ok (.getfield 67, 3) := by decide +kernel
theorem dX6_house_65 : decode cX6_house 65 = .ok (.ireturn, 1) := by decide +kernel
theorem dX6_saying_0 : decode cX6_saying 0 = .ok (.aload_n 0, 1) := by decide +kernel
theorem dX6_saying_1 : decode cX6_saying 1 = .ok (.getfield 57, 3) := by decide +kernel
theorem dX6_saying_4 : decode cX6_saying 4 = .ok (.ifCond .eq 10, 3) := by decide +kernel
theorem dX6_saying_7 : decode cX6_saying 7 = .ok (.iload_n 1, 1) := by decide +kernel
theorem dX6_saying_8 : decode cX6_saying 8 = .ok (.invokestatic 70, 3) := by decide +kernel
theorem dX6_saying_11 : decode cX6_saying 11 = .ok (.ifCond .ne 6, 3) := by decide +kernel
theorem dX6_saying_14 : decode cX6_saying 14 = .ok (.bipush (-101), 2) := by decide +kernel
theorem dX6_saying_16 : decode cX6_saying 16 = .ok (.ireturn, 1) := by decide +kernel
theorem dX6_saying_17 : decode cX6_saying 17 = .ok (.iload_n 2, 1) := by decide +kernel
theorem dX6_saying_18 : decode cX6_saying 18 = .ok (.ifCond .ne 12, 3) := by decide +kernel
theorem dX6_saying_21 : decode cX6_saying 21 = .ok (.aload_n 0, 1) := by decide +kernel
theorem dX6_saying_22 : decode cX6_saying 22 = .ok (.getfield 19, 3) := by decide +kernel
theorem dX6_saying_25 : decode cX6_saying 25 = .ok (.iload_n 1, 1) := by decide +kernel
theorem dX6_saying_26 : decode cX6_saying 26 = .ok (.invokevirtual 74, 3) := by decide +kernel
theorem dX6_saying_29 : decode cX6_saying 29 = .ok (.ireturn, 1) := by decide +kernel
theorem dX6_saying_30 : decode cX6_saying 30 = .ok (.iload_n 2, 1) := by decide +kernel
theorem dX6_saying_31 : decode cX6_saying 31 = .ok (.bipush 10, 2) := by decide +kernel
theorem dX6_saying_33 : decode cX6_saying 33 = .ok (.if_icmp .lt 9, 3) := by decide +kernel
theorem dX6_saying_36 : decode cX6_saying 36 = .ok (.iload_n 2, 1) := by decide +kernel
theorem dX6_saying_37 : decode cX6_saying 37 = .ok (.bipush 14, 2) := by decide +kernel
theorem dX6_saying_39 : decode cX6_saying 39 = .ok (.if_icmp .lt 6, 3) := by decide +kernel
theorem dX6_saying_42 : decode cX6_saying 42 = .ok (.bipush (-102), 2) := by decide +kernel
theorem dX6_saying_44 : decode cX6_saying 44 = .ok (.ireturn, 1) := by decide +kernel
theorem dX6_saying_45 : decode cX6_saying 45 = .ok (.aload_n 0, 1) := by decide +kernel
theorem dX6_saying_46 : decode cX6_saying 46 = .ok (.getfield 19, 3) := by decide +kernel
theorem dX6_saying_49 : decode cX6_saying 49 = .ok (.iload_n 1, 1) := by decide +kernel
theorem dX6_saying_50 : decode cX6_saying 50 = .ok (.iload_n 2, 1) := by decide +kernel
theorem dX6_saying_51 : decode cX6_saying 51 = .ok (.bipush 10, 2) := by decide +kernel
theorem dX6_saying_53 : decode cX6_saying 53 = .ok (.isub, 1) := by decide +kernel
theorem dX6_saying_54 : decode cX6_saying 54 = .ok (.invokevirtual 78, 3) := by decide +kernel
theorem dX6_saying_57 : decode cX6_saying 57 = .ok (.ireturn, 1) := by decide +kernel
theorem dX6_tap_0 : decode cX6_tap 0 = .ok (.iload_n 1, 1) := by decide +kernel
theorem dX6_tap_1 : decode cX6_tap 1 = .ok (.invokestatic 82, 3) := by decide +kernel
theorem dX6_tap_4 : decode cX6_tap 4 = .ok (.ifCond .eq 10, 3) := by decide +kernel
theorem dX6_tap_7 : decode cX6_tap 7 = .ok (.iload_n 2, 1) := by decide +kernel
theorem dX6_tap_8 : decode cX6_tap 8 = .ok (.invokestatic 70, 3) := by decide +kernel
theorem dX6_tap_11 : decode cX6_tap 11 = .ok (.ifCond .ne 6, 3) := by decide +kernel
theorem dX6_tap_14 : decode cX6_tap 14 = .ok (.bipush (-102), 2) := by decide +kernel
theorem dX6_tap_16 : decode cX6_tap 16 = .ok (.ireturn, 1) := by decide +kernel
theorem dX6_tap_17 : decode cX6_tap 17 = .ok (.aload_n 0, 1) := by decide +kernel
theorem dX6_tap_18 : decode cX6_tap 18 = .ok (.getfield 57, 3) := by decide +kernel
theorem dX6_tap_21 : decode cX6_tap 21 = .ok (.ifCond .ne 6, 3) := by decide +kernel
theorem dX6_tap_24 : decode cX6_tap 24 = .ok (.bipush (-103), 2) := by decide +kernel
theorem dX6_tap_26 : decode cX6_tap 26 = .ok (.ireturn, 1) := by decide +kernel
theorem dX6_tap_27 : decode cX6_tap 27 = .ok (.aload_n 0, 1) := by decide +kernel
theorem dX6_tap_28 : decode cX6_tap 28 = .ok (.getfield 26, 3) := by decide +kernel
theorem dX6_tap_31 : decode cX6_tap 31 = .ok (.getfield 67, 3) := by decide +kernel
theorem dX6_tap_34 : decode cX6_tap 34 = .ok (.iconst 5, 1) := by decide +kernel
theorem dX6_tap_35 : decode cX6_tap 35 = .ok (.if_icmp .lt 6, 3) := by decide +kernel
theorem dX6_tap_38 : decode cX6_tap 38 = .ok (.bipush (-104), 2) := by decide +kernel
theorem dX6_tap_40 : decode cX6_tap 40 = .ok (.ireturn, 1) := by decide +kernel
theorem dX6_tap_41 : decode cX6_tap 41 = .ok (.aload_n 0, 1) := by decide +kernel
theorem dX6_tap_42 : decode cX6_tap 42 = .ok (.getfield 26, 3) := by decide +kernel
theorem dX6_tap_45 : decode cX6_tap 45 = .ok (.iload_n 1, 1) := by decide +kernel
theorem dX6_tap_46 : decode cX6_tap 46 = .ok (.iload_n 2, 1) := by decide +kernel
theorem dX6_tap_47 : decode cX6_tap 47 = .ok (.invokevirtual 85, 3) := by decide +kernel
theorem dX6_tap_50 : decode cX6_tap 50 = .ok (.aload_n 0, 1) := by decide +kernel
theorem dX6_tap_51 : decode cX6_tap 51 = .ok (.getfield 26, 3) := by decide +kernel
theorem dX6_tap_54 : decode cX6_tap 54 = .ok (.getfield 67, 3) := by decide +kernel
theorem dX6_tap_57 : decode cX6_tap 57 = .ok (.iconst 1, 1) := by decide +kernel
theorem dX6_tap_58 : decode cX6_tap 58 = .ok (.isub, 1) := by decide +kernel
theorem dX6_tap_59 : decode cX6_tap 59 = .ok (.ireturn, 1) := by decide +kernel
theorem dX6_about_0 : decode cX6_about 0 = .ok (.aload_n 0, 1) := by decide +kernel
theorem dX6_about_1 : decode cX6_about 1 = .ok (.getfield 26, 3) := by decide +kernel
theorem dX6_about_4 : decode cX6_about 4 = .ok (.iload_n 1, 1) := by decide +kernel
theorem dX6_about_5 : decode cX6_about 5 = .ok (.invokevirtual 89, 3) := by decide +kernel
theorem dX6_about_8 : decode cX6_about 8 = .ok (.astore_n 3, 1) := by decide +kernel
theorem dX6_about_9 : decode cX6_about 9 = .ok (.aload_n 3, 1) := by decide +kernel
theorem dX6_about_10 : decode cX6_about 10 = .ok (.ifnonnull 6, 3) := by decide +kernel
theorem dX6_about_13 : decode cX6_about 13 = .ok (.bipush (-101), 2) := by decide +kernel
theorem dX6_about_15 : decode cX6_about 15 = .ok (.ireturn, 1) := by decide +kernel
theorem dX6_about_16 : decode cX6_about 16 = .ok (.iload_n 2, 1) := by decide +kernel
theorem dX6_about_17 : decode cX6_about 17 = .ok (.ifCond .lt 9, 3) := by decide +kernel
theorem dX6_about_20 : decode cX6_about 20 = .ok (.iload_n 2, 1) := by decide +kernel
theorem dX6_about_21 : decode cX6_about 21 = .ok (.bipush 8, 2) := by decide +kernel
theorem dX6_about_23 : decode cX6_about 23 = .ok (.if_icmp .le 6, 3) := by decide +kernel
theorem dX6_about_26 : decode cX6_about 26 = .ok (.bipush (-102), 2) := by decide +kernel
theorem dX6_about_28 : decode cX6_about 28 = .ok (.ireturn, 1) := by decide +kernel
theorem dX6_about_29 : decode cX6_about 29 = .ok (.aload_n 0, 1) := by decide +kernel
theorem dX6_about_30 : decode cX6_about 30 = .ok (.aload_n 3, 1) := by decide +kernel
theorem dX6_about_31 : decode cX6_about 31 = .ok (.iload_n 2, 1) := by decide +kernel
theorem dX6_about_32 : decode cX6_about 32 = .ok (.invokevirtual 93, 3) := by decide +kernel
theorem dX6_about_35 : decode cX6_about 35 = .ok (.ireturn, 1) := by decide +kernel
theorem dX6_as_0 : decode cX6_as 0 = .ok (.aload_n 0, 1) := by decide +kernel
theorem dX6_as_1 : decode cX6_as 1 = .ok (.getfield 26, 3) := by decide +kernel
theorem dX6_as_4 : decode cX6_as 4 = .ok (.iload_n 1, 1) := by decide +kernel
theorem dX6_as_5 : decode cX6_as 5 = .ok (.invokevirtual 89, 3) := by decide +kernel
theorem dX6_as_8 : decode cX6_as 8 = .ok (.astore_n 3, 1) := by decide +kernel
theorem dX6_as_9 : decode cX6_as 9 = .ok (.aload_n 3, 1) := by decide +kernel
theorem dX6_as_10 : decode cX6_as 10 = .ok (.ifnonnull 6, 3) := by decide +kernel
theorem dX6_as_13 : decode cX6_as 13 = .ok (.bipush (-101), 2) := by decide +kernel
theorem dX6_as_15 : decode cX6_as 15 = .ok (.ireturn, 1) := by decide +kernel
theorem dX6_as_16 : decode cX6_as 16 = .ok (.iload_n 2, 1) := by decide +kernel
theorem dX6_as_17 : decode cX6_as 17 = .ok (.invokestatic 82, 3) := by decide +kernel
theorem dX6_as_20 : decode cX6_as 20 = .ok (.ifCond .ne 6, 3) := by decide +kernel
theorem dX6_as_23 : decode cX6_as 23 = .ok (.bipush (-102), 2) := by decide +kernel
theorem dX6_as_25 : decode cX6_as 25 = .ok (.ireturn, 1) := by decide +kernel
theorem dX6_as_26 : decode cX6_as 26 = .ok (.iload_n 2, 1) := by decide +kernel
theorem dX6_as_27 : decode cX6_as 27 = .ok (.ifCond .eq 24, 3) := by decide +kernel
theorem dX6_as_30 : decode cX6_as 30 = .ok (.iload_n 2, 1) := by decide +kernel
theorem dX6_as_31 : decode cX6_as 31 = .ok (.aload_n 3, 1) := by decide +kernel
theorem dX6_as_32 : decode cX6_as 32 = .ok (.getfield 97, 3) := by decide +kernel
theorem dX6_as_35 : decode cX6_as 35 = .ok (.if_icmp .eq 16, 3) := by decide +kernel
theorem dX6_as_38 : decode cX6_as 38 = .ok (.iload_n 2, 1) := by decide +kernel
theorem dX6_as_39 : decode cX6_as 39 = .ok (.iconst 1, 1) := by decide +kernel
theorem dX6_as_40 : decode cX6_as 40 = .ok (.if_icmp .ne 15, 3) := by decide +kernel
theorem dX6_as_43 : decode cX6_as 43 = .ok (.aload_n 3, 1) := by decide +kernel
theorem dX6_as_44 : decode cX6_as 44 = .ok (.getfield 97, 3) := by decide +kernel
theorem dX6_as_47 : decode cX6_as 47 = .ok (.iconst 4, 1) := by decide +kernel
theorem dX6_as_48 : decode cX6_as 48 = .ok (.if_icmp .ne 7, 3) := by decide +kernel
theorem dX6_as_51 : decode cX6_as 51 = .ok (.iconst 1, 1) := by decide +kernel
theorem dX6_as_52 : decode cX6_as 52 = .ok (.goto 4, 3) := by decide +kernel
theorem dX6_as_55 : decode cX6_as 55 = .ok (.iconst 0, 1) := by decide +kernel
theorem dX6_as_56 : decode cX6_as 56 = .ok (.istore 4, 2) := by decide +kernel
theorem dX6_as_58 : decode cX6_as 58 = .ok (.iload 4, 2) := by decide +kernel
theorem dX6_as_60 : decode cX6_as 60 = .ok (.ifCond .eq 7, 3) := by decide +kernel
theorem dX6_as_63 : decode cX6_as 63 = .ok (.iload_n 1, 1) := by decide +kernel
theorem dX6_as_64 : decode cX6_as 64 = .ok (.goto 4, 3) := by decide +kernel
theorem dX6_as_67 : decode cX6_as 67 = .ok (.iconst (-1), 1) := by decide +kernel
theorem dX6_as_68 : decode cX6_as 68 = .ok (.ireturn, 1) := by decide +kernel
theorem dX6_drip_0 : decode cX6_drip 0 = .ok (.aload_n 0, 1) := by decide +kernel
theorem dX6_drip_1 : decode cX6_drip 1 = .ok (.getfield 26, 3) := by decide +kernel
theorem dX6_drip_4 : decode cX6_drip 4 = .ok (.iload_n 1, 1) := by decide +kernel
theorem dX6_drip_5 : decode cX6_drip 5 = .ok (.invokevirtual 89, 3) := by decide +kernel
theorem dX6_drip_8 : decode cX6_drip 8 = .ok (.astore_n 3, 1) := by decide +kernel
theorem dX6_drip_9 : decode cX6_drip 9 = .ok (.aload_n 3, 1) := by decide +kernel
theorem dX6_drip_10 : decode cX6_drip 10 = .ok (.ifnonnull 6, 3) := by decide +kernel
theorem dX6_drip_13 : decode cX6_drip 13 = .ok (.bipush (-101), 2) := by decide +kernel
theorem dX6_drip_15 : decode cX6_drip 15 = .ok (.ireturn, 1) := by decide +kernel
theorem dX6_drip_16 : decode cX6_drip 16 = .ok (.iload_n 2, 1) := by decide +kernel
theorem dX6_drip_17 : decode cX6_drip 17 = .ok (.ifCond .lt 9, 3) := by decide +kernel
theorem dX6_drip_20 : decode cX6_drip 20 = .ok (.iload_n 2, 1) := by decide +kernel
theorem dX6_drip_21 : decode cX6_drip 21 = .ok (.bipush 99, 2) := by decide +kernel
theorem dX6_drip_23 : decode cX6_drip 23 = .ok (.if_icmp .le 6, 3) := by decide +kernel
theorem dX6_drip_26 : decode cX6_drip 26 = .ok (.bipush (-102), 2) := by decide +kernel
theorem dX6_drip_28 : decode cX6_drip 28 = .ok (.ireturn, 1) := by decide +kernel
theorem dX6_drip_29 : decode cX6_drip 29 = .ok (.aload_n 0, 1) := by decide +kernel
theorem dX6_drip_30 : decode cX6_drip 30 = .ok (.aload_n 3, 1) := by decide +kernel
theorem dX6_drip_31 : decode cX6_drip 31 = .ok (.iload_n 2, 1) := by decide +kernel
theorem dX6_drip_32 : decode cX6_drip 32 = .ok (.invokevirtual 102, 3) := by decide +kernel
theorem dX6_drip_35 : decode cX6_drip 35 = .ok (.ireturn, 1) := by decide +kernel
theorem dX6_listen_0 : decode cX6_listen 0 = .ok (.aload_n 0, 1) := by decide +kernel
theorem dX6_listen_1 : decode cX6_listen 1 = .ok (.getfield 26, 3) := by decide +kernel
theorem dX6_listen_4 : decode cX6_listen 4 = .ok (.iload_n 1, 1) := by decide +kernel
theorem dX6_listen_5 : decode cX6_listen 5 = .ok (.invokevirtual 89, 3) := by decide +kernel
theorem dX6_listen_8 : decode cX6_listen 8 = .ok (.astore_n 2, 1) := by decide +kernel
theorem dX6_listen_9 : decode cX6_listen 9 = .ok (.aload_n 2, 1) := by decide +kernel
theorem dX6_listen_10 : decode cX6_listen 10 = .ok (.ifnonnull 6, 3) := by decide +kernel
theorem dX6_listen_13 : decode cX6_listen 13 = .ok (.bipush (-101), 2) := by decide +kernel
theorem dX6_listen_15 : decode cX6_listen 15 = .ok (.ireturn, 1) := by decide +kernel
theorem dX6_listen_16 : decode cX6_listen 16 = .ok (.aload_n 2, 1) := by decide +kernel
theorem dX6_listen_17 : decode cX6_listen 17 = .ok (.getfield 105, 3) := by decide +kernel
theorem dX6_listen_20 : decode cX6_listen 20 = .ok (.bipush 60, 2) := by decide +kernel
theorem dX6_listen_22 : decode cX6_listen 22 = .ok (.if_icmp .lt 6, 3) := by decide +kernel
theorem dX6_listen_25 : decode cX6_listen 25 = .ok (.bipush (-103), 2) := by decide +kernel
theorem dX6_listen_27 : decode cX6_listen 27 = .ok (.ireturn, 1) := by decide +kernel
theorem dX6_listen_28 : decode cX6_listen 28 = .ok (.aload_n 0, 1) := by decide +kernel
theorem dX6_listen_29 : decode cX6_listen 29 = .ok (.aload_n 2, 1) := by decide +kernel
theorem dX6_listen_30 : decode cX6_listen 30 = .ok (.aload_n 2, 1) := by decide +kernel
theorem dX6_listen_31 : decode cX6_listen 31 = .ok (.getfield 105, 3) := by decide +kernel
theorem dX6_listen_34 : decode cX6_listen 34 = .ok (.invokevirtual 102, 3) := by decide +kernel
theorem dX6_listen_37 : decode cX6_listen 37 = .ok (.istore_n 3, 1) := by decide +kernel
theorem dX6_listen_38 : decode cX6_listen 38 = .ok (.aload_n 2, 1) := by decide +kernel
theorem dX6_listen_39 : decode cX6_listen 39 = .ok (.dup, 1) := by decide +kernel
theorem dX6_listen_40 : decode cX6_listen 40 = .ok (.getfield 105, 3) := by decide +kernel
theorem dX6_listen_43 : decode cX6_listen 43 = .ok (.iconst 1, 1) := by decide +kernel
theorem dX6_listen_44 : decode cX6_listen 44 = .ok (.iadd, 1) := by decide +kernel
theorem dX6_listen_45 : decode cX6_listen 45 = .ok (.putfield 105, 3) := by decide +kernel
theorem dX6_listen_48 : decode cX6_listen 48 = .ok (.aload_n 0, 1) := by decide +kernel
theorem dX6_listen_49 : decode cX6_listen 49 = .ok (.getfield 26, 3) := by decide +kernel
theorem dX6_listen_52 : decode cX6_listen 52 = .ok (.dup, 1) := by decide +kernel
theorem dX6_listen_53 : decode cX6_listen 53 = .ok (.getfield 108, 3) := by decide +kernel
theorem dX6_listen_56 : decode cX6_listen 56 = .ok (.iconst 1, 1) := by decide +kernel
theorem dX6_listen_57 : decode cX6_listen 57 = .ok (.iadd, 1) := by decide +kernel
theorem dX6_listen_58 : decode cX6_listen 58 = .ok (.putfield 108, 3) := by decide +kernel
theorem dX6_listen_61 : decode cX6_listen 61 = .ok (.iload_n 3, 1) := by decide +kernel
theorem dX6_listen_62 : decode cX6_listen 62 = .ok (.ireturn, 1) := by decide +kernel
theorem dX6_washer_0 : decode cX6_washer 0 = .ok (.aload_n 0, 1) := by decide +kernel
theorem dX6_washer_1 : decode cX6_washer 1 = .ok (.getfield 26, 3) := by decide +kernel
theorem dX6_washer_4 : decode cX6_washer 4 = .ok (.iload_n 1, 1) := by decide +kernel
theorem dX6_washer_5 : decode cX6_washer 5 = .ok (.invokevirtual 89, 3) := by decide +kernel
theorem dX6_washer_8 : decode cX6_washer 8 = .ok (.astore_n 3, 1) := by decide +kernel
theorem dX6_washer_9 : decode cX6_washer 9 = .ok (.aload_n 3, 1) := by decide +kernel
theorem dX6_washer_10 : decode cX6_washer 10 = .ok (.ifnonnull 6, 3) := by decide +kernel
theorem dX6_washer_13 : decode cX6_washer 13 = .ok (.bipush (-101), 2) := by decide +kernel
theorem dX6_washer_15 : decode cX6_washer 15 = .ok (.ireturn, 1) := by decide +kernel
theorem dX6_washer_16 : decode cX6_washer 16 = .ok (.aload_n 3, 1) := by decide +kernel
theorem dX6_washer_17 : decode cX6_washer 17 = .ok (.getfield 111, 3) := by decide +kernel
theorem dX6_washer_20 : decode cX6_washer 20 = .ok (.istore 4, 2) := by decide +kernel
theorem dX6_washer_22 : decode cX6_washer 22 = .ok (.aload_n 3, 1) := by decide +kernel
theorem dX6_washer_23 : decode cX6_washer 23 = .ok (.iload_n 2, 1) := by decide +kernel
theorem dX6_washer_24 : decode cX6_washer 24 = .ok (.ifCond .eq 7, 3) := by decide +kernel
theorem dX6_washer_27 : decode cX6_washer 27 = .ok (.iconst 1, 1) := by decide +kernel
theorem dX6_washer_28 : decode cX6_washer 28 = .ok (.goto 4, 3) := by decide +kernel
theorem dX6_washer_31 : decode cX6_washer 31 = .ok (.iconst 0, 1) := by decide +kernel
theorem dX6_washer_32 : decode cX6_washer 32 = .ok (.putfield 111, 3) := by decide +kernel
theorem dX6_washer_35 : decode cX6_washer 35 = .ok (.aload_n 0, 1) := by decide +kernel
theorem dX6_washer_36 : decode cX6_washer 36 = .ok (.getfield 26, 3) := by decide +kernel
theorem dX6_washer_39 : decode cX6_washer 39 = .ok (.dup, 1) := by decide +kernel
theorem dX6_washer_40 : decode cX6_washer 40 = .ok (.getfield 108, 3) := by decide +kernel
theorem dX6_washer_43 : decode cX6_washer 43 = .ok (.iconst 1, 1) := by decide +kernel
theorem dX6_washer_44 : decode cX6_washer 44 = .ok (.iadd, 1) := by decide +kernel
theorem dX6_washer_45 : decode cX6_washer 45 = .ok (.putfield 108, 3) := by decide +kernel
theorem dX6_washer_48 : decode cX6_washer 48 = .ok (.iload 4, 2) := by decide +kernel
theorem dX6_washer_50 : decode cX6_washer 50 = .ok (.ireturn, 1) := by decide +kernel
theorem dX6_teach_0 : decode cX6_teach 0 = .ok (.aload_n 0, 1) := by decide +kernel
theorem dX6_teach_1 : decode cX6_teach 1 = .ok (.getfield 26, 3) := by decide +kernel
theorem dX6_teach_4 : decode cX6_teach 4 = .ok (.iload_n 1, 1) := by decide +kernel
theorem dX6_teach_5 : decode cX6_teach 5 = .ok (.invokevirtual 89, 3) := by decide +kernel
theorem dX6_teach_8 : decode cX6_teach 8 = .ok (.astore_n 3, 1) := by decide +kernel
theorem dX6_teach_9 : decode cX6_teach 9 = .ok (.aload_n 3, 1) := by decide +kernel
theorem dX6_teach_10 : decode cX6_teach 10 = .ok (.ifnonnull 6, 3) := by decide +kernel
theorem dX6_teach_13 : decode cX6_teach 13 = .ok (.bipush (-101), 2) := by decide +kernel
theorem dX6_teach_15 : decode cX6_teach 15 = .ok (.ireturn, 1) := by decide +kernel
theorem dX6_teach_16 : decode cX6_teach 16 = .ok (.iload_n 2, 1) := by decide +kernel
theorem dX6_teach_17 : decode cX6_teach 17 = .ok (.invokestatic 70, 3) := by decide +kernel
theorem dX6_teach_20 : decode cX6_teach 20 = .ok (.ifCond .ne 6, 3) := by decide +kernel
theorem dX6_teach_23 : decode cX6_teach 23 = .ok (.bipush (-102), 2) := by decide +kernel
theorem dX6_teach_25 : decode cX6_teach 25 = .ok (.ireturn, 1) := by decide +kernel
theorem dX6_teach_26 : decode cX6_teach 26 = .ok (.aload_n 3, 1) := by decide +kernel
theorem dX6_teach_27 : decode cX6_teach 27 = .ok (.getfield 114, 3) := by decide +kernel
theorem dX6_teach_30 : decode cX6_teach 30 = .ok (.istore 4, 2) := by decide +kernel
theorem dX6_teach_32 : decode cX6_teach 32 = .ok (.aload_n 3, 1) := by decide +kernel
theorem dX6_teach_33 : decode cX6_teach 33 = .ok (.iload_n 2, 1) := by decide +kernel
theorem dX6_teach_34 : decode cX6_teach 34 = .ok (.putfield 114, 3) := by decide +kernel
theorem dX6_teach_37 : decode cX6_teach 37 = .ok (.aload_n 0, 1) := by decide +kernel
theorem dX6_teach_38 : decode cX6_teach 38 = .ok (.getfield 26, 3) := by decide +kernel
theorem dX6_teach_41 : decode cX6_teach 41 = .ok (.dup, 1) := by decide +kernel
theorem dX6_teach_42 : decode cX6_teach 42 = .ok (.getfield 108, 3) := by decide +kernel
theorem dX6_teach_45 : decode cX6_teach 45 = .ok (.iconst 1, 1) := by decide +kernel
theorem dX6_teach_46 : decode cX6_teach 46 = .ok (.iadd, 1) := by decide +kernel
theorem dX6_teach_47 : decode cX6_teach 47 = .ok (.putfield 108, 3) := by decide +kernel
theorem dX6_teach_50 : decode cX6_teach 50 = .ok (.iload 4, 2) := by decide +kernel
theorem dX6_teach_52 : decode cX6_teach 52 = .ok (.ireturn, 1) := by decide +kernel
theorem dX6_agree_0 : decode cX6_agree 0 = .ok (.aload_n 0, 1) := by decide +kernel
theorem dX6_agree_1 : decode cX6_agree 1 = .ok (.getfield 26, 3) := by decide +kernel
theorem dX6_agree_4 : decode cX6_agree 4 = .ok (.iload_n 1, 1) := by decide +kernel
theorem dX6_agree_5 : decode cX6_agree 5 = .ok (.invokevirtual 89, 3) := by decide +kernel
theorem dX6_agree_8 : decode cX6_agree 8 = .ok (.astore_n 3, 1) := by decide +kernel
theorem dX6_agree_9 : decode cX6_agree 9 = .ok (.aload_n 0, 1) := by decide +kernel
theorem dX6_agree_10 : decode cX6_agree 10 = .ok (.getfield 26, 3) := by decide +kernel
theorem dX6_agree_13 : decode cX6_agree 13 = .ok (.iload_n 2, 1) := by decide +kernel
theorem dX6_agree_14 : decode cX6_agree 14 = .ok (.invokevirtual 89, 3) := by decide +kernel
theorem dX6_agree_17 : decode cX6_agree 17 = .ok (.astore 4, 2) := by decide +kernel
theorem dX6_agree_19 : decode cX6_agree 19 = .ok (.aload_n 3, 1) := by decide +kernel
theorem dX6_agree_20 : decode cX6_agree 20 = .ok (.ifnull 13, 3) := by decide +kernel
theorem dX6_agree_23 : decode cX6_agree 23 = .ok (.aload 4, 2) := by decide +kernel
theorem dX6_agree_25 : decode cX6_agree 25 = .ok (.ifnull 8, 3) := by decide +kernel
theorem dX6_agree_28 : decode cX6_agree 28 = .ok (.iload_n 1, 1) := by decide +kernel
theorem dX6_agree_29 : decode cX6_agree 29 = .ok (.iload_n 2, 1) := by decide +kernel
theorem dX6_agree_30 : decode cX6_agree 30 = .ok (.if_icmp .ne 6, 3) := by decide +kernel
theorem dX6_agree_33 : decode cX6_agree 33 = .ok (.bipush (-101), 2) := by decide +kernel
theorem dX6_agree_35 : decode cX6_agree 35 = .ok (.ireturn, 1) := by decide +kernel
theorem dX6_agree_36 : decode cX6_agree 36 = .ok (.iconst 0, 1) := by decide +kernel
theorem dX6_agree_37 : decode cX6_agree 37 = .ok (.istore 5, 2) := by decide +kernel
theorem dX6_agree_39 : decode cX6_agree 39 = .ok (.iconst 0, 1) := by decide +kernel
theorem dX6_agree_40 : decode cX6_agree 40 = .ok (.istore 6, 2) := by decide +kernel
theorem dX6_agree_42 : decode cX6_agree 42 = .ok (.iload 6, 2) := by decide +kernel
theorem dX6_agree_44 : decode cX6_agree 44 = .ok (.bipush 16, 2) := by decide +kernel
theorem dX6_agree_46 : decode cX6_agree 46 = .ok (.if_icmp .ge 41, 3) := by decide +kernel
theorem dX6_agree_49 : decode cX6_agree 49 = .ok (.aload_n 0, 1) := by decide +kernel
theorem dX6_agree_50 : decode cX6_agree 50 = .ok (.aload_n 3, 1) := by decide +kernel
theorem dX6_agree_51 : decode cX6_agree 51 = .ok (.aload_n 3, 1) := by decide +kernel
theorem dX6_agree_52 : decode cX6_agree 52 = .ok (.getfield 105, 3) := by decide +kernel
theorem dX6_agree_55 : decode cX6_agree 55 = .ok (.iload 6, 2) := by decide +kernel
theorem dX6_agree_57 : decode cX6_agree 57 = .ok (.iadd, 1) := by decide +kernel
theorem dX6_agree_58 : decode cX6_agree 58 = .ok (.invokevirtual 102, 3) := by decide +kernel
theorem dX6_agree_61 : decode cX6_agree 61 = .ok (.aload_n 0, 1) := by decide +kernel
theorem dX6_agree_62 : decode cX6_agree 62 = .ok (.aload 4, 2) := by decide +kernel
theorem dX6_agree_64 : decode cX6_agree 64 = .ok (.aload 4, 2) := by decide +kernel
theorem dX6_agree_66 : decode cX6_agree 66 = .ok (.getfield 105, 3) := by decide +kernel
theorem dX6_agree_69 : decode cX6_agree 69 = .ok (.iload 6, 2) := by decide +kernel
theorem dX6_agree_71 : decode cX6_agree 71 = .ok (.iadd, 1) := by decide +kernel
theorem dX6_agree_72 : decode cX6_agree 72 = .ok (.invokevirtual 102, 3) := by decide +kernel
theorem dX6_agree_75 : decode cX6_agree 75 = .ok (.if_icmp .ne 6, 3) := by decide +kernel
theorem dX6_agree_78 : decode cX6_agree 78 = .ok (.iinc 5 1, 3) := by decide +kernel
theorem dX6_agree_81 : decode cX6_agree 81 = .ok (.iinc 6 1, 3) := by decide +kernel
theorem dX6_agree_84 : decode cX6_agree 84 = .ok (.goto (-42), 3) := by decide +kernel
theorem dX6_agree_87 : decode cX6_agree 87 = .ok (.iload 5, 2) := by decide +kernel
theorem dX6_agree_89 : decode cX6_agree 89 = .ok (.ireturn, 1) := by decide +kernel
theorem dX6_near_0 : decode cX6_near 0 = .ok (.aload_n 0, 1) := by decide +kernel
theorem dX6_near_1 : decode cX6_near 1 = .ok (.getfield 26, 3) := by decide +kernel
theorem dX6_near_4 : decode cX6_near 4 = .ok (.iload_n 1, 1) := by decide +kernel
theorem dX6_near_5 : decode cX6_near 5 = .ok (.invokevirtual 89, 3) := by decide +kernel
theorem dX6_near_8 : decode cX6_near 8 = .ok (.astore 4, 2) := by decide +kernel
theorem dX6_near_10 : decode cX6_near 10 = .ok (.aload 4, 2) := by decide +kernel
theorem dX6_near_12 : decode cX6_near 12 = .ok (.ifnonnull 6, 3) := by decide +kernel
theorem dX6_near_15 : decode cX6_near 15 = .ok (.bipush (-101), 2) := by decide +kernel
theorem dX6_near_17 : decode cX6_near 17 = .ok (.ireturn, 1) := by decide +kernel
theorem dX6_near_18 : decode cX6_near 18 = .ok (.iload_n 2, 1) := by decide +kernel
theorem dX6_near_19 : decode cX6_near 19 = .ok (.invokestatic 70, 3) := by decide +kernel
theorem dX6_near_22 : decode cX6_near 22 = .ok (.ifCond .eq 12, 3) := by decide +kernel
theorem dX6_near_25 : decode cX6_near 25 = .ok (.iload_n 3, 1) := by decide +kernel
theorem dX6_near_26 : decode cX6_near 26 = .ok (.ifCond .lt 8, 3) := by decide +kernel
theorem dX6_near_29 : decode cX6_near 29 = .ok (.iload_n 3, 1) := by decide +kernel
theorem dX6_near_30 : decode cX6_near 30 = .ok (.iconst 1, 1) := by decide +kernel
theorem dX6_near_31 : decode cX6_near 31 = .ok (.if_icmp .le 6, 3) := by decide +kernel
theorem dX6_near_34 : decode cX6_near 34 = .ok (.bipush (-102), 2) := by decide +kernel
theorem dX6_near_36 : decode cX6_near 36 = .ok (.ireturn, 1) := by decide +kernel
theorem dX6_near_37 : decode cX6_near 37 = .ok (.aload_n 0, 1) := by decide +kernel
theorem dX6_near_38 : decode cX6_near 38 = .ok (.aload 4, 2) := by decide +kernel
theorem dX6_near_40 : decode cX6_near 40 = .ok (.iload_n 2, 1) := by decide +kernel
theorem dX6_near_41 : decode cX6_near 41 = .ok (.iload_n 3, 1) := by decide +kernel
theorem dX6_near_42 : decode cX6_near 42 = .ok (.invokevirtual 117, 3) := by decide +kernel
theorem dX6_near_45 : decode cX6_near 45 = .ok (.ireturn, 1) := by decide +kernel
theorem dX6_put_0 : decode cX6_put 0 = .ok (.aload_n 0, 1) := by decide +kernel
theorem dX6_put_1 : decode cX6_put 1 = .ok (.getfield 26, 3) := by decide +kernel
theorem dX6_put_4 : decode cX6_put 4 = .ok (.iload_n 1, 1) := by decide +kernel
theorem dX6_put_5 : decode cX6_put 5 = .ok (.invokevirtual 89, 3) := by decide +kernel
theorem dX6_put_8 : decode cX6_put 8 = .ok (.astore 4, 2) := by decide +kernel
theorem dX6_put_10 : decode cX6_put 10 = .ok (.aload 4, 2) := by decide +kernel
theorem dX6_put_12 : decode cX6_put 12 = .ok (.ifnonnull 6, 3) := by decide +kernel
theorem dX6_put_15 : decode cX6_put 15 = .ok (.bipush (-101), 2) := by decide +kernel
theorem dX6_put_17 : decode cX6_put 17 = .ok (.ireturn, 1) := by decide +kernel
theorem dX6_put_18 : decode cX6_put 18 = .ok (.iload_n 2, 1) := by decide +kernel
theorem dX6_put_19 : decode cX6_put 19 = .ok (.ifCond .lt 9, 3) := by decide +kernel
theorem dX6_put_22 : decode cX6_put 22 = .ok (.iload_n 2, 1) := by decide +kernel
theorem dX6_put_23 : decode cX6_put 23 = .ok (.bipush 59, 2) := by decide +kernel
theorem dX6_put_25 : decode cX6_put 25 = .ok (.if_icmp .le 6, 3) := by decide +kernel
theorem dX6_put_28 : decode cX6_put 28 = .ok (.bipush (-102), 2) := by decide +kernel
theorem dX6_put_30 : decode cX6_put 30 = .ok (.ireturn, 1) := by decide +kernel
theorem dX6_put_31 : decode cX6_put 31 = .ok (.aload_n 0, 1) := by decide +kernel
theorem dX6_put_32 : decode cX6_put 32 = .ok (.getfield 26, 3) := by decide +kernel
theorem dX6_put_35 : decode cX6_put 35 = .ok (.getfield 121, 3) := by decide +kernel
theorem dX6_put_38 : decode cX6_put 38 = .ok (.bipush 8, 2) := by decide +kernel
theorem dX6_put_40 : decode cX6_put 40 = .ok (.if_icmp .lt 6, 3) := by decide +kernel
theorem dX6_put_43 : decode cX6_put 43 = .ok (.bipush (-104), 2) := by decide +kernel
theorem dX6_put_45 : decode cX6_put 45 = .ok (.ireturn, 1) := by decide +kernel
theorem dX6_put_46 : decode cX6_put 46 = .ok (.aload_n 0, 1) := by decide +kernel
theorem dX6_put_47 : decode cX6_put 47 = .ok (.getfield 26, 3) := by decide +kernel
theorem dX6_put_50 : decode cX6_put 50 = .ok (.aload 4, 2) := by decide +kernel
theorem dX6_put_52 : decode cX6_put 52 = .ok (.iload_n 2, 1) := by decide +kernel
theorem dX6_put_53 : decode cX6_put 53 = .ok (.iload_n 3, 1) := by decide +kernel
theorem dX6_put_54 : decode cX6_put 54 = .ok (.ifCond .eq 7, 3) := by decide +kernel
theorem dX6_put_57 : decode cX6_put 57 = .ok (.iconst 1, 1) := by decide +kernel
theorem dX6_put_58 : decode cX6_put 58 = .ok (.goto 4, 3) := by decide +kernel
theorem dX6_put_61 : decode cX6_put 61 = .ok (.iconst 0, 1) := by decide +kernel
theorem dX6_put_62 : decode cX6_put 62 = .ok (.invokevirtual 124, 3) := by decide +kernel
theorem dX6_put_65 : decode cX6_put 65 = .ok (.aload_n 0, 1) := by decide +kernel
theorem dX6_put_66 : decode cX6_put 66 = .ok (.getfield 26, 3) := by decide +kernel
theorem dX6_put_69 : decode cX6_put 69 = .ok (.getfield 121, 3) := by decide +kernel
theorem dX6_put_72 : decode cX6_put 72 = .ok (.ireturn, 1) := by decide +kernel
theorem dX6_forget_0 : decode cX6_forget 0 = .ok (.aload_n 0, 1) := by decide +kernel
theorem dX6_forget_1 : decode cX6_forget 1 = .ok (.getfield 26, 3) := by decide +kernel
theorem dX6_forget_4 : decode cX6_forget 4 = .ok (.getfield 121, 3) := by decide +kernel
theorem dX6_forget_7 : decode cX6_forget 7 = .ok (.istore_n 1, 1) := by decide +kernel
theorem dX6_forget_8 : decode cX6_forget 8 = .ok (.aload_n 0, 1) := by decide +kernel
theorem dX6_forget_9 : decode cX6_forget 9 = .ok (.getfield 26, 3) := by decide +kernel
theorem dX6_forget_12 : decode cX6_forget 12 = .ok (.iconst 0, 1) := by decide +kernel
theorem dX6_forget_13 : decode cX6_forget 13 = .ok (.putfield 121, 3) := by decide +kernel
theorem dX6_forget_16 : decode cX6_forget 16 = .ok (.iload_n 1, 1) := by decide +kernel
theorem dX6_forget_17 : decode cX6_forget 17 = .ok (.ireturn, 1) := by decide +kernel
theorem dX6_nights_0 : decode cX6_nights 0 = .ok (.iload_n 1, 1) := by decide +kernel
theorem dX6_nights_1 : decode cX6_nights 1 = .ok (.iconst 1, 1) := by decide +kernel
theorem dX6_nights_2 : decode cX6_nights 2 = .ok (.if_icmp .lt 22, 3) := by decide +kernel
theorem dX6_nights_5 : decode cX6_nights 5 = .ok (.iload_n 1, 1) := by decide +kernel
theorem dX6_nights_6 : decode cX6_nights 6 = .ok (.bipush 40, 2) := by decide +kernel
theorem dX6_nights_8 : decode cX6_nights 8 = .ok (.if_icmp .gt 16, 3) := by decide +kernel
theorem dX6_nights_11 : decode cX6_nights 11 = .ok (.iload_n 2, 1) := by decide +kernel
theorem dX6_nights_12 : decode cX6_nights 12 = .ok (.ifCond .lt 12, 3) := by decide +kernel
theorem dX6_nights_15 : decode cX6_nights 15 = .ok (.iload_n 3, 1) := by decide +kernel
theorem dX6_nights_16 : decode cX6_nights 16 = .ok (.ifCond .lt 8, 3) := by decide +kernel
theorem dX6_nights_19 : decode cX6_nights 19 = .ok (.iload_n 3, 1) := by decide +kernel
theorem dX6_nights_20 : decode cX6_nights 20 = .ok (.iconst 2, 1) := by decide +kernel
theorem dX6_nights_21 : decode cX6_nights 21 = .ok (.if_icmp .le 6, 3) := by decide +kernel
theorem dX6_nights_24 : decode cX6_nights 24 = .ok (.bipush (-102), 2) := by decide +kernel
theorem dX6_nights_26 : decode cX6_nights 26 = .ok (.ireturn, 1) := by decide +kernel
theorem dX6_nights_27 : decode cX6_nights 27 = .ok (.aload_n 0, 1) := by decide +kernel
theorem dX6_nights_28 : decode cX6_nights 28 = .ok (.getfield 57, 3) := by decide +kernel
theorem dX6_nights_31 : decode cX6_nights 31 = .ok (.ifCond .ne 6, 3) := by decide +kernel
theorem dX6_nights_34 : decode cX6_nights 34 = .ok (.bipush (-103), 2) := by decide +kernel
theorem dX6_nights_36 : decode cX6_nights 36 = .ok (.ireturn, 1) := by decide +kernel
theorem dX6_nights_37 : decode cX6_nights 37 = .ok (.iconst 0, 1) := by decide +kernel
theorem dX6_nights_38 : decode cX6_nights 38 = .ok (.istore 4, 2) := by decide +kernel
theorem dX6_nights_40 : decode cX6_nights 40 = .ok (.iconst 0, 1) := by decide +kernel
theorem dX6_nights_41 : decode cX6_nights 41 = .ok (.istore 5, 2) := by decide +kernel
theorem dX6_nights_43 : decode cX6_nights 43 = .ok (.iload_n 2, 1) := by decide +kernel
theorem dX6_nights_44 : decode cX6_nights 44 = .ok (.istore 6, 2) := by decide +kernel
theorem dX6_nights_46 : decode cX6_nights 46 = .ok (.iconst 0, 1) := by decide +kernel
theorem dX6_nights_47 : decode cX6_nights 47 = .ok (.istore 7, 2) := by decide +kernel
theorem dX6_nights_49 : decode cX6_nights 49 = .ok (.iload 7, 2) := by decide +kernel
theorem dX6_nights_51 : decode cX6_nights 51 = .ok (.iload_n 1, 1) := by decide +kernel
theorem dX6_nights_52 : decode cX6_nights 52 = .ok (.if_icmp .ge 100, 3) := by decide +kernel
theorem dX6_nights_55 : decode cX6_nights 55 = .ok (.iconst 0, 1) := by decide +kernel
theorem dX6_nights_56 : decode cX6_nights 56 = .ok (.istore 8, 2) := by decide +kernel
theorem dX6_nights_58 : decode cX6_nights 58 = .ok (.iload 8, 2) := by decide +kernel
theorem dX6_nights_60 : decode cX6_nights 60 = .ok (.aload_n 0, 1) := by decide +kernel
theorem dX6_nights_61 : decode cX6_nights 61 = .ok (.getfield 26, 3) := by decide +kernel
theorem dX6_nights_64 : decode cX6_nights 64 = .ok (.getfield 67, 3) := by decide +kernel
theorem dX6_nights_67 : decode cX6_nights 67 = .ok (.if_icmp .ge 79, 3) := by decide +kernel
theorem dX6_nights_70 : decode cX6_nights 70 = .ok (.aload_n 0, 1) := by decide +kernel
theorem dX6_nights_71 : decode cX6_nights 71 = .ok (.getfield 26, 3) := by decide +kernel
theorem dX6_nights_74 : decode cX6_nights 74 = .ok (.iload 8, 2) := by decide +kernel
theorem dX6_nights_76 : decode cX6_nights 76 = .ok (.invokevirtual 89, 3) := by decide +kernel
theorem dX6_nights_79 : decode cX6_nights 79 = .ok (.astore 9, 2) := by decide +kernel
theorem dX6_nights_81 : decode cX6_nights 81 = .ok (.aload 9, 2) := by decide +kernel
theorem dX6_nights_83 : decode cX6_nights 83 = .ok (.ifnonnull 6, 3) := by decide +kernel
theorem dX6_nights_86 : decode cX6_nights 86 = .ok (.goto 54, 3) := by decide +kernel
theorem dX6_nights_89 : decode cX6_nights 89 = .ok (.iload 6, 2) := by decide +kernel
theorem dX6_nights_91 : decode cX6_nights 91 = .ok (.invokestatic 128, 3) := by decide +kernel
theorem dX6_nights_94 : decode cX6_nights 94 = .ok (.istore 6, 2) := by decide +kernel
theorem dX6_nights_96 : decode cX6_nights 96 = .ok (.iload 6, 2) := by decide +kernel
theorem dX6_nights_98 : decode cX6_nights 98 = .ok (.invokestatic 131, 3) := by decide +kernel
theorem dX6_nights_101 : decode cX6_nights 101 = .ok (.ifCond .ne 7, 3) := by decide +kernel
theorem dX6_nights_104 : decode cX6_nights 104 = .ok (.iconst 1, 1) := by decide +kernel
theorem dX6_nights_105 : decode cX6_nights 105 = .ok (.goto 4, 3) := by decide +kernel
theorem dX6_nights_108 : decode cX6_nights 108 = .ok (.iconst 0, 1) := by decide +kernel
theorem dX6_nights_109 : decode cX6_nights 109 = .ok (.istore 10, 2) := by decide +kernel
theorem dX6_nights_111 : decode cX6_nights 111 = .ok (.iload 5, 2) := by decide +kernel
theorem dX6_nights_113 : decode cX6_nights 113 = .ok (.iload 10, 2) := by decide +kernel
theorem dX6_nights_115 : decode cX6_nights 115 = .ok (.iadd, 1) := by decide +kernel
theorem dX6_nights_116 : decode cX6_nights 116 = .ok (.istore 5, 2) := by decide +kernel
theorem dX6_nights_118 : decode cX6_nights 118 = .ok (.iload 4, 2) := by decide +kernel
theorem dX6_nights_120 : decode cX6_nights 120 = .ok (.aload_n 0, 1) := by decide +kernel
theorem dX6_nights_121 : decode cX6_nights 121 = .ok (.aload 9, 2) := by decide +kernel
theorem dX6_nights_123 : decode cX6_nights 123 = .ok (.aload 9, 2) := by decide +kernel
theorem dX6_nights_125 : decode cX6_nights 125 = .ok (.getfield 105, 3) := by decide +kernel
theorem dX6_nights_128 : decode cX6_nights 128 = .ok (.iload 7, 2) := by decide +kernel
theorem dX6_nights_130 : decode cX6_nights 130 = .ok (.iadd, 1) := by decide +kernel
theorem dX6_nights_131 : decode cX6_nights 131 = .ok (.invokevirtual 102, 3) := by decide +kernel
theorem dX6_nights_134 : decode cX6_nights 134 = .ok (.iload 10, 2) := by decide +kernel
theorem dX6_nights_136 : decode cX6_nights 136 = .ok (.ixor, 1) := by decide +kernel
theorem dX6_nights_137 : decode cX6_nights 137 = .ok (.iadd, 1) := by decide +kernel
theorem dX6_nights_138 : decode cX6_nights 138 = .ok (.istore 4, 2) := by decide +kernel
theorem dX6_nights_140 : decode cX6_nights 140 = .ok (.iinc 8 1, 3) := by decide +kernel
theorem dX6_nights_143 : decode cX6_nights 143 = .ok (.goto (-85), 3) := by decide +kernel
theorem dX6_nights_146 : decode cX6_nights 146 = .ok (.iinc 7 1, 3) := by decide +kernel
theorem dX6_nights_149 : decode cX6_nights 149 = .ok (.goto (-100), 3) := by decide +kernel
theorem dX6_nights_152 : decode cX6_nights 152 = .ok (.iload_n 3, 1) := by decide +kernel
theorem dX6_nights_153 : decode cX6_nights 153 = .ok (.ifCond .ne 8, 3) := by decide +kernel
theorem dX6_nights_156 : decode cX6_nights 156 = .ok (.iload 4, 2) := by decide +kernel
theorem dX6_nights_158 : decode cX6_nights 158 = .ok (.goto 15, 3) := by decide +kernel
theorem dX6_nights_161 : decode cX6_nights 161 = .ok (.iload_n 3, 1) := by decide +kernel
theorem dX6_nights_162 : decode cX6_nights 162 = .ok (.iconst 1, 1) := by decide +kernel
theorem dX6_nights_163 : decode cX6_nights 163 = .ok (.if_icmp .ne 8, 3) := by decide +kernel
theorem dX6_nights_166 : decode cX6_nights 166 = .ok (.iload 5, 2) := by decide +kernel
theorem dX6_nights_168 : decode cX6_nights 168 = .ok (.goto 5, 3) := by decide +kernel
theorem dX6_nights_171 : decode cX6_nights 171 = .ok (.iload 6, 2) := by decide +kernel
theorem dX6_nights_173 : decode cX6_nights 173 = .ok (.ireturn, 1) := by decide +kernel
theorem dX6_image_0 : decode cX6_image 0 = .ok (.aload_n 0, 1) := by decide +kernel
theorem dX6_image_1 : decode cX6_image 1 = .ok (.getfield 57, 3) := by decide +kernel
theorem dX6_image_4 : decode cX6_image 4 = .ok (.ifCond .ne 6, 3) := by decide +kernel
theorem dX6_image_7 : decode cX6_image 7 = .ok (.bipush (-103), 2) := by decide +kernel
theorem dX6_image_9 : decode cX6_image 9 = .ok (.ireturn, 1) := by decide +kernel
theorem dX6_image_10 : decode cX6_image 10 = .ok (.aload_n 0, 1) := by decide +kernel
theorem dX6_image_11 : decode cX6_image 11 = .ok (.getfield 30, 3) := by decide +kernel
theorem dX6_image_14 : decode cX6_image 14 = .ok (.aload_n 0, 1) := by decide +kernel
theorem dX6_image_15 : decode cX6_image 15 = .ok (.getfield 26, 3) := by decide +kernel
theorem dX6_image_18 : decode cX6_image 18 = .ok (.invokevirtual 134, 3) := by decide +kernel
theorem dX6_image_21 : decode cX6_image 21 = .ok (.aload_n 0, 1) := by decide +kernel
theorem dX6_image_22 : decode cX6_image 22 = .ok (.iconst 1, 1) := by decide +kernel
theorem dX6_image_23 : decode cX6_image 23 = .ok (.putfield 61, 3) := by decide +kernel
theorem dX6_image_26 : decode cX6_image 26 = .ok (.aload_n 0, 1) := by decide +kernel
theorem dX6_image_27 : decode cX6_image 27 = .ok (.getfield 26, 3) := by decide +kernel
theorem dX6_image_30 : decode cX6_image 30 = .ok (.getfield 108, 3) := by decide +kernel
theorem dX6_image_33 : decode cX6_image 33 = .ok (.ireturn, 1) := by decide +kernel
theorem dX6_restore_0 : decode cX6_restore 0 = .ok (.aload_n 0, 1) := by decide +kernel
theorem dX6_restore_1 : decode cX6_restore 1 = .ok (.getfield 61, 3) := by decide +kernel
theorem dX6_restore_4 : decode cX6_restore 4 = .ok (.ifCond .ne 6, 3) := by decide +kernel
theorem dX6_restore_7 : decode cX6_restore 7 = .ok (.bipush (-103), 2) := by decide +kernel
theorem dX6_restore_9 : decode cX6_restore 9 = .ok (.ireturn, 1) := by decide +kernel
theorem dX6_restore_10 : decode cX6_restore 10 = .ok (.aload_n 0, 1) := by decide +kernel
theorem dX6_restore_11 : decode cX6_restore 11 = .ok (.getfield 26, 3) := by decide +kernel
theorem dX6_restore_14 : decode cX6_restore 14 = .ok (.aload_n 0, 1) := by decide +kernel
theorem dX6_restore_15 : decode cX6_restore 15 = .ok (.getfield 30, 3) := by decide +kernel
theorem dX6_restore_18 : decode cX6_restore 18 = .ok (.invokevirtual 134, 3) := by decide +kernel
theorem dX6_restore_21 : decode cX6_restore 21 = .ok (.aload_n 0, 1) := by decide +kernel
theorem dX6_restore_22 : decode cX6_restore 22 = .ok (.getfield 26, 3) := by decide +kernel
theorem dX6_restore_25 : decode cX6_restore 25 = .ok (.getfield 108, 3) := by decide +kernel
theorem dX6_restore_28 : decode cX6_restore 28 = .ok (.ireturn, 1) := by decide +kernel
theorem dX6_count_0 : decode cX6_count 0 = .ok (.iload_n 1, 1) := by decide +kernel
theorem dX6_count_1 : decode cX6_count 1 = .ok (.ifCond .lt 9, 3) := by decide +kernel
theorem dX6_count_4 : decode cX6_count 4 = .ok (.iload_n 1, 1) := by decide +kernel
theorem dX6_count_5 : decode cX6_count 5 = .ok (.bipush 7, 2) := by decide +kernel
theorem dX6_count_7 : decode cX6_count 7 = .ok (.if_icmp .le 6, 3) := by decide +kernel
theorem dX6_count_10 : decode cX6_count 10 = .ok (.bipush (-102), 2) := by decide +kernel
theorem dX6_count_12 : decode cX6_count 12 = .ok (.ireturn, 1) := by decide +kernel
theorem dX6_count_13 : decode cX6_count 13 = .ok (.aload_n 0, 1) := by decide +kernel
theorem dX6_count_14 : decode cX6_count 14 = .ok (.iload_n 1, 1) := by decide +kernel
theorem dX6_count_15 : decode cX6_count 15 = .ok (.invokevirtual 138, 3) := by decide +kernel
theorem dX6_count_18 : decode cX6_count 18 = .ok (.ireturn, 1) := by decide +kernel
theorem dX6_digest_0 : decode cX6_digest 0 = .ok (.ldc2_w 141, 3) := by decide +kernel
theorem dX6_digest_3 : decode cX6_digest 3 = .ok (.lstore_n 1, 1) := by decide +kernel
theorem dX6_digest_4 : decode cX6_digest 4 = .ok (.aload_n 0, 1) := by decide +kernel
theorem dX6_digest_5 : decode cX6_digest 5 = .ok (.getfield 57, 3) := by decide +kernel
theorem dX6_digest_8 : decode cX6_digest 8 = .ok (.ifCond .eq 9, 3) := by decide +kernel
theorem dX6_digest_11 : decode cX6_digest 11 = .ok (.aload_n 0, 1) := by decide +kernel
theorem dX6_digest_12 : decode cX6_digest 12 = .ok (.lload_n 1, 1) := by decide +kernel
theorem dX6_digest_13 : decode cX6_digest 13 = .ok (.invokevirtual 143, 3) := by decide +kernel
theorem dX6_digest_16 : decode cX6_digest 16 = .ok (.lstore_n 1, 1) := by decide +kernel
theorem dX6_digest_17 : decode cX6_digest 17 = .ok (.iconst 0, 1) := by decide +kernel
theorem dX6_digest_18 : decode cX6_digest 18 = .ok (.istore_n 3, 1) := by decide +kernel
theorem dX6_digest_19 : decode cX6_digest 19 = .ok (.iload_n 3, 1) := by decide +kernel
theorem dX6_digest_20 : decode cX6_digest 20 = .ok (.aload_n 0, 1) := by decide +kernel
theorem dX6_digest_21 : decode cX6_digest 21 = .ok (.getfield 26, 3) := by decide +kernel
theorem dX6_digest_24 : decode cX6_digest 24 = .ok (.getfield 67, 3) := by decide +kernel
theorem dX6_digest_27 : decode cX6_digest 27 = .ok (.if_icmp .ge 32, 3) := by decide +kernel
theorem dX6_digest_30 : decode cX6_digest 30 = .ok (.aload_n 0, 1) := by decide +kernel
theorem dX6_digest_31 : decode cX6_digest 31 = .ok (.getfield 26, 3) := by decide +kernel
theorem dX6_digest_34 : decode cX6_digest 34 = .ok (.iload_n 3, 1) := by decide +kernel
theorem dX6_digest_35 : decode cX6_digest 35 = .ok (.invokevirtual 89, 3) := by decide +kernel
theorem dX6_digest_38 : decode cX6_digest 38 = .ok (.astore 4, 2) := by decide +kernel
theorem dX6_digest_40 : decode cX6_digest 40 = .ok (.aload 4, 2) := by decide +kernel
theorem dX6_digest_42 : decode cX6_digest 42 = .ok (.ifnull 11, 3) := by decide +kernel
theorem dX6_digest_45 : decode cX6_digest 45 = .ok (.aload_n 0, 1) := by decide +kernel
theorem dX6_digest_46 : decode cX6_digest 46 = .ok (.lload_n 1, 1) := by decide +kernel
theorem dX6_digest_47 : decode cX6_digest 47 = .ok (.aload 4, 2) := by decide +kernel
theorem dX6_digest_49 : decode cX6_digest 49 = .ok (.invokevirtual 147, 3) := by decide +kernel
theorem dX6_digest_52 : decode cX6_digest 52 = .ok (.lstore_n 1, 1) := by decide +kernel
theorem dX6_digest_53 : decode cX6_digest 53 = .ok (.iinc 3 1, 3) := by decide +kernel
theorem dX6_digest_56 : decode cX6_digest 56 = .ok (.goto (-37), 3) := by decide +kernel
theorem dX6_digest_59 : decode cX6_digest 59 = .ok (.iconst 0, 1) := by decide +kernel
theorem dX6_digest_60 : decode cX6_digest 60 = .ok (.istore_n 3, 1) := by decide +kernel
theorem dX6_digest_61 : decode cX6_digest 61 = .ok (.iload_n 3, 1) := by decide +kernel
theorem dX6_digest_62 : decode cX6_digest 62 = .ok (.aload_n 0, 1) := by decide +kernel
theorem dX6_digest_63 : decode cX6_digest 63 = .ok (.getfield 10, 3) := by decide +kernel
theorem dX6_digest_66 : decode cX6_digest 66 = .ok (.getfield 33, 3) := by decide +kernel
theorem dX6_digest_69 : decode cX6_digest 69 = .ok (.if_icmp .ge 25, 3) := by decide +kernel
theorem dX6_digest_72 : decode cX6_digest 72 = .ok (.ldc2_w 151, 3) := by decide +kernel
theorem dX6_digest_75 : decode cX6_digest 75 = .ok (.lload_n 1, 1) := by decide +kernel
theorem dX6_digest_76 : decode cX6_digest 76 = .ok (.lmul, 1) := by decide +kernel
theorem dX6_digest_77 : decode cX6_digest 77 = .ok (.aload_n 0, 1) := by decide +kernel
theorem dX6_digest_78 : decode cX6_digest 78 = .ok (.getfield 10, 3) := by decide +kernel
theorem dX6_digest_81 : decode cX6_digest 81 = .ok (.iload_n 3, 1) := by decide +kernel
theorem dX6_digest_82 : decode cX6_digest 82 = .ok (.invokevirtual 153, 3) := by decide +kernel
theorem dX6_digest_85 : decode cX6_digest 85 = .ok (.i2l, 1) := by decide +kernel
theorem dX6_digest_86 : decode cX6_digest 86 = .ok (.ladd, 1) := by decide +kernel
theorem dX6_digest_87 : decode cX6_digest 87 = .ok (.lstore_n 1, 1) := by decide +kernel
theorem dX6_digest_88 : decode cX6_digest 88 = .ok (.iinc 3 1, 3) := by decide +kernel
theorem dX6_digest_91 : decode cX6_digest 91 = .ok (.goto (-30), 3) := by decide +kernel
theorem dX6_digest_94 : decode cX6_digest 94 = .ok (.iconst 0, 1) := by decide +kernel
theorem dX6_digest_95 : decode cX6_digest 95 = .ok (.istore_n 3, 1) := by decide +kernel
theorem dX6_digest_96 : decode cX6_digest 96 = .ok (.iload_n 3, 1) := by decide +kernel
theorem dX6_digest_97 : decode cX6_digest 97 = .ok (.bipush 7, 2) := by decide +kernel
theorem dX6_digest_99 : decode cX6_digest 99 = .ok (.if_icmp .gt 22, 3) := by decide +kernel
theorem dX6_digest_102 : decode cX6_digest 102 = .ok (.ldc2_w 151, 3) := by decide +kernel
theorem dX6_digest_105 : decode cX6_digest 105 = .ok (.lload_n 1, 1) := by decide +kernel
theorem dX6_digest_106 : decode cX6_digest 106 = .ok (.lmul, 1) := by decide +kernel
theorem dX6_digest_107 : decode cX6_digest 107 = .ok (.aload_n 0, 1) := by decide +kernel
theorem dX6_digest_108 : decode cX6_digest 108 = .ok (.iload_n 3, 1) := by decide +kernel
theorem dX6_digest_109 : decode cX6_digest 109 = .ok (.invokevirtual 138, 3) := by decide +kernel
theorem dX6_digest_112 : decode cX6_digest 112 = .ok (.i2l, 1) := by decide +kernel
theorem dX6_digest_113 : decode cX6_digest 113 = .ok (.ladd, 1) := by decide +kernel
theorem dX6_digest_114 : decode cX6_digest 114 = .ok (.lstore_n 1, 1) := by decide +kernel
theorem dX6_digest_115 : decode cX6_digest 115 = .ok (.iinc 3 1, 3) := by decide +kernel
theorem dX6_digest_118 : decode cX6_digest 118 = .ok (.goto (-22), 3) := by decide +kernel
theorem dX6_digest_121 : decode cX6_digest 121 = .ok (.lload_n 1, 1) := by decide +kernel
theorem dX6_digest_122 : decode cX6_digest 122 = .ok (.lreturn, 1) := by decide +kernel
theorem dX6_isKind_0 : decode cX6_isKind 0 = .ok (.iload_n 0, 1) := by decide +kernel
theorem dX6_isKind_1 : decode cX6_isKind 1 = .ok (.ifCond .lt 12, 3) := by decide +kernel
theorem dX6_isKind_4 : decode cX6_isKind 4 = .ok (.iload_n 0, 1) := by decide +kernel
theorem dX6_isKind_5 : decode cX6_isKind 5 = .ok (.iconst 5, 1) := by decide +kernel
theorem dX6_isKind_6 : decode cX6_isKind 6 = .ok (.if_icmp .ge 7, 3) := by decide +kernel
theorem dX6_isKind_9 : decode cX6_isKind 9 = .ok (.iconst 1, 1) := by decide +kernel
theorem dX6_isKind_10 : decode cX6_isKind 10 = .ok (.goto 4, 3) := by decide +kernel
theorem dX6_isKind_13 : decode cX6_isKind 13 = .ok (.iconst 0, 1) := by decide +kernel
theorem dX6_isKind_14 : decode cX6_isKind 14 = .ok (.ireturn, 1) := by decide +kernel
theorem dX6_isSaying_0 : decode cX6_isSaying 0 = .ok (.iload_n 0, 1) := by decide +kernel
theorem dX6_isSaying_1 : decode cX6_isSaying 1 = .ok (.ifCond .lt 12, 3) := by decide +kernel
theorem dX6_isSaying_4 : decode cX6_isSaying 4 = .ok (.iload_n 0, 1) := by decide +kernel
theorem dX6_isSaying_5 : decode cX6_isSaying 5 = .ok (.iconst 4, 1) := by decide +kernel
theorem dX6_isSaying_6 : decode cX6_isSaying 6 = .ok (.if_icmp .ge 7, 3) := by decide +kernel
theorem dX6_isSaying_9 : decode cX6_isSaying 9 = .ok (.iconst 1, 1) := by decide +kernel
theorem dX6_isSaying_10 : decode cX6_isSaying 10 = .ok (.goto 4, 3) := by decide +kernel
theorem dX6_isSaying_13 : decode cX6_isSaying 13 = .ok (.iconst 0, 1) := by decide +kernel
theorem dX6_isSaying_14 : decode cX6_isSaying 14 = .ok (.ireturn, 1) := by decide +kernel
theorem dX6_kindOfLetter_0 : decode cX6_kindOfLetter 0 = .ok (.iload_n 0, 1) := by decide +kernel
theorem dX6_kindOfLetter_1 : decode cX6_kindOfLetter 1 = .ok (.lookupswitch 61 #[(98, 53), (101, 59), (111, 57), (116, 51), (119, 55)], 51) := by decide +kernel
theorem dX6_kindOfLetter_52 : decode cX6_kindOfLetter 52 = .ok (.iconst 0, 1) := by decide +kernel
theorem dX6_kindOfLetter_53 : decode cX6_kindOfLetter 53 = .ok (.ireturn, 1) := by decide +kernel
theorem dX6_kindOfLetter_54 : decode cX6_kindOfLetter 54 = .ok (.iconst 1, 1) := by decide +kernel
theorem dX6_kindOfLetter_55 : decode cX6_kindOfLetter 55 = .ok (.ireturn, 1) := by decide +kernel
theorem dX6_kindOfLetter_56 : decode cX6_kindOfLetter 56 = .ok (.iconst 2, 1) := by decide +kernel
theorem dX6_kindOfLetter_57 : decode cX6_kindOfLetter 57 = .ok (.ireturn, 1) := by decide +kernel
theorem dX6_kindOfLetter_58 : decode cX6_kindOfLetter 58 = .ok (.iconst 3, 1) := by decide +kernel
theorem dX6_kindOfLetter_59 : decode cX6_kindOfLetter 59 = .ok (.ireturn, 1) := by decide +kernel
theorem dX6_kindOfLetter_60 : decode cX6_kindOfLetter 60 = .ok (.iconst 4, 1) := by decide +kernel
theorem dX6_kindOfLetter_61 : decode cX6_kindOfLetter 61 = .ok (.ireturn, 1) := by decide +kernel
theorem dX6_kindOfLetter_62 : decode cX6_kindOfLetter 62 = .ok (.iconst (-1), 1) := by decide +kernel
theorem dX6_kindOfLetter_63 : decode cX6_kindOfLetter 63 = .ok (.ireturn, 1) := by decide +kernel
theorem dX6_readPage_0 : decode cX6_readPage 0 = .ok (.iconst 0, 1) := by decide +kernel
theorem dX6_readPage_1 : decode cX6_readPage 1 = .ok (.istore_n 1, 1) := by decide +kernel
theorem dX6_readPage_2 : decode cX6_readPage 2 = .ok (.iconst 0, 1) := by decide +kernel
theorem dX6_readPage_3 : decode cX6_readPage 3 = .ok (.istore_n 2, 1) := by decide +kernel
theorem dX6_readPage_4 : decode cX6_readPage 4 = .ok (.iconst 0, 1) := by decide +kernel
theorem dX6_readPage_5 : decode cX6_readPage 5 = .ok (.istore_n 3, 1) := by decide +kernel
theorem dX6_readPage_6 : decode cX6_readPage 6 = .ok (.iconst 0, 1) := by decide +kernel
theorem dX6_readPage_7 : decode cX6_readPage 7 = .ok (.istore 4, 2) := by decide +kernel
theorem dX6_readPage_9 : decode cX6_readPage 9 = .ok (.iload 4, 2) := by decide +kernel
theorem dX6_readPage_11 : decode cX6_readPage 11 = .ok (.aload_n 0, 1) := by decide +kernel
theorem dX6_readPage_12 : decode cX6_readPage 12 = .ok (.getfield 10, 3) := by decide +kernel
theorem dX6_readPage_15 : decode cX6_readPage 15 = .ok (.getfield 33, 3) := by decide +kernel
theorem dX6_readPage_18 : decode cX6_readPage 18 = .ok (.if_icmp .ge 103, 3) := by decide +kernel
theorem dX6_readPage_21 : decode cX6_readPage 21 = .ok (.aload_n 0, 1) := by decide +kernel
theorem dX6_readPage_22 : decode cX6_readPage 22 = .ok (.getfield 10, 3) := by decide +kernel
theorem dX6_readPage_25 : decode cX6_readPage 25 = .ok (.iload 4, 2) := by decide +kernel
theorem dX6_readPage_27 : decode cX6_readPage 27 = .ok (.invokevirtual 153, 3) := by decide +kernel
theorem dX6_readPage_30 : decode cX6_readPage 30 = .ok (.istore 5, 2) := by decide +kernel
theorem dX6_readPage_32 : decode cX6_readPage 32 = .ok (.iload 5, 2) := by decide +kernel
theorem dX6_readPage_34 : decode cX6_readPage 34 = .ok (.bipush 44, 2) := by decide +kernel
theorem dX6_readPage_36 : decode cX6_readPage 36 = .ok (.if_icmp .ne 9, 3) := by decide +kernel
theorem dX6_readPage_39 : decode cX6_readPage 39 = .ok (.iinc 2 1, 3) := by decide +kernel
theorem dX6_readPage_42 : decode cX6_readPage 42 = .ok (.goto 73, 3) := by decide +kernel
theorem dX6_readPage_45 : decode cX6_readPage 45 = .ok (.iload 5, 2) := by decide +kernel
theorem dX6_readPage_47 : decode cX6_readPage 47 = .ok (.bipush 59, 2) := by decide +kernel
theorem dX6_readPage_49 : decode cX6_readPage 49 = .ok (.if_icmp .ne 8, 3) := by decide +kernel
theorem dX6_readPage_52 : decode cX6_readPage 52 = .ok (.iconst 1, 1) := by decide +kernel
theorem dX6_readPage_53 : decode cX6_readPage 53 = .ok (.istore_n 1, 1) := by decide +kernel
theorem dX6_readPage_54 : decode cX6_readPage 54 = .ok (.goto 61, 3) := by decide +kernel
theorem dX6_readPage_57 : decode cX6_readPage 57 = .ok (.iload_n 1, 1) := by decide +kernel
theorem dX6_readPage_58 : decode cX6_readPage 58 = .ok (.ifCond .ne 26, 3) := by decide +kernel
theorem dX6_readPage_61 : decode cX6_readPage 61 = .ok (.aload_n 0, 1) := by decide +kernel
theorem dX6_readPage_62 : decode cX6_readPage 62 = .ok (.getfield 19, 3) := by decide +kernel
theorem dX6_readPage_65 : decode cX6_readPage 65 = .ok (.iload_n 2, 1) := by decide +kernel
theorem dX6_readPage_66 : decode cX6_readPage 66 = .ok (.iload 5, 2) := by decide +kernel
theorem dX6_readPage_68 : decode cX6_readPage 68 = .ok (.bipush 108, 2) := by decide +kernel
theorem dX6_readPage_70 : decode cX6_readPage 70 = .ok (.if_icmp .ne 7, 3) := by decide +kernel
theorem dX6_readPage_73 : decode cX6_readPage 73 = .ok (.iconst 1, 1) := by decide +kernel
theorem dX6_readPage_74 : decode cX6_readPage 74 = .ok (.goto 4, 3) := by decide +kernel
theorem dX6_readPage_77 : decode cX6_readPage 77 = .ok (.iconst 0, 1) := by decide +kernel
theorem dX6_readPage_78 : decode cX6_readPage 78 = .ok (.invokevirtual 156, 3) := by decide +kernel
theorem dX6_readPage_81 : decode cX6_readPage 81 = .ok (.goto 34, 3) := by decide +kernel
theorem dX6_readPage_84 : decode cX6_readPage 84 = .ok (.iload 5, 2) := by decide +kernel
theorem dX6_readPage_86 : decode cX6_readPage 86 = .ok (.invokestatic 159, 3) := by decide +kernel
theorem dX6_readPage_89 : decode cX6_readPage 89 = .ok (.iconst (-1), 1) := by decide +kernel
theorem dX6_readPage_90 : decode cX6_readPage 90 = .ok (.if_icmp .eq 12, 3) := by decide +kernel
theorem dX6_readPage_93 : decode cX6_readPage 93 = .ok (.iload 5, 2) := by decide +kernel
theorem dX6_readPage_95 : decode cX6_readPage 95 = .ok (.invokestatic 159, 3) := by decide +kernel
theorem dX6_readPage_98 : decode cX6_readPage 98 = .ok (.istore_n 3, 1) := by decide +kernel
theorem dX6_readPage_99 : decode cX6_readPage 99 = .ok (.goto 16, 3) := by decide +kernel
theorem dX6_readPage_102 : decode cX6_readPage 102 = .ok (.aload_n 0, 1) := by decide +kernel
theorem dX6_readPage_103 : decode cX6_readPage 103 = .ok (.getfield 26, 3) := by decide +kernel
theorem dX6_readPage_106 : decode cX6_readPage 106 = .ok (.iload_n 3, 1) := by decide +kernel
theorem dX6_readPage_107 : decode cX6_readPage 107 = .ok (.iload 5, 2) := by decide +kernel
theorem dX6_readPage_109 : decode cX6_readPage 109 = .ok (.bipush 48, 2) := by decide +kernel
theorem dX6_readPage_111 : decode cX6_readPage 111 = .ok (.isub, 1) := by decide +kernel
theorem dX6_readPage_112 : decode cX6_readPage 112 = .ok (.invokevirtual 85, 3) := by decide +kernel
theorem dX6_readPage_115 : decode cX6_readPage 115 = .ok (.iinc 4 1, 3) := by decide +kernel
theorem dX6_readPage_118 : decode cX6_readPage 118 = .ok (.goto (-109), 3) := by decide +kernel
theorem dX6_readPage_121 : decode cX6_readPage 121 = .ok (.return_, 1) := by decide +kernel
theorem dX6_dripOf_0 : decode cX6_dripOf 0 = .ok (.aload_n 0, 1) := by decide +kernel
theorem dX6_dripOf_1 : decode cX6_dripOf 1 = .ok (.getfield 19, 3) := by decide +kernel
theorem dX6_dripOf_4 : decode cX6_dripOf 4 = .ok (.aload_n 1, 1) := by decide +kernel
theorem dX6_dripOf_5 : decode cX6_dripOf 5 = .ok (.getfield 97, 3) := by decide +kernel
theorem dX6_dripOf_8 : decode cX6_dripOf 8 = .ok (.aload_n 1, 1) := by decide +kernel
theorem dX6_dripOf_9 : decode cX6_dripOf 9 = .ok (.getfield 114, 3) := by decide +kernel
theorem dX6_dripOf_12 : decode cX6_dripOf 12 = .ok (.aload_n 1, 1) := by decide +kernel
theorem dX6_dripOf_13 : decode cX6_dripOf 13 = .ok (.getfield 111, 3) := by decide +kernel
theorem dX6_dripOf_16 : decode cX6_dripOf 16 = .ok (.iload_n 2, 1) := by decide +kernel
theorem dX6_dripOf_17 : decode cX6_dripOf 17 = .ok (.invokevirtual 162, 3) := by decide +kernel
theorem dX6_dripOf_20 : decode cX6_dripOf 20 = .ok (.ireturn, 1) := by decide +kernel
theorem dX6_aboutOf_0 : decode cX6_aboutOf 0 = .ok (.iload_n 2, 1) := by decide +kernel
theorem dX6_aboutOf_1 : decode cX6_aboutOf 1 = .ok (.tableswitch 96 0 7 #[47, 52, 57, 62, 67, 73, 79, 85], 47) := by decide +kernel
theorem dX6_aboutOf_48 : decode cX6_aboutOf 48 = .ok (.aload_n 1, 1) := by decide +kernel
theorem dX6_aboutOf_49 : decode cX6_aboutOf 49 = .ok (.getfield 97, 3) := by decide +kernel
theorem dX6_aboutOf_52 : decode cX6_aboutOf 52 = .ok (.ireturn, 1) := by decide +kernel
theorem dX6_aboutOf_53 : decode cX6_aboutOf 53 = .ok (.aload_n 1, 1) := by decide +kernel
theorem dX6_aboutOf_54 : decode cX6_aboutOf 54 = .ok (.getfield 114, 3) := by decide +kernel
theorem dX6_aboutOf_57 : decode cX6_aboutOf 57 = .ok (.ireturn, 1) := by decide +kernel
theorem dX6_aboutOf_58 : decode cX6_aboutOf 58 = .ok (.aload_n 1, 1) := by decide +kernel
theorem dX6_aboutOf_59 : decode cX6_aboutOf 59 = .ok (.getfield 111, 3) := by decide +kernel
theorem dX6_aboutOf_62 : decode cX6_aboutOf 62 = .ok (.ireturn, 1) := by decide +kernel
theorem dX6_aboutOf_63 : decode cX6_aboutOf 63 = .ok (.aload_n 1, 1) := by decide +kernel
theorem dX6_aboutOf_64 : decode cX6_aboutOf 64 = .ok (.getfield 105, 3) := by decide +kernel
theorem dX6_aboutOf_67 : decode cX6_aboutOf 67 = .ok (.ireturn, 1) := by decide +kernel
theorem dX6_aboutOf_68 : decode cX6_aboutOf 68 = .ok (.aload_n 0, 1) := by decide +kernel
theorem dX6_aboutOf_69 : decode cX6_aboutOf 69 = .ok (.aload_n 1, 1) := by decide +kernel
theorem dX6_aboutOf_70 : decode cX6_aboutOf 70 = .ok (.invokevirtual 166, 3) := by decide +kernel
theorem dX6_aboutOf_73 : decode cX6_aboutOf 73 = .ok (.ireturn, 1) := by decide +kernel
theorem dX6_aboutOf_74 : decode cX6_aboutOf 74 = .ok (.aload_n 0, 1) := by decide +kernel
theorem dX6_aboutOf_75 : decode cX6_aboutOf 75 = .ok (.aload_n 1, 1) := by decide +kernel
theorem dX6_aboutOf_76 : decode cX6_aboutOf 76 = .ok (.invokevirtual 170, 3) := by decide +kernel
theorem dX6_aboutOf_79 : decode cX6_aboutOf 79 = .ok (.ireturn, 1) := by decide +kernel
theorem dX6_aboutOf_80 : decode cX6_aboutOf 80 = .ok (.aload_n 0, 1) := by decide +kernel
theorem dX6_aboutOf_81 : decode cX6_aboutOf 81 = .ok (.aload_n 1, 1) := by decide +kernel
theorem dX6_aboutOf_82 : decode cX6_aboutOf 82 = .ok (.invokevirtual 173, 3) := by decide +kernel
theorem dX6_aboutOf_85 : decode cX6_aboutOf 85 = .ok (.ireturn, 1) := by decide +kernel
theorem dX6_aboutOf_86 : decode cX6_aboutOf 86 = .ok (.aload_n 0, 1) := by decide +kernel
theorem dX6_aboutOf_87 : decode cX6_aboutOf 87 = .ok (.aload_n 1, 1) := by decide +kernel
theorem dX6_aboutOf_88 : decode cX6_aboutOf 88 = .ok (.aload_n 0, 1) := by decide +kernel
theorem dX6_aboutOf_89 : decode cX6_aboutOf 89 = .ok (.aload_n 1, 1) := by decide +kernel
theorem dX6_aboutOf_90 : decode cX6_aboutOf 90 = .ok (.invokevirtual 173, 3) := by decide +kernel
theorem dX6_aboutOf_93 : decode cX6_aboutOf 93 = .ok (.invokevirtual 176, 3) := by decide +kernel
theorem dX6_aboutOf_96 : decode cX6_aboutOf 96 = .ok (.ireturn, 1) := by decide +kernel
theorem dX6_aboutOf_97 : decode cX6_aboutOf 97 = .ok (.aload_n 0, 1) := by decide +kernel
theorem dX6_aboutOf_98 : decode cX6_aboutOf 98 = .ok (.aload_n 1, 1) := by decide +kernel
theorem dX6_aboutOf_99 : decode cX6_aboutOf 99 = .ok (.aload_n 0, 1) := by decide +kernel
theorem dX6_aboutOf_100 : decode cX6_aboutOf 100 = .ok (.aload_n 1, 1) := by decide +kernel
theorem dX6_aboutOf_101 : decode cX6_aboutOf 101 = .ok (.invokevirtual 170, 3) := by decide +kernel
theorem dX6_aboutOf_104 : decode cX6_aboutOf 104 = .ok (.invokevirtual 179, 3) := by decide +kernel
theorem dX6_aboutOf_107 : decode cX6_aboutOf 107 = .ok (.ireturn, 1) := by decide +kernel
theorem dX6_sureOf_0 : decode cX6_sureOf 0 = .ok (.iconst 0, 1) := by decide +kernel
theorem dX6_sureOf_1 : decode cX6_sureOf 1 = .ok (.istore_n 2, 1) := by decide +kernel
theorem dX6_sureOf_2 : decode cX6_sureOf 2 = .ok (.iconst 0, 1) := by decide +kernel
theorem dX6_sureOf_3 : decode cX6_sureOf 3 = .ok (.istore_n 3, 1) := by decide +kernel
theorem dX6_sureOf_4 : decode cX6_sureOf 4 = .ok (.iload_n 3, 1) := by decide +kernel
theorem dX6_sureOf_5 : decode cX6_sureOf 5 = .ok (.iconst 4, 1) := by decide +kernel
theorem dX6_sureOf_6 : decode cX6_sureOf 6 = .ok (.if_icmp .ge 51, 3) := by decide +kernel
theorem dX6_sureOf_9 : decode cX6_sureOf 9 = .ok (.iload_n 3, 1) := by decide +kernel
theorem dX6_sureOf_10 : decode cX6_sureOf 10 = .ok (.iconst 1, 1) := by decide +kernel
theorem dX6_sureOf_11 : decode cX6_sureOf 11 = .ok (.iadd, 1) := by decide +kernel
theorem dX6_sureOf_12 : decode cX6_sureOf 12 = .ok (.istore 4, 2) := by decide +kernel
theorem dX6_sureOf_14 : decode cX6_sureOf 14 = .ok (.iload 4, 2) := by decide +kernel
theorem dX6_sureOf_16 : decode cX6_sureOf 16 = .ok (.iconst 4, 1) := by decide +kernel
theorem dX6_sureOf_17 : decode cX6_sureOf 17 = .ok (.if_icmp .ge 34, 3) := by decide +kernel
theorem dX6_sureOf_20 : decode cX6_sureOf 20 = .ok (.aload_n 0, 1) := by decide +kernel
theorem dX6_sureOf_21 : decode cX6_sureOf 21 = .ok (.aload_n 1, 1) := by decide +kernel
theorem dX6_sureOf_22 : decode cX6_sureOf 22 = .ok (.iload_n 3, 1) := by decide +kernel
theorem dX6_sureOf_23 : decode cX6_sureOf 23 = .ok (.iload 4, 2) := by decide +kernel
theorem dX6_sureOf_25 : decode cX6_sureOf 25 = .ok (.invokevirtual 182, 3) := by decide +kernel
theorem dX6_sureOf_28 : decode cX6_sureOf 28 = .ok (.istore 5, 2) := by decide +kernel
theorem dX6_sureOf_30 : decode cX6_sureOf 30 = .ok (.iload 5, 2) := by decide +kernel
theorem dX6_sureOf_32 : decode cX6_sureOf 32 = .ok (.iconst (-1), 1) := by decide +kernel
theorem dX6_sureOf_33 : decode cX6_sureOf 33 = .ok (.if_icmp .ne 5, 3) := by decide +kernel
theorem dX6_sureOf_36 : decode cX6_sureOf 36 = .ok (.iconst (-1), 1) := by decide +kernel
theorem dX6_sureOf_37 : decode cX6_sureOf 37 = .ok (.ireturn, 1) := by decide +kernel
theorem dX6_sureOf_38 : decode cX6_sureOf 38 = .ok (.iload_n 2, 1) := by decide +kernel
theorem dX6_sureOf_39 : decode cX6_sureOf 39 = .ok (.iload 5, 2) := by decide +kernel
theorem dX6_sureOf_41 : decode cX6_sureOf 41 = .ok (.invokestatic 185, 3) := by decide +kernel
theorem dX6_sureOf_44 : decode cX6_sureOf 44 = .ok (.istore_n 2, 1) := by decide +kernel
theorem dX6_sureOf_45 : decode cX6_sureOf 45 = .ok (.iinc 4 1, 3) := by decide +kernel
theorem dX6_sureOf_48 : decode cX6_sureOf 48 = .ok (.goto (-34), 3) := by decide +kernel
theorem dX6_sureOf_51 : decode cX6_sureOf 51 = .ok (.iinc 3 1, 3) := by decide +kernel
theorem dX6_sureOf_54 : decode cX6_sureOf 54 = .ok (.goto (-50), 3) := by decide +kernel
theorem dX6_sureOf_57 : decode cX6_sureOf 57 = .ok (.iload_n 2, 1) := by decide +kernel
theorem dX6_sureOf_58 : decode cX6_sureOf 58 = .ok (.ireturn, 1) := by decide +kernel
theorem dX6_enoughToTell_0 : decode cX6_enoughToTell 0 = .ok (.iconst 0, 1) := by decide +kernel
theorem dX6_enoughToTell_1 : decode cX6_enoughToTell 1 = .ok (.istore 4, 2) := by decide +kernel
theorem dX6_enoughToTell_3 : decode cX6_enoughToTell 3 = .ok (.iload 4, 2) := by decide +kernel
theorem dX6_enoughToTell_5 : decode cX6_enoughToTell 5 = .ok (.bipush 16, 2) := by decide +kernel
theorem dX6_enoughToTell_7 : decode cX6_enoughToTell 7 = .ok (.if_icmp .ge 71, 3) := by decide +kernel
theorem dX6_enoughToTell_10 : decode cX6_enoughToTell 10 = .ok (.aload_n 0, 1) := by decide +kernel
theorem dX6_enoughToTell_11 : decode cX6_enoughToTell 11 = .ok (.getfield 19, 3) := by decide +kernel
theorem dX6_enoughToTell_14 : decode cX6_enoughToTell 14 = .ok (.aload_n 1, 1) := by decide +kernel
theorem dX6_enoughToTell_15 : decode cX6_enoughToTell 15 = .ok (.getfield 97, 3) := by decide +kernel
theorem dX6_enoughToTell_18 : decode cX6_enoughToTell 18 = .ok (.iload_n 2, 1) := by decide +kernel
theorem dX6_enoughToTell_19 : decode cX6_enoughToTell 19 = .ok (.aload_n 1, 1) := by decide +kernel
theorem dX6_enoughToTell_20 : decode cX6_enoughToTell 20 = .ok (.getfield 111, 3) := by decide +kernel
theorem dX6_enoughToTell_23 : decode cX6_enoughToTell 23 = .ok (.aload_n 1, 1) := by decide +kernel
theorem dX6_enoughToTell_24 : decode cX6_enoughToTell 24 = .ok (.getfield 105, 3) := by decide +kernel
theorem dX6_enoughToTell_27 : decode cX6_enoughToTell 27 = .ok (.iload 4, 2) := by decide +kernel
theorem dX6_enoughToTell_29 : decode cX6_enoughToTell 29 = .ok (.iadd, 1) := by decide +kernel
theorem dX6_enoughToTell_30 : decode cX6_enoughToTell 30 = .ok (.invokevirtual 162, 3) := by decide +kernel
theorem dX6_enoughToTell_33 : decode cX6_enoughToTell 33 = .ok (.istore 5, 2) := by decide +kernel
theorem dX6_enoughToTell_35 : decode cX6_enoughToTell 35 = .ok (.aload_n 0, 1) := by decide +kernel
theorem dX6_enoughToTell_36 : decode cX6_enoughToTell 36 = .ok (.getfield 19, 3) := by decide +kernel
theorem dX6_enoughToTell_39 : decode cX6_enoughToTell 39 = .ok (.aload_n 1, 1) := by decide +kernel
theorem dX6_enoughToTell_40 : decode cX6_enoughToTell 40 = .ok (.getfield 97, 3) := by decide +kernel
theorem dX6_enoughToTell_43 : decode cX6_enoughToTell 43 = .ok (.iload_n 3, 1) := by decide +kernel
theorem dX6_enoughToTell_44 : decode cX6_enoughToTell 44 = .ok (.aload_n 1, 1) := by decide +kernel
theorem dX6_enoughToTell_45 : decode cX6_enoughToTell 45 = .ok (.getfield 111, 3) := by decide +kernel
theorem dX6_enoughToTell_48 : decode cX6_enoughToTell 48 = .ok (.aload_n 1, 1) := by decide +kernel
theorem dX6_enoughToTell_49 : decode cX6_enoughToTell 49 = .ok (.getfield 105, 3) := by decide +kernel
theorem dX6_enoughToTell_52 : decode cX6_enoughToTell 52 = .ok (.iload 4, 2) := by decide +kernel
theorem dX6_enoughToTell_54 : decode cX6_enoughToTell 54 = .ok (.iadd, 1) := by decide +kernel
theorem dX6_enoughToTell_55 : decode cX6_enoughToTell 55 = .ok (.invokevirtual 162, 3) := by decide +kernel
theorem dX6_enoughToTell_58 : decode cX6_enoughToTell 58 = .ok (.istore 6, 2) := by decide +kernel
theorem dX6_enoughToTell_60 : decode cX6_enoughToTell 60 = .ok (.iload 5, 2) := by decide +kernel
theorem dX6_enoughToTell_62 : decode cX6_enoughToTell 62 = .ok (.iload 6, 2) := by decide +kernel
theorem dX6_enoughToTell_64 : decode cX6_enoughToTell 64 = .ok (.if_icmp .eq 8, 3) := by decide +kernel
theorem dX6_enoughToTell_67 : decode cX6_enoughToTell 67 = .ok (.iload 4, 2) := by decide +kernel
theorem dX6_enoughToTell_69 : decode cX6_enoughToTell 69 = .ok (.iconst 1, 1) := by decide +kernel
theorem dX6_enoughToTell_70 : decode cX6_enoughToTell 70 = .ok (.iadd, 1) := by decide +kernel
theorem dX6_enoughToTell_71 : decode cX6_enoughToTell 71 = .ok (.ireturn, 1) := by decide +kernel
theorem dX6_enoughToTell_72 : decode cX6_enoughToTell 72 = .ok (.iinc 4 1, 3) := by decide +kernel
theorem dX6_enoughToTell_75 : decode cX6_enoughToTell 75 = .ok (.goto (-72), 3) := by decide +kernel
theorem dX6_enoughToTell_78 : decode cX6_enoughToTell 78 = .ok (.iconst (-1), 1) := by decide +kernel
theorem dX6_enoughToTell_79 : decode cX6_enoughToTell 79 = .ok (.ireturn, 1) := by decide +kernel
theorem dX6_saysOf_0 : decode cX6_saysOf 0 = .ok (.iconst 0, 1) := by decide +kernel
theorem dX6_saysOf_1 : decode cX6_saysOf 1 = .ok (.istore_n 2, 1) := by decide +kernel
theorem dX6_saysOf_2 : decode cX6_saysOf 2 = .ok (.iconst 0, 1) := by decide +kernel
theorem dX6_saysOf_3 : decode cX6_saysOf 3 = .ok (.istore_n 3, 1) := by decide +kernel
theorem dX6_saysOf_4 : decode cX6_saysOf 4 = .ok (.iload_n 3, 1) := by decide +kernel
theorem dX6_saysOf_5 : decode cX6_saysOf 5 = .ok (.iconst 4, 1) := by decide +kernel
theorem dX6_saysOf_6 : decode cX6_saysOf 6 = .ok (.if_icmp .ge 24, 3) := by decide +kernel
theorem dX6_saysOf_9 : decode cX6_saysOf 9 = .ok (.aload_n 0, 1) := by decide +kernel
theorem dX6_saysOf_10 : decode cX6_saysOf 10 = .ok (.aload_n 1, 1) := by decide +kernel
theorem dX6_saysOf_11 : decode cX6_saysOf 11 = .ok (.iload_n 3, 1) := by decide +kernel
theorem dX6_saysOf_12 : decode cX6_saysOf 12 = .ok (.invokevirtual 176, 3) := by decide +kernel
theorem dX6_saysOf_15 : decode cX6_saysOf 15 = .ok (.ifCond .ne 9, 3) := by decide +kernel
theorem dX6_saysOf_18 : decode cX6_saysOf 18 = .ok (.iload_n 2, 1) := by decide +kernel
theorem dX6_saysOf_19 : decode cX6_saysOf 19 = .ok (.iconst 1, 1) := by decide +kernel
theorem dX6_saysOf_20 : decode cX6_saysOf 20 = .ok (.iload_n 3, 1) := by decide +kernel
theorem dX6_saysOf_21 : decode cX6_saysOf 21 = .ok (.ishl, 1) := by decide +kernel
theorem dX6_saysOf_22 : decode cX6_saysOf 22 = .ok (.ior, 1) := by decide +kernel
theorem dX6_saysOf_23 : decode cX6_saysOf 23 = .ok (.istore_n 2, 1) := by decide +kernel
theorem dX6_saysOf_24 : decode cX6_saysOf 24 = .ok (.iinc 3 1, 3) := by decide +kernel
theorem dX6_saysOf_27 : decode cX6_saysOf 27 = .ok (.goto (-23), 3) := by decide +kernel
theorem dX6_saysOf_30 : decode cX6_saysOf 30 = .ok (.iload_n 2, 1) := by decide +kernel
theorem dX6_saysOf_31 : decode cX6_saysOf 31 = .ok (.ireturn, 1) := by decide +kernel
theorem dX6_likelyOf_0 : decode cX6_likelyOf 0 = .ok (.iconst 0, 1) := by decide +kernel
theorem dX6_likelyOf_1 : decode cX6_likelyOf 1 = .ok (.istore_n 2, 1) := by decide +kernel
theorem dX6_likelyOf_2 : decode cX6_likelyOf 2 = .ok (.iconst 1, 1) := by decide +kernel
theorem dX6_likelyOf_3 : decode cX6_likelyOf 3 = .ok (.istore_n 3, 1) := by decide +kernel
theorem dX6_likelyOf_4 : decode cX6_likelyOf 4 = .ok (.iload_n 3, 1) := by decide +kernel
theorem dX6_likelyOf_5 : decode cX6_likelyOf 5 = .ok (.iconst 4, 1) := by decide +kernel
theorem dX6_likelyOf_6 : decode cX6_likelyOf 6 = .ok (.if_icmp .ge 26, 3) := by decide +kernel
theorem dX6_likelyOf_9 : decode cX6_likelyOf 9 = .ok (.aload_n 0, 1) := by decide +kernel
theorem dX6_likelyOf_10 : decode cX6_likelyOf 10 = .ok (.aload_n 1, 1) := by decide +kernel
theorem dX6_likelyOf_11 : decode cX6_likelyOf 11 = .ok (.iload_n 3, 1) := by decide +kernel
theorem dX6_likelyOf_12 : decode cX6_likelyOf 12 = .ok (.invokevirtual 176, 3) := by decide +kernel
theorem dX6_likelyOf_15 : decode cX6_likelyOf 15 = .ok (.aload_n 0, 1) := by decide +kernel
theorem dX6_likelyOf_16 : decode cX6_likelyOf 16 = .ok (.aload_n 1, 1) := by decide +kernel
theorem dX6_likelyOf_17 : decode cX6_likelyOf 17 = .ok (.iload_n 2, 1) := by decide +kernel
theorem dX6_likelyOf_18 : decode cX6_likelyOf 18 = .ok (.invokevirtual 176, 3) := by decide +kernel
theorem dX6_likelyOf_21 : decode cX6_likelyOf 21 = .ok (.if_icmp .ge 5, 3) := by decide +kernel
theorem dX6_likelyOf_24 : decode cX6_likelyOf 24 = .ok (.iload_n 3, 1) := by decide +kernel
theorem dX6_likelyOf_25 : decode cX6_likelyOf 25 = .ok (.istore_n 2, 1) := by decide +kernel
theorem dX6_likelyOf_26 : decode cX6_likelyOf 26 = .ok (.iinc 3 1, 3) := by decide +kernel
theorem dX6_likelyOf_29 : decode cX6_likelyOf 29 = .ok (.goto (-25), 3) := by decide +kernel
theorem dX6_likelyOf_32 : decode cX6_likelyOf 32 = .ok (.iload_n 2, 1) := by decide +kernel
theorem dX6_likelyOf_33 : decode cX6_likelyOf 33 = .ok (.ireturn, 1) := by decide +kernel
theorem dX6_slipsOf_0 : decode cX6_slipsOf 0 = .ok (.iconst 0, 1) := by decide +kernel
theorem dX6_slipsOf_1 : decode cX6_slipsOf 1 = .ok (.istore_n 3, 1) := by decide +kernel
theorem dX6_slipsOf_2 : decode cX6_slipsOf 2 = .ok (.iconst 0, 1) := by decide +kernel
theorem dX6_slipsOf_3 : decode cX6_slipsOf 3 = .ok (.istore 4, 2) := by decide +kernel
theorem dX6_slipsOf_5 : decode cX6_slipsOf 5 = .ok (.iload 4, 2) := by decide +kernel
theorem dX6_slipsOf_7 : decode cX6_slipsOf 7 = .ok (.aload_n 0, 1) := by decide +kernel
theorem dX6_slipsOf_8 : decode cX6_slipsOf 8 = .ok (.getfield 26, 3) := by decide +kernel
theorem dX6_slipsOf_11 : decode cX6_slipsOf 11 = .ok (.getfield 121, 3) := by decide +kernel
theorem dX6_slipsOf_14 : decode cX6_slipsOf 14 = .ok (.if_icmp .ge 73, 3) := by decide +kernel
theorem dX6_slipsOf_17 : decode cX6_slipsOf 17 = .ok (.aload_n 0, 1) := by decide +kernel
theorem dX6_slipsOf_18 : decode cX6_slipsOf 18 = .ok (.getfield 26, 3) := by decide +kernel
theorem dX6_slipsOf_21 : decode cX6_slipsOf 21 = .ok (.iload 4, 2) := by decide +kernel
theorem dX6_slipsOf_23 : decode cX6_slipsOf 23 = .ok (.invokevirtual 190, 3) := by decide +kernel
theorem dX6_slipsOf_26 : decode cX6_slipsOf 26 = .ok (.astore 5, 2) := by decide +kernel
theorem dX6_slipsOf_28 : decode cX6_slipsOf 28 = .ok (.aload 5, 2) := by decide +kernel
theorem dX6_slipsOf_30 : decode cX6_slipsOf 30 = .ok (.ifnull 51, 3) := by decide +kernel
theorem dX6_slipsOf_33 : decode cX6_slipsOf 33 = .ok (.aload 5, 2) := by decide +kernel
theorem dX6_slipsOf_35 : decode cX6_slipsOf 35 = .ok (.getfield 194, 3) := by decide +kernel
theorem dX6_slipsOf_38 : decode cX6_slipsOf 38 = .ok (.aload_n 1, 1) := by decide +kernel
theorem dX6_slipsOf_39 : decode cX6_slipsOf 39 = .ok (.getfield 199, 3) := by decide +kernel
theorem dX6_slipsOf_42 : decode cX6_slipsOf 42 = .ok (.if_icmp .eq 6, 3) := by decide +kernel
theorem dX6_slipsOf_45 : decode cX6_slipsOf 45 = .ok (.goto 36, 3) := by decide +kernel
theorem dX6_slipsOf_48 : decode cX6_slipsOf 48 = .ok (.aload_n 0, 1) := by decide +kernel
theorem dX6_slipsOf_49 : decode cX6_slipsOf 49 = .ok (.getfield 19, 3) := by decide +kernel
theorem dX6_slipsOf_52 : decode cX6_slipsOf 52 = .ok (.aload_n 1, 1) := by decide +kernel
theorem dX6_slipsOf_53 : decode cX6_slipsOf 53 = .ok (.getfield 97, 3) := by decide +kernel
theorem dX6_slipsOf_56 : decode cX6_slipsOf 56 = .ok (.iload_n 2, 1) := by decide +kernel
theorem dX6_slipsOf_57 : decode cX6_slipsOf 57 = .ok (.aload 5, 2) := by decide +kernel
theorem dX6_slipsOf_59 : decode cX6_slipsOf 59 = .ok (.getfield 202, 3) := by decide +kernel
theorem dX6_slipsOf_62 : decode cX6_slipsOf 62 = .ok (.aload 5, 2) := by decide +kernel
theorem dX6_slipsOf_64 : decode cX6_slipsOf 64 = .ok (.getfield 203, 3) := by decide +kernel
theorem dX6_slipsOf_67 : decode cX6_slipsOf 67 = .ok (.invokevirtual 162, 3) := by decide +kernel
theorem dX6_slipsOf_70 : decode cX6_slipsOf 70 = .ok (.aload 5, 2) := by decide +kernel
theorem dX6_slipsOf_72 : decode cX6_slipsOf 72 = .ok (.getfield 206, 3) := by decide +kernel
theorem dX6_slipsOf_75 : decode cX6_slipsOf 75 = .ok (.if_icmp .eq 6, 3) := by decide +kernel
theorem dX6_slipsOf_78 : decode cX6_slipsOf 78 = .ok (.iinc 3 1, 3) := by decide +kernel
theorem dX6_slipsOf_81 : decode cX6_slipsOf 81 = .ok (.iinc 4 1, 3) := by decide +kernel
theorem dX6_slipsOf_84 : decode cX6_slipsOf 84 = .ok (.goto (-79), 3) := by decide +kernel
theorem dX6_slipsOf_87 : decode cX6_slipsOf 87 = .ok (.iload_n 3, 1) := by decide +kernel
theorem dX6_slipsOf_88 : decode cX6_slipsOf 88 = .ok (.ireturn, 1) := by decide +kernel
theorem dX6_bestToHear_0 : decode cX6_bestToHear 0 = .ok (.iload_n 2, 1) := by decide +kernel
theorem dX6_bestToHear_1 : decode cX6_bestToHear 1 = .ok (.ifCond .ne 5, 3) := by decide +kernel
theorem dX6_bestToHear_4 : decode cX6_bestToHear 4 = .ok (.iconst (-1), 1) := by decide +kernel
theorem dX6_bestToHear_5 : decode cX6_bestToHear 5 = .ok (.ireturn, 1) := by decide +kernel
theorem dX6_bestToHear_6 : decode cX6_bestToHear 6 = .ok (.iconst 0, 1) := by decide +kernel
theorem dX6_bestToHear_7 : decode cX6_bestToHear 7 = .ok (.istore_n 3, 1) := by decide +kernel
theorem dX6_bestToHear_8 : decode cX6_bestToHear 8 = .ok (.iconst 1, 1) := by decide +kernel
theorem dX6_bestToHear_9 : decode cX6_bestToHear 9 = .ok (.istore 4, 2) := by decide +kernel
theorem dX6_bestToHear_11 : decode cX6_bestToHear 11 = .ok (.iload 4, 2) := by decide +kernel
theorem dX6_bestToHear_13 : decode cX6_bestToHear 13 = .ok (.bipush 8, 2) := by decide +kernel
theorem dX6_bestToHear_15 : decode cX6_bestToHear 15 = .ok (.if_icmp .ge 30, 3) := by decide +kernel
theorem dX6_bestToHear_18 : decode cX6_bestToHear 18 = .ok (.aload_n 0, 1) := by decide +kernel
theorem dX6_bestToHear_19 : decode cX6_bestToHear 19 = .ok (.aload_n 1, 1) := by decide +kernel
theorem dX6_bestToHear_20 : decode cX6_bestToHear 20 = .ok (.iload_n 2, 1) := by decide +kernel
theorem dX6_bestToHear_21 : decode cX6_bestToHear 21 = .ok (.iload 4, 2) := by decide +kernel
theorem dX6_bestToHear_23 : decode cX6_bestToHear 23 = .ok (.invokevirtual 209, 3) := by decide +kernel
theorem dX6_bestToHear_26 : decode cX6_bestToHear 26 = .ok (.aload_n 0, 1) := by decide +kernel
theorem dX6_bestToHear_27 : decode cX6_bestToHear 27 = .ok (.aload_n 1, 1) := by decide +kernel
theorem dX6_bestToHear_28 : decode cX6_bestToHear 28 = .ok (.iload_n 2, 1) := by decide +kernel
theorem dX6_bestToHear_29 : decode cX6_bestToHear 29 = .ok (.iload_n 3, 1) := by decide +kernel
theorem dX6_bestToHear_30 : decode cX6_bestToHear 30 = .ok (.invokevirtual 209, 3) := by decide +kernel
theorem dX6_bestToHear_33 : decode cX6_bestToHear 33 = .ok (.if_icmp .ge 6, 3) := by decide +kernel
theorem dX6_bestToHear_36 : decode cX6_bestToHear 36 = .ok (.iload 4, 2) := by decide +kernel
theorem dX6_bestToHear_38 : decode cX6_bestToHear 38 = .ok (.istore_n 3, 1) := by decide +kernel
theorem dX6_bestToHear_39 : decode cX6_bestToHear 39 = .ok (.iinc 4 1, 3) := by decide +kernel
theorem dX6_bestToHear_42 : decode cX6_bestToHear 42 = .ok (.goto (-31), 3) := by decide +kernel
theorem dX6_bestToHear_45 : decode cX6_bestToHear 45 = .ok (.iload_n 3, 1) := by decide +kernel
theorem dX6_bestToHear_46 : decode cX6_bestToHear 46 = .ok (.ireturn, 1) := by decide +kernel
theorem dX6_leftAtWorst_0 : decode cX6_leftAtWorst 0 = .ok (.iconst 0, 1) := by decide +kernel
theorem dX6_leftAtWorst_1 : decode cX6_leftAtWorst 1 = .ok (.istore 4, 2) := by decide +kernel
theorem dX6_leftAtWorst_3 : decode cX6_leftAtWorst 3 = .ok (.iconst 0, 1) := by decide +kernel
theorem dX6_leftAtWorst_4 : decode cX6_leftAtWorst 4 = .ok (.istore 5, 2) := by decide +kernel
theorem dX6_leftAtWorst_6 : decode cX6_leftAtWorst 6 = .ok (.iconst 0, 1) := by decide +kernel
theorem dX6_leftAtWorst_7 : decode cX6_leftAtWorst 7 = .ok (.istore 6, 2) := by decide +kernel
theorem dX6_leftAtWorst_9 : decode cX6_leftAtWorst 9 = .ok (.iload 6, 2) := by decide +kernel
theorem dX6_leftAtWorst_11 : decode cX6_leftAtWorst 11 = .ok (.iconst 4, 1) := by decide +kernel
theorem dX6_leftAtWorst_12 : decode cX6_leftAtWorst 12 = .ok (.if_icmp .ge 57, 3) := by decide +kernel
theorem dX6_leftAtWorst_15 : decode cX6_leftAtWorst 15 = .ok (.iload_n 2, 1) := by decide +kernel
theorem dX6_leftAtWorst_16 : decode cX6_leftAtWorst 16 = .ok (.iload 6, 2) := by decide +kernel
theorem dX6_leftAtWorst_18 : decode cX6_leftAtWorst 18 = .ok (.ishr, 1) := by decide +kernel
theorem dX6_leftAtWorst_19 : decode cX6_leftAtWorst 19 = .ok (.iconst 1, 1) := by decide +kernel
theorem dX6_leftAtWorst_20 : decode cX6_leftAtWorst 20 = .ok (.iand, 1) := by decide +kernel
theorem dX6_leftAtWorst_21 : decode cX6_leftAtWorst 21 = .ok (.ifCond .ne 6, 3) := by decide +kernel
theorem dX6_leftAtWorst_24 : decode cX6_leftAtWorst 24 = .ok (.goto 39, 3) := by decide +kernel
theorem dX6_leftAtWorst_27 : decode cX6_leftAtWorst 27 = .ok (.aload_n 0, 1) := by decide +kernel
theorem dX6_leftAtWorst_28 : decode cX6_leftAtWorst 28 = .ok (.getfield 19, 3) := by decide +kernel
theorem dX6_leftAtWorst_31 : decode cX6_leftAtWorst 31 = .ok (.aload_n 1, 1) := by decide +kernel
theorem dX6_leftAtWorst_32 : decode cX6_leftAtWorst 32 = .ok (.getfield 97, 3) := by decide +kernel
theorem dX6_leftAtWorst_35 : decode cX6_leftAtWorst 35 = .ok (.iload 6, 2) := by decide +kernel
theorem dX6_leftAtWorst_37 : decode cX6_leftAtWorst 37 = .ok (.aload_n 1, 1) := by decide +kernel
theorem dX6_leftAtWorst_38 : decode cX6_leftAtWorst 38 = .ok (.getfield 111, 3) := by decide +kernel
theorem dX6_leftAtWorst_41 : decode cX6_leftAtWorst 41 = .ok (.aload_n 1, 1) := by decide +kernel
theorem dX6_leftAtWorst_42 : decode cX6_leftAtWorst 42 = .ok (.getfield 105, 3) := by decide +kernel
theorem dX6_leftAtWorst_45 : decode cX6_leftAtWorst 45 = .ok (.iload_n 3, 1) := by decide +kernel
theorem dX6_leftAtWorst_46 : decode cX6_leftAtWorst 46 = .ok (.iadd, 1) := by decide +kernel
theorem dX6_leftAtWorst_47 : decode cX6_leftAtWorst 47 = .ok (.invokevirtual 162, 3) := by decide +kernel
theorem dX6_leftAtWorst_50 : decode cX6_leftAtWorst 50 = .ok (.iconst 1, 1) := by decide +kernel
theorem dX6_leftAtWorst_51 : decode cX6_leftAtWorst 51 = .ok (.if_icmp .ne 9, 3) := by decide +kernel
theorem dX6_leftAtWorst_54 : decode cX6_leftAtWorst 54 = .ok (.iinc 5 1, 3) := by decide +kernel
theorem dX6_leftAtWorst_57 : decode cX6_leftAtWorst 57 = .ok (.goto 6, 3) := by decide +kernel
theorem dX6_leftAtWorst_60 : decode cX6_leftAtWorst 60 = .ok (.iinc 4 1, 3) := by decide +kernel
theorem dX6_leftAtWorst_63 : decode cX6_leftAtWorst 63 = .ok (.iinc 6 1, 3) := by decide +kernel
theorem dX6_leftAtWorst_66 : decode cX6_leftAtWorst 66 = .ok (.goto (-57), 3) := by decide +kernel
theorem dX6_leftAtWorst_69 : decode cX6_leftAtWorst 69 = .ok (.iload 4, 2) := by decide +kernel
theorem dX6_leftAtWorst_71 : decode cX6_leftAtWorst 71 = .ok (.iload 5, 2) := by decide +kernel
theorem dX6_leftAtWorst_73 : decode cX6_leftAtWorst 73 = .ok (.invokestatic 185, 3) := by decide +kernel
theorem dX6_leftAtWorst_76 : decode cX6_leftAtWorst 76 = .ok (.ireturn, 1) := by decide +kernel
theorem dX6_nearOf_0 : decode cX6_nearOf 0 = .ok (.aload_n 0, 1) := by decide +kernel
theorem dX6_nearOf_1 : decode cX6_nearOf 1 = .ok (.aload_n 1, 1) := by decide +kernel
theorem dX6_nearOf_2 : decode cX6_nearOf 2 = .ok (.iconst 0, 1) := by decide +kernel
theorem dX6_nearOf_3 : decode cX6_nearOf 3 = .ok (.iload_n 2, 1) := by decide +kernel
theorem dX6_nearOf_4 : decode cX6_nearOf 4 = .ok (.invokevirtual 212, 3) := by decide +kernel
theorem dX6_nearOf_7 : decode cX6_nearOf 7 = .ok (.istore 4, 2) := by decide +kernel
theorem dX6_nearOf_9 : decode cX6_nearOf 9 = .ok (.aload_n 0, 1) := by decide +kernel
theorem dX6_nearOf_10 : decode cX6_nearOf 10 = .ok (.aload_n 1, 1) := by decide +kernel
theorem dX6_nearOf_11 : decode cX6_nearOf 11 = .ok (.iconst 1, 1) := by decide +kernel
theorem dX6_nearOf_12 : decode cX6_nearOf 12 = .ok (.iload_n 2, 1) := by decide +kernel
theorem dX6_nearOf_13 : decode cX6_nearOf 13 = .ok (.invokevirtual 212, 3) := by decide +kernel
theorem dX6_nearOf_16 : decode cX6_nearOf 16 = .ok (.istore 5, 2) := by decide +kernel
theorem dX6_nearOf_18 : decode cX6_nearOf 18 = .ok (.iload_n 3, 1) := by decide +kernel
theorem dX6_nearOf_19 : decode cX6_nearOf 19 = .ok (.ifCond .ne 16, 3) := by decide +kernel
theorem dX6_nearOf_22 : decode cX6_nearOf 22 = .ok (.iload 5, 2) := by decide +kernel
theorem dX6_nearOf_24 : decode cX6_nearOf 24 = .ok (.iload 4, 2) := by decide +kernel
theorem dX6_nearOf_26 : decode cX6_nearOf 26 = .ok (.if_icmp .ge 7, 3) := by decide +kernel
theorem dX6_nearOf_29 : decode cX6_nearOf 29 = .ok (.iconst 1, 1) := by decide +kernel
theorem dX6_nearOf_30 : decode cX6_nearOf 30 = .ok (.goto 4, 3) := by decide +kernel
theorem dX6_nearOf_33 : decode cX6_nearOf 33 = .ok (.iconst 0, 1) := by decide +kernel
theorem dX6_nearOf_34 : decode cX6_nearOf 34 = .ok (.ireturn, 1) := by decide +kernel
theorem dX6_nearOf_35 : decode cX6_nearOf 35 = .ok (.iload 5, 2) := by decide +kernel
theorem dX6_nearOf_37 : decode cX6_nearOf 37 = .ok (.iload 4, 2) := by decide +kernel
theorem dX6_nearOf_39 : decode cX6_nearOf 39 = .ok (.invokestatic 215, 3) := by decide +kernel
theorem dX6_nearOf_42 : decode cX6_nearOf 42 = .ok (.ireturn, 1) := by decide +kernel
theorem dX6_unlikeOf_0 : decode cX6_unlikeOf 0 = .ok (.iconst 0, 1) := by decide +kernel
theorem dX6_unlikeOf_1 : decode cX6_unlikeOf 1 = .ok (.istore 4, 2) := by decide +kernel
theorem dX6_unlikeOf_3 : decode cX6_unlikeOf 3 = .ok (.iconst 0, 1) := by decide +kernel
theorem dX6_unlikeOf_4 : decode cX6_unlikeOf 4 = .ok (.istore 5, 2) := by decide +kernel
theorem dX6_unlikeOf_6 : decode cX6_unlikeOf 6 = .ok (.iload 5, 2) := by decide +kernel
theorem dX6_unlikeOf_8 : decode cX6_unlikeOf 8 = .ok (.bipush 12, 2) := by decide +kernel
theorem dX6_unlikeOf_10 : decode cX6_unlikeOf 10 = .ok (.if_icmp .ge 49, 3) := by decide +kernel
theorem dX6_unlikeOf_13 : decode cX6_unlikeOf 13 = .ok (.aload_n 0, 1) := by decide +kernel
theorem dX6_unlikeOf_14 : decode cX6_unlikeOf 14 = .ok (.getfield 19, 3) := by decide +kernel
theorem dX6_unlikeOf_17 : decode cX6_unlikeOf 17 = .ok (.aload_n 1, 1) := by decide +kernel
theorem dX6_unlikeOf_18 : decode cX6_unlikeOf 18 = .ok (.getfield 97, 3) := by decide +kernel
theorem dX6_unlikeOf_21 : decode cX6_unlikeOf 21 = .ok (.aload_n 1, 1) := by decide +kernel
theorem dX6_unlikeOf_22 : decode cX6_unlikeOf 22 = .ok (.getfield 114, 3) := by decide +kernel
theorem dX6_unlikeOf_25 : decode cX6_unlikeOf 25 = .ok (.iload_n 2, 1) := by decide +kernel
theorem dX6_unlikeOf_26 : decode cX6_unlikeOf 26 = .ok (.iload 5, 2) := by decide +kernel
theorem dX6_unlikeOf_28 : decode cX6_unlikeOf 28 = .ok (.invokevirtual 162, 3) := by decide +kernel
theorem dX6_unlikeOf_31 : decode cX6_unlikeOf 31 = .ok (.istore 6, 2) := by decide +kernel
theorem dX6_unlikeOf_33 : decode cX6_unlikeOf 33 = .ok (.iload 6, 2) := by decide +kernel
theorem dX6_unlikeOf_35 : decode cX6_unlikeOf 35 = .ok (.aload_n 0, 1) := by decide +kernel
theorem dX6_unlikeOf_36 : decode cX6_unlikeOf 36 = .ok (.getfield 19, 3) := by decide +kernel
theorem dX6_unlikeOf_39 : decode cX6_unlikeOf 39 = .ok (.iconst 0, 1) := by decide +kernel
theorem dX6_unlikeOf_40 : decode cX6_unlikeOf 40 = .ok (.iload_n 3, 1) := by decide +kernel
theorem dX6_unlikeOf_41 : decode cX6_unlikeOf 41 = .ok (.iconst 0, 1) := by decide +kernel
theorem dX6_unlikeOf_42 : decode cX6_unlikeOf 42 = .ok (.iload 5, 2) := by decide +kernel
theorem dX6_unlikeOf_44 : decode cX6_unlikeOf 44 = .ok (.invokevirtual 162, 3) := by decide +kernel
theorem dX6_unlikeOf_47 : decode cX6_unlikeOf 47 = .ok (.if_icmp .eq 6, 3) := by decide +kernel
theorem dX6_unlikeOf_50 : decode cX6_unlikeOf 50 = .ok (.iinc 4 1, 3) := by decide +kernel
theorem dX6_unlikeOf_53 : decode cX6_unlikeOf 53 = .ok (.iinc 5 1, 3) := by decide +kernel
theorem dX6_unlikeOf_56 : decode cX6_unlikeOf 56 = .ok (.goto (-50), 3) := by decide +kernel
theorem dX6_unlikeOf_59 : decode cX6_unlikeOf 59 = .ok (.iload 4, 2) := by decide +kernel
theorem dX6_unlikeOf_61 : decode cX6_unlikeOf 61 = .ok (.ireturn, 1) := by decide +kernel
theorem dX6_nextSeed_0 : decode cX6_nextSeed 0 = .ok (.ldc2_w 218, 3) := by decide +kernel
theorem dX6_nextSeed_3 : decode cX6_nextSeed 3 = .ok (.iload_n 0, 1) := by decide +kernel
theorem dX6_nextSeed_4 : decode cX6_nextSeed 4 = .ok (.i2l, 1) := by decide +kernel
theorem dX6_nextSeed_5 : decode cX6_nextSeed 5 = .ok (.lmul, 1) := by decide +kernel
theorem dX6_nextSeed_6 : decode cX6_nextSeed 6 = .ok (.ldc2_w 220, 3) := by decide +kernel
theorem dX6_nextSeed_9 : decode cX6_nextSeed 9 = .ok (.ladd, 1) := by decide +kernel
theorem dX6_nextSeed_10 : decode cX6_nextSeed 10 = .ok (.ldc2_w 222, 3) := by decide +kernel
theorem dX6_nextSeed_13 : decode cX6_nextSeed 13 = .ok (.lrem, 1) := by decide +kernel
theorem dX6_nextSeed_14 : decode cX6_nextSeed 14 = .ok (.l2i, 1) := by decide +kernel
theorem dX6_nextSeed_15 : decode cX6_nextSeed 15 = .ok (.ireturn, 1) := by decide +kernel
theorem dX6_drawOf_0 : decode cX6_drawOf 0 = .ok (.iload_n 0, 1) := by decide +kernel
theorem dX6_drawOf_1 : decode cX6_drawOf 1 = .ok (.ldc 224, 2) := by decide +kernel
theorem dX6_drawOf_3 : decode cX6_drawOf 3 = .ok (.idiv, 1) := by decide +kernel
theorem dX6_drawOf_4 : decode cX6_drawOf 4 = .ok (.bipush 8, 2) := by decide +kernel
theorem dX6_drawOf_6 : decode cX6_drawOf 6 = .ok (.irem, 1) := by decide +kernel
theorem dX6_drawOf_7 : decode cX6_drawOf 7 = .ok (.ireturn, 1) := by decide +kernel
theorem dX6_countOf_0 : decode cX6_countOf 0 = .ok (.iload_n 1, 1) := by decide +kernel
theorem dX6_countOf_1 : decode cX6_countOf 1 = .ok (.tableswitch 99 0 6 #[43, 51, 59, 67, 75, 83, 91], 43) := by decide +kernel
theorem dX6_countOf_44 : decode cX6_countOf 44 = .ok (.aload_n 0, 1) := by decide +kernel
theorem dX6_countOf_45 : decode cX6_countOf 45 = .ok (.getfield 26, 3) := by decide +kernel
theorem dX6_countOf_48 : decode cX6_countOf 48 = .ok (.getfield 67, 3) := by decide +kernel
theorem dX6_countOf_51 : decode cX6_countOf 51 = .ok (.ireturn, 1) := by decide +kernel
theorem dX6_countOf_52 : decode cX6_countOf 52 = .ok (.aload_n 0, 1) := by decide +kernel
theorem dX6_countOf_53 : decode cX6_countOf 53 = .ok (.getfield 19, 3) := by decide +kernel
theorem dX6_countOf_56 : decode cX6_countOf 56 = .ok (.invokevirtual 225, 3) := by decide +kernel
theorem dX6_countOf_59 : decode cX6_countOf 59 = .ok (.ireturn, 1) := by decide +kernel
theorem dX6_countOf_60 : decode cX6_countOf 60 = .ok (.aload_n 0, 1) := by decide +kernel
theorem dX6_countOf_61 : decode cX6_countOf 61 = .ok (.getfield 26, 3) := by decide +kernel
theorem dX6_countOf_64 : decode cX6_countOf 64 = .ok (.invokevirtual 228, 3) := by decide +kernel
theorem dX6_countOf_67 : decode cX6_countOf 67 = .ok (.ireturn, 1) := by decide +kernel
theorem dX6_countOf_68 : decode cX6_countOf 68 = .ok (.aload_n 0, 1) := by decide +kernel
theorem dX6_countOf_69 : decode cX6_countOf 69 = .ok (.getfield 26, 3) := by decide +kernel
theorem dX6_countOf_72 : decode cX6_countOf 72 = .ok (.invokevirtual 231, 3) := by decide +kernel
theorem dX6_countOf_75 : decode cX6_countOf 75 = .ok (.ireturn, 1) := by decide +kernel
theorem dX6_countOf_76 : decode cX6_countOf 76 = .ok (.aload_n 0, 1) := by decide +kernel
theorem dX6_countOf_77 : decode cX6_countOf 77 = .ok (.getfield 26, 3) := by decide +kernel
theorem dX6_countOf_80 : decode cX6_countOf 80 = .ok (.getfield 108, 3) := by decide +kernel
theorem dX6_countOf_83 : decode cX6_countOf 83 = .ok (.ireturn, 1) := by decide +kernel
theorem dX6_countOf_84 : decode cX6_countOf 84 = .ok (.aload_n 0, 1) := by decide +kernel
theorem dX6_countOf_85 : decode cX6_countOf 85 = .ok (.getfield 26, 3) := by decide +kernel
theorem dX6_countOf_88 : decode cX6_countOf 88 = .ok (.getfield 121, 3) := by decide +kernel
theorem dX6_countOf_91 : decode cX6_countOf 91 = .ok (.ireturn, 1) := by decide +kernel
theorem dX6_countOf_92 : decode cX6_countOf 92 = .ok (.aload_n 0, 1) := by decide +kernel
theorem dX6_countOf_93 : decode cX6_countOf 93 = .ok (.getfield 10, 3) := by decide +kernel
theorem dX6_countOf_96 : decode cX6_countOf 96 = .ok (.getfield 33, 3) := by decide +kernel
theorem dX6_countOf_99 : decode cX6_countOf 99 = .ok (.ireturn, 1) := by decide +kernel
theorem dX6_countOf_100 : decode cX6_countOf 100 = .ok (.aload_n 0, 1) := by decide +kernel
theorem dX6_countOf_101 : decode cX6_countOf 101 = .ok (.getfield 64, 3) := by decide +kernel
theorem dX6_countOf_104 : decode cX6_countOf 104 = .ok (.ireturn, 1) := by decide +kernel
theorem dX6_digestSayings_0 : decode cX6_digestSayings 0 = .ok (.lload_n 1, 1) := by decide +kernel
theorem dX6_digestSayings_1 : decode cX6_digestSayings 1 = .ok (.lstore_n 3, 1) := by decide +kernel
theorem dX6_digestSayings_2 : decode cX6_digestSayings 2 = .ok (.iconst 0, 1) := by decide +kernel
theorem dX6_digestSayings_3 : decode cX6_digestSayings 3 = .ok (.istore 5, 2) := by decide +kernel
theorem dX6_digestSayings_5 : decode cX6_digestSayings 5 = .ok (.iload 5, 2) := by decide +kernel
theorem dX6_digestSayings_7 : decode cX6_digestSayings 7 = .ok (.iconst 4, 1) := by decide +kernel
theorem dX6_digestSayings_8 : decode cX6_digestSayings 8 = .ok (.if_icmp .ge 60, 3) := by decide +kernel
theorem dX6_digestSayings_11 : decode cX6_digestSayings 11 = .ok (.ldc2_w 151, 3) := by decide +kernel
theorem dX6_digestSayings_14 : decode cX6_digestSayings 14 = .ok (.lload_n 3, 1) := by decide +kernel
theorem dX6_digestSayings_15 : decode cX6_digestSayings 15 = .ok (.lmul, 1) := by decide +kernel
theorem dX6_digestSayings_16 : decode cX6_digestSayings 16 = .ok (.aload_n 0, 1) := by decide +kernel
theorem dX6_digestSayings_17 : decode cX6_digestSayings 17 = .ok (.getfield 19, 3) := by decide +kernel
theorem dX6_digestSayings_20 : decode cX6_digestSayings 20 = .ok (.iload 5, 2) := by decide +kernel
theorem dX6_digestSayings_22 : decode cX6_digestSayings 22 = .ok (.invokevirtual 74, 3) := by decide +kernel
theorem dX6_digestSayings_25 : decode cX6_digestSayings 25 = .ok (.i2l, 1) := by decide +kernel
theorem dX6_digestSayings_26 : decode cX6_digestSayings 26 = .ok (.ladd, 1) := by decide +kernel
theorem dX6_digestSayings_27 : decode cX6_digestSayings 27 = .ok (.lstore_n 3, 1) := by decide +kernel
theorem dX6_digestSayings_28 : decode cX6_digestSayings 28 = .ok (.iconst 0, 1) := by decide +kernel
theorem dX6_digestSayings_29 : decode cX6_digestSayings 29 = .ok (.istore 6, 2) := by decide +kernel
theorem dX6_digestSayings_31 : decode cX6_digestSayings 31 = .ok (.iload 6, 2) := by decide +kernel
theorem dX6_digestSayings_33 : decode cX6_digestSayings 33 = .ok (.iconst 4, 1) := by decide +kernel
theorem dX6_digestSayings_34 : decode cX6_digestSayings 34 = .ok (.if_icmp .ge 28, 3) := by decide +kernel
theorem dX6_digestSayings_37 : decode cX6_digestSayings 37 = .ok (.ldc2_w 151, 3) := by decide +kernel
theorem dX6_digestSayings_40 : decode cX6_digestSayings 40 = .ok (.lload_n 3, 1) := by decide +kernel
theorem dX6_digestSayings_41 : decode cX6_digestSayings 41 = .ok (.lmul, 1) := by decide +kernel
theorem dX6_digestSayings_42 : decode cX6_digestSayings 42 = .ok (.aload_n 0, 1) := by decide +kernel
theorem dX6_digestSayings_43 : decode cX6_digestSayings 43 = .ok (.getfield 19, 3) := by decide +kernel
theorem dX6_digestSayings_46 : decode cX6_digestSayings 46 = .ok (.iload 5, 2) := by decide +kernel
theorem dX6_digestSayings_48 : decode cX6_digestSayings 48 = .ok (.iload 6, 2) := by decide +kernel
theorem dX6_digestSayings_50 : decode cX6_digestSayings 50 = .ok (.invokevirtual 78, 3) := by decide +kernel
theorem dX6_digestSayings_53 : decode cX6_digestSayings 53 = .ok (.i2l, 1) := by decide +kernel
theorem dX6_digestSayings_54 : decode cX6_digestSayings 54 = .ok (.ladd, 1) := by decide +kernel
theorem dX6_digestSayings_55 : decode cX6_digestSayings 55 = .ok (.lstore_n 3, 1) := by decide +kernel
theorem dX6_digestSayings_56 : decode cX6_digestSayings 56 = .ok (.iinc 6 1, 3) := by decide +kernel
theorem dX6_digestSayings_59 : decode cX6_digestSayings 59 = .ok (.goto (-28), 3) := by decide +kernel
theorem dX6_digestSayings_62 : decode cX6_digestSayings 62 = .ok (.iinc 5 1, 3) := by decide +kernel
theorem dX6_digestSayings_65 : decode cX6_digestSayings 65 = .ok (.goto (-60), 3) := by decide +kernel
theorem dX6_digestSayings_68 : decode cX6_digestSayings 68 = .ok (.lload_n 3, 1) := by decide +kernel
theorem dX6_digestSayings_69 : decode cX6_digestSayings 69 = .ok (.lreturn, 1) := by decide +kernel
theorem dX6_digestTap_0 : decode cX6_digestTap 0 = .ok (.lload_n 1, 1) := by decide +kernel
theorem dX6_digestTap_1 : decode cX6_digestTap 1 = .ok (.lstore 4, 2) := by decide +kernel
theorem dX6_digestTap_3 : decode cX6_digestTap 3 = .ok (.iconst 0, 1) := by decide +kernel
theorem dX6_digestTap_4 : decode cX6_digestTap 4 = .ok (.istore 6, 2) := by decide +kernel
theorem dX6_digestTap_6 : decode cX6_digestTap 6 = .ok (.iload 6, 2) := by decide +kernel
theorem dX6_digestTap_8 : decode cX6_digestTap 8 = .ok (.bipush 8, 2) := by decide +kernel
theorem dX6_digestTap_10 : decode cX6_digestTap 10 = .ok (.if_icmp .gt 26, 3) := by decide +kernel
theorem dX6_digestTap_13 : decode cX6_digestTap 13 = .ok (.ldc2_w 151, 3) := by decide +kernel
theorem dX6_digestTap_16 : decode cX6_digestTap 16 = .ok (.lload 4, 2) := by decide +kernel
theorem dX6_digestTap_18 : decode cX6_digestTap 18 = .ok (.lmul, 1) := by decide +kernel
theorem dX6_digestTap_19 : decode cX6_digestTap 19 = .ok (.aload_n 0, 1) := by decide +kernel
theorem dX6_digestTap_20 : decode cX6_digestTap 20 = .ok (.aload_n 3, 1) := by decide +kernel
theorem dX6_digestTap_21 : decode cX6_digestTap 21 = .ok (.iload 6, 2) := by decide +kernel
theorem dX6_digestTap_23 : decode cX6_digestTap 23 = .ok (.invokevirtual 93, 3) := by decide +kernel
theorem dX6_digestTap_26 : decode cX6_digestTap 26 = .ok (.i2l, 1) := by decide +kernel
theorem dX6_digestTap_27 : decode cX6_digestTap 27 = .ok (.ladd, 1) := by decide +kernel
theorem dX6_digestTap_28 : decode cX6_digestTap 28 = .ok (.lstore 4, 2) := by decide +kernel
theorem dX6_digestTap_30 : decode cX6_digestTap 30 = .ok (.iinc 6 1, 3) := by decide +kernel
theorem dX6_digestTap_33 : decode cX6_digestTap 33 = .ok (.goto (-27), 3) := by decide +kernel
theorem dX6_digestTap_36 : decode cX6_digestTap 36 = .ok (.iconst 0, 1) := by decide +kernel
theorem dX6_digestTap_37 : decode cX6_digestTap 37 = .ok (.istore 6, 2) := by decide +kernel
theorem dX6_digestTap_39 : decode cX6_digestTap 39 = .ok (.iload 6, 2) := by decide +kernel
theorem dX6_digestTap_41 : decode cX6_digestTap 41 = .ok (.bipush 8, 2) := by decide +kernel
theorem dX6_digestTap_43 : decode cX6_digestTap 43 = .ok (.if_icmp .ge 26, 3) := by decide +kernel
theorem dX6_digestTap_46 : decode cX6_digestTap 46 = .ok (.ldc2_w 151, 3) := by decide +kernel
theorem dX6_digestTap_49 : decode cX6_digestTap 49 = .ok (.lload 4, 2) := by decide +kernel
theorem dX6_digestTap_51 : decode cX6_digestTap 51 = .ok (.lmul, 1) := by decide +kernel
theorem dX6_digestTap_52 : decode cX6_digestTap 52 = .ok (.aload_n 0, 1) := by decide +kernel
theorem dX6_digestTap_53 : decode cX6_digestTap 53 = .ok (.aload_n 3, 1) := by decide +kernel
theorem dX6_digestTap_54 : decode cX6_digestTap 54 = .ok (.iload 6, 2) := by decide +kernel
theorem dX6_digestTap_56 : decode cX6_digestTap 56 = .ok (.invokevirtual 102, 3) := by decide +kernel
theorem dX6_digestTap_59 : decode cX6_digestTap 59 = .ok (.i2l, 1) := by decide +kernel
theorem dX6_digestTap_60 : decode cX6_digestTap 60 = .ok (.ladd, 1) := by decide +kernel
theorem dX6_digestTap_61 : decode cX6_digestTap 61 = .ok (.lstore 4, 2) := by decide +kernel
theorem dX6_digestTap_63 : decode cX6_digestTap 63 = .ok (.iinc 6 1, 3) := by decide +kernel
theorem dX6_digestTap_66 : decode cX6_digestTap 66 = .ok (.goto (-27), 3) := by decide +kernel
theorem dX6_digestTap_69 : decode cX6_digestTap 69 = .ok (.iconst 0, 1) := by decide +kernel
theorem dX6_digestTap_70 : decode cX6_digestTap 70 = .ok (.istore 6, 2) := by decide +kernel
theorem dX6_digestTap_72 : decode cX6_digestTap 72 = .ok (.iload 6, 2) := by decide +kernel
theorem dX6_digestTap_74 : decode cX6_digestTap 74 = .ok (.iconst 4, 1) := by decide +kernel
theorem dX6_digestTap_75 : decode cX6_digestTap 75 = .ok (.if_icmp .ge 43, 3) := by decide +kernel
theorem dX6_digestTap_78 : decode cX6_digestTap 78 = .ok (.iconst 0, 1) := by decide +kernel
theorem dX6_digestTap_79 : decode cX6_digestTap 79 = .ok (.istore 7, 2) := by decide +kernel
theorem dX6_digestTap_81 : decode cX6_digestTap 81 = .ok (.iload 7, 2) := by decide +kernel
theorem dX6_digestTap_83 : decode cX6_digestTap 83 = .ok (.iconst 1, 1) := by decide +kernel
theorem dX6_digestTap_84 : decode cX6_digestTap 84 = .ok (.if_icmp .gt 28, 3) := by decide +kernel
theorem dX6_digestTap_87 : decode cX6_digestTap 87 = .ok (.ldc2_w 151, 3) := by decide +kernel
theorem dX6_digestTap_90 : decode cX6_digestTap 90 = .ok (.lload 4, 2) := by decide +kernel
theorem dX6_digestTap_92 : decode cX6_digestTap 92 = .ok (.lmul, 1) := by decide +kernel
theorem dX6_digestTap_93 : decode cX6_digestTap 93 = .ok (.aload_n 0, 1) := by decide +kernel
theorem dX6_digestTap_94 : decode cX6_digestTap 94 = .ok (.aload_n 3, 1) := by decide +kernel
theorem dX6_digestTap_95 : decode cX6_digestTap 95 = .ok (.iload 6, 2) := by decide +kernel
theorem dX6_digestTap_97 : decode cX6_digestTap 97 = .ok (.iload 7, 2) := by decide +kernel
theorem dX6_digestTap_99 : decode cX6_digestTap 99 = .ok (.invokevirtual 117, 3) := by decide +kernel
theorem dX6_digestTap_102 : decode cX6_digestTap 102 = .ok (.i2l, 1) := by decide +kernel
theorem dX6_digestTap_103 : decode cX6_digestTap 103 = .ok (.ladd, 1) := by decide +kernel
theorem dX6_digestTap_104 : decode cX6_digestTap 104 = .ok (.lstore 4, 2) := by decide +kernel
theorem dX6_digestTap_106 : decode cX6_digestTap 106 = .ok (.iinc 7 1, 3) := by decide +kernel
theorem dX6_digestTap_109 : decode cX6_digestTap 109 = .ok (.goto (-28), 3) := by decide +kernel
theorem dX6_digestTap_112 : decode cX6_digestTap 112 = .ok (.iinc 6 1, 3) := by decide +kernel
theorem dX6_digestTap_115 : decode cX6_digestTap 115 = .ok (.goto (-43), 3) := by decide +kernel
theorem dX6_digestTap_118 : decode cX6_digestTap 118 = .ok (.lload 4, 2) := by decide +kernel
theorem dX6_digestTap_120 : decode cX6_digestTap 120 = .ok (.lreturn, 1) := by decide +kernel
theorem dJ9_max_7cf53_0 : decode cJ9_max_7cf53 0 = .ok (.iload_n 0, 1) := by decide +kernel
theorem dJ9_max_7cf53_1 : decode cJ9_max_7cf53 1 = .ok (.iload_n 1, 1) := by decide +kernel
theorem dJ9_max_7cf53_2 : decode cJ9_max_7cf53 2 = .ok (.if_icmp .lt 7, 3) := by decide +kernel
theorem dJ9_max_7cf53_5 : decode cJ9_max_7cf53 5 = .ok (.iload_n 0, 1) := by decide +kernel
theorem dJ9_max_7cf53_6 : decode cJ9_max_7cf53 6 = .ok (.goto 4, 3) := by decide +kernel
theorem dJ9_max_7cf53_9 : decode cJ9_max_7cf53 9 = .ok (.iload_n 1, 1) := by decide +kernel
theorem dJ9_max_7cf53_10 : decode cJ9_max_7cf53 10 = .ok (.ireturn, 1) := by decide +kernel
theorem dJ9_min_7cf53_0 : decode cJ9_min_7cf53 0 = .ok (.iload_n 0, 1) := by decide +kernel
theorem dJ9_min_7cf53_1 : decode cJ9_min_7cf53 1 = .ok (.iload_n 1, 1) := by decide +kernel
theorem dJ9_min_7cf53_2 : decode cJ9_min_7cf53 2 = .ok (.if_icmp .gt 7, 3) := by decide +kernel
theorem dJ9_min_7cf53_5 : decode cJ9_min_7cf53 5 = .ok (.iload_n 0, 1) := by decide +kernel
theorem dJ9_min_7cf53_6 : decode cJ9_min_7cf53 6 = .ok (.goto 4, 3) := by decide +kernel
theorem dJ9_min_7cf53_9 : decode cJ9_min_7cf53 9 = .ok (.iload_n 1, 1) := by decide +kernel
theorem dJ9_min_7cf53_10 : decode cJ9_min_7cf53 10 = .ok (.ireturn, 1) := by decide +kernel
