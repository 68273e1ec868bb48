theorem dX0_init_0 : decode cX0_init 0 = .ok (.aload_n 0, 1) := by decide +kernel
theorem dX0_init_1 : decode cX0_init 1 = .ok (.invokespecial 3, 3) := by decide +kernel
theorem dX0_init_4 : decode cX0_init 4 = .ok (.aload_n 0, 1) := by decide +kernel
theorem dX0_init_5 : decode cX0_init 5 = .ok (.iconst 0, 1) := by decide +kernel
theorem dX0_init_6 : decode cX0_init 6 = .ok (.putfield 9, 3) := by decide +kernel
theorem dX0_init_9 : decode cX0_init 9 = .ok (.aload_n 0, 1) := by decide +kernel
theorem dX0_init_10 : decode cX0_init 10 = .ok (.bipush 20, 2) := by decide +kernel
theorem dX0_init_12 : decode cX0_init 12 = .ok (.newarray .int, 2) := by decide +kernel
theorem dX0_init_14 : decode cX0_init 14 = .ok (.putfield 15, 3) := by decide +kernel
theorem dX0_init_17 : decode cX0_init 17 = .ok (.aload_n 0, 1) := by decide +kernel
theorem dX0_init_18 : decode cX0_init 18 = .ok (.bipush 20, 2) := by decide +kernel
theorem dX0_init_20 : decode cX0_init 20 = .ok (.newarray .int, 2) := by decide +kernel
theorem dX0_init_22 : decode cX0_init 22 = .ok (.putfield 19, 3) := by decide +kernel
theorem dX0_init_25 : decode cX0_init 25 = .ok (.aload_n 0, 1) := by decide +kernel
theorem dX0_init_26 : decode cX0_init 26 = .ok (.bipush 20, 2) := by decide +kernel
theorem dX0_init_28 : decode cX0_init 28 = .ok (.newarray .int, 2) := by decide +kernel
theorem dX0_init_30 : decode cX0_init 30 = .ok (.putfield 22, 3) := by decide +kernel
theorem dX0_init_33 : decode cX0_init 33 = .ok (.return_, 1) := by decide +kernel
theorem dX0_add_0 : decode cX0_add 0 = .ok (.aload_n 0, 1) := by decide +kernel
theorem dX0_add_1 : decode cX0_add 1 = .ok (.getfield 9, 3) := by decide +kernel
theorem dX0_add_4 : decode cX0_add 4 = .ok (.bipush 20, 2) := by decide +kernel
theorem dX0_add_6 : decode cX0_add 6 = .ok (.if_icmp .lt 6, 3) := by decide +kernel
theorem dX0_add_9 : decode cX0_add 9 = .ok (.bipush (-4), 2) := by decide +kernel
theorem dX0_add_11 : decode cX0_add 11 = .ok (.ireturn, 1) := by decide +kernel
theorem dX0_add_12 : decode cX0_add 12 = .ok (.aload_n 0, 1) := by decide +kernel
theorem dX0_add_13 : decode cX0_add 13 = .ok (.getfield 15, 3) := by decide +kernel
theorem dX0_add_16 : decode cX0_add 16 = .ok (.aload_n 0, 1) := by decide +kernel
theorem dX0_add_17 : decode cX0_add 17 = .ok (.getfield 9, 3) := by decide +kernel
theorem dX0_add_20 : decode cX0_add 20 = .ok (.iload_n 1, 1) := by decide +kernel
theorem dX0_add_21 : decode cX0_add 21 = .ok (.iastore, 1) := by decide +kernel
theorem dX0_add_22 : decode cX0_add 22 = .ok (.aload_n 0, 1) := by decide +kernel
theorem dX0_add_23 : decode cX0_add 23 = .ok (.getfield 19, 3) := by decide +kernel
theorem dX0_add_26 : decode cX0_add 26 = .ok (.aload_n 0, 1) := by decide +kernel
theorem dX0_add_27 : decode cX0_add 27 = .ok (.getfield 9, 3) := by decide +kernel
theorem dX0_add_30 : decode cX0_add 30 = .ok (.iload_n 2, 1) := by decide +kernel
theorem dX0_add_31 : decode cX0_add 31 = .ok (.iastore, 1) := by decide +kernel
theorem dX0_add_32 : decode cX0_add 32 = .ok (.aload_n 0, 1) := by decide +kernel
theorem dX0_add_33 : decode cX0_add 33 = .ok (.getfield 22, 3) := by decide +kernel
theorem dX0_add_36 : decode cX0_add 36 = .ok (.aload_n 0, 1) := by decide +kernel
theorem dX0_add_37 : decode cX0_add 37 = .ok (.getfield 9, 3) := by decide +kernel
theorem dX0_add_40 : decode cX0_add 40 = .ok (.iload_n 3, 1) := by decide +kernel
theorem dX0_add_41 : decode cX0_add 41 = .ok (.iastore, 1) := by decide +kernel
theorem dX0_add_42 : decode cX0_add 42 = .ok (.aload_n 0, 1) := by decide +kernel
theorem dX0_add_43 : decode cX0_add 43 = .ok (.dup, 1) := by decide +kernel
theorem dX0_add_44 : decode cX0_add 44 = .ok (.getfield 9, 3) := by decide +kernel
theorem dX0_add_47 : decode cX0_add 47 = .ok (.iconst 1, 1) := by decide +kernel
theorem dX0_add_48 : decode cX0_add 48 = .ok (.iadd, 1) := by decide +kernel
theorem dX0_add_49 : decode cX0_add 49 = .ok (.putfield 9, 3) := by decide +kernel
theorem dX0_add_52 : decode cX0_add 52 = .ok (.aload_n 0, 1) := by decide +kernel
theorem dX0_add_53 : decode cX0_add 53 = .ok (.getfield 9, 3) := by decide +kernel
theorem dX0_add_56 : decode cX0_add 56 = .ok (.iconst 1, 1) := by decide +kernel
theorem dX0_add_57 : decode cX0_add 57 = .ok (.isub, 1) := by decide +kernel
theorem dX0_add_58 : decode cX0_add 58 = .ok (.ireturn, 1) := by decide +kernel
theorem dX0_targetOf_0 : decode cX0_targetOf 0 = .ok (.aload_n 0, 1) := by decide +kernel
theorem dX0_targetOf_1 : decode cX0_targetOf 1 = .ok (.getfield 9, 3) := by decide +kernel
theorem dX0_targetOf_4 : decode cX0_targetOf 4 = .ok (.iconst 1, 1) := by decide +kernel
theorem dX0_targetOf_5 : decode cX0_targetOf 5 = .ok (.isub, 1) := by decide +kernel
theorem dX0_targetOf_6 : decode cX0_targetOf 6 = .ok (.istore_n 3, 1) := by decide +kernel
theorem dX0_targetOf_7 : decode cX0_targetOf 7 = .ok (.iload_n 3, 1) := by decide +kernel
theorem dX0_targetOf_8 : decode cX0_targetOf 8 = .ok (.ifCond .lt 39, 3) := by decide +kernel
theorem dX0_targetOf_11 : decode cX0_targetOf 11 = .ok (.aload_n 0, 1) := by decide +kernel
theorem dX0_targetOf_12 : decode cX0_targetOf 12 = .ok (.getfield 15, 3) := by decide +kernel
theorem dX0_targetOf_15 : decode cX0_targetOf 15 = .ok (.iload_n 3, 1) := by decide +kernel
theorem dX0_targetOf_16 : decode cX0_targetOf 16 = .ok (.iaload, 1) := by decide +kernel
theorem dX0_targetOf_17 : decode cX0_targetOf 17 = .ok (.iload_n 1, 1) := by decide +kernel
theorem dX0_targetOf_18 : decode cX0_targetOf 18 = .ok (.if_icmp .ne 23, 3) := by decide +kernel
theorem dX0_targetOf_21 : decode cX0_targetOf 21 = .ok (.iload_n 2, 1) := by decide +kernel
theorem dX0_targetOf_22 : decode cX0_targetOf 22 = .ok (.iconst 1, 1) := by decide +kernel
theorem dX0_targetOf_23 : decode cX0_targetOf 23 = .ok (.aload_n 0, 1) := by decide +kernel
theorem dX0_targetOf_24 : decode cX0_targetOf 24 = .ok (.getfield 19, 3) := by decide +kernel
theorem dX0_targetOf_27 : decode cX0_targetOf 27 = .ok (.iload_n 3, 1) := by decide +kernel
theorem dX0_targetOf_28 : decode cX0_targetOf 28 = .ok (.iaload, 1) := by decide +kernel
theorem dX0_targetOf_29 : decode cX0_targetOf 29 = .ok (.ishl, 1) := by decide +kernel
theorem dX0_targetOf_30 : decode cX0_targetOf 30 = .ok (.iand, 1) := by decide +kernel
theorem dX0_targetOf_31 : decode cX0_targetOf 31 = .ok (.ifCond .eq 10, 3) := by decide +kernel
theorem dX0_targetOf_34 : decode cX0_targetOf 34 = .ok (.aload_n 0, 1) := by decide +kernel
theorem dX0_targetOf_35 : decode cX0_targetOf 35 = .ok (.getfield 22, 3) := by decide +kernel
theorem dX0_targetOf_38 : decode cX0_targetOf 38 = .ok (.iload_n 3, 1) := by decide +kernel
theorem dX0_targetOf_39 : decode cX0_targetOf 39 = .ok (.iaload, 1) := by decide +kernel
theorem dX0_targetOf_40 : decode cX0_targetOf 40 = .ok (.ireturn, 1) := by decide +kernel
theorem dX0_targetOf_41 : decode cX0_targetOf 41 = .ok (.iinc 3 (-1), 3) := by decide +kernel
theorem dX0_targetOf_44 : decode cX0_targetOf 44 = .ok (.goto (-37), 3) := by decide +kernel
theorem dX0_targetOf_47 : decode cX0_targetOf 47 = .ok (.iload_n 1, 1) := by decide +kernel
theorem dX0_targetOf_48 : decode cX0_targetOf 48 = .ok (.ireturn, 1) := by decide +kernel
theorem dX1_init_0 : decode cX1_init 0 = .ok (.aload_n 0, 1) := by decide +kernel
theorem dX1_init_1 : decode cX1_init 1 = .ok (.invokespecial 3, 3) := by decide +kernel
theorem dX1_init_4 : decode cX1_init 4 = .ok (.aload_n 0, 1) := by decide +kernel
theorem dX1_init_5 : decode cX1_init 5 = .ok (.iconst 0, 1) := by decide +kernel
theorem dX1_init_6 : decode cX1_init 6 = .ok (.putfield 9, 3) := by decide +kernel
theorem dX1_init_9 : decode cX1_init 9 = .ok (.aload_n 0, 1) := by decide +kernel
theorem dX1_init_10 : decode cX1_init 10 = .ok (.bipush 40, 2) := by decide +kernel
theorem dX1_init_12 : decode cX1_init 12 = .ok (.newarray .int, 2) := by decide +kernel
theorem dX1_init_14 : decode cX1_init 14 = .ok (.putfield 15, 3) := by decide +kernel
theorem dX1_init_17 : decode cX1_init 17 = .ok (.aload_n 0, 1) := by decide +kernel
theorem dX1_init_18 : decode cX1_init 18 = .ok (.sipush 2400, 3) := by decide +kernel
theorem dX1_init_21 : decode cX1_init 21 = .ok (.newarray .int, 2) := by decide +kernel
theorem dX1_init_23 : decode cX1_init 23 = .ok (.putfield 19, 3) := by decide +kernel
theorem dX1_init_26 : decode cX1_init 26 = .ok (.aload_n 0, 1) := by decide +kernel
theorem dX1_init_27 : decode cX1_init 27 = .ok (.bipush 40, 2) := by decide +kernel
theorem dX1_init_29 : decode cX1_init 29 = .ok (.newarray .int, 2) := by decide +kernel
theorem dX1_init_31 : decode cX1_init 31 = .ok (.putfield 22, 3) := by decide +kernel
theorem dX1_init_34 : decode cX1_init 34 = .ok (.aload_n 0, 1) := by decide +kernel
theorem dX1_init_35 : decode cX1_init 35 = .ok (.bipush 40, 2) := by decide +kernel
theorem dX1_init_37 : decode cX1_init 37 = .ok (.newarray .int, 2) := by decide +kernel
theorem dX1_init_39 : decode cX1_init 39 = .ok (.putfield 25, 3) := by decide +kernel
theorem dX1_init_42 : decode cX1_init 42 = .ok (.return_, 1) := by decide +kernel
theorem dX1_has_0 : decode cX1_has 0 = .ok (.iload_n 1, 1) := by decide +kernel
theorem dX1_has_1 : decode cX1_has 1 = .ok (.ifCond .lt 15, 3) := by decide +kernel
theorem dX1_has_4 : decode cX1_has 4 = .ok (.iload_n 1, 1) := by decide +kernel
theorem dX1_has_5 : decode cX1_has 5 = .ok (.aload_n 0, 1) := by decide +kernel
theorem dX1_has_6 : decode cX1_has 6 = .ok (.getfield 9, 3) := by decide +kernel
theorem dX1_has_9 : decode cX1_has 9 = .ok (.if_icmp .ge 7, 3) := by decide +kernel
theorem dX1_has_12 : decode cX1_has 12 = .ok (.iconst 1, 1) := by decide +kernel
theorem dX1_has_13 : decode cX1_has 13 = .ok (.goto 4, 3) := by decide +kernel
theorem dX1_has_16 : decode cX1_has 16 = .ok (.iconst 0, 1) := by decide +kernel
theorem dX1_has_17 : decode cX1_has 17 = .ok (.ireturn, 1) := by decide +kernel
theorem dX1_add_0 : decode cX1_add 0 = .ok (.aload_n 0, 1) := by decide +kernel
theorem dX1_add_1 : decode cX1_add 1 = .ok (.getfield 9, 3) := by decide +kernel
theorem dX1_add_4 : decode cX1_add 4 = .ok (.bipush 40, 2) := by decide +kernel
theorem dX1_add_6 : decode cX1_add 6 = .ok (.if_icmp .lt 6, 3) := by decide +kernel
theorem dX1_add_9 : decode cX1_add 9 = .ok (.bipush (-4), 2) := by decide +kernel
theorem dX1_add_11 : decode cX1_add 11 = .ok (.ireturn, 1) := by decide +kernel
theorem dX1_add_12 : decode cX1_add 12 = .ok (.aload_n 0, 1) := by decide +kernel
theorem dX1_add_13 : decode cX1_add 13 = .ok (.getfield 25, 3) := by decide +kernel
theorem dX1_add_16 : decode cX1_add 16 = .ok (.aload_n 0, 1) := by decide +kernel
theorem dX1_add_17 : decode cX1_add 17 = .ok (.getfield 9, 3) := by decide +kernel
theorem dX1_add_20 : decode cX1_add 20 = .ok (.iconst (-1), 1) := by decide +kernel
theorem dX1_add_21 : decode cX1_add 21 = .ok (.iastore, 1) := by decide +kernel
theorem dX1_add_22 : decode cX1_add 22 = .ok (.aload_n 0, 1) := by decide +kernel
theorem dX1_add_23 : decode cX1_add 23 = .ok (.dup, 1) := by decide +kernel
theorem dX1_add_24 : decode cX1_add 24 = .ok (.getfield 9, 3) := by decide +kernel
theorem dX1_add_27 : decode cX1_add 27 = .ok (.iconst 1, 1) := by decide +kernel
theorem dX1_add_28 : decode cX1_add 28 = .ok (.iadd, 1) := by decide +kernel
theorem dX1_add_29 : decode cX1_add 29 = .ok (.putfield 9, 3) := by decide +kernel
theorem dX1_add_32 : decode cX1_add 32 = .ok (.aload_n 0, 1) := by decide +kernel
theorem dX1_add_33 : decode cX1_add 33 = .ok (.getfield 9, 3) := by decide +kernel
theorem dX1_add_36 : decode cX1_add 36 = .ok (.iconst 1, 1) := by decide +kernel
theorem dX1_add_37 : decode cX1_add 37 = .ok (.isub, 1) := by decide +kernel
theorem dX1_add_38 : decode cX1_add 38 = .ok (.ireturn, 1) := by decide +kernel
theorem dX1_addByte_0 : decode cX1_addByte 0 = .ok (.aload_n 0, 1) := by decide +kernel
theorem dX1_addByte_1 : decode cX1_addByte 1 = .ok (.getfield 15, 3) := by decide +kernel
theorem dX1_addByte_4 : decode cX1_addByte 4 = .ok (.iload_n 1, 1) := by decide +kernel
theorem dX1_addByte_5 : decode cX1_addByte 5 = .ok (.iaload, 1) := by decide +kernel
theorem dX1_addByte_6 : decode cX1_addByte 6 = .ok (.istore_n 3, 1) := by decide +kernel
theorem dX1_addByte_7 : decode cX1_addByte 7 = .ok (.iload_n 3, 1) := by decide +kernel
theorem dX1_addByte_8 : decode cX1_addByte 8 = .ok (.bipush 60, 2) := by decide +kernel
theorem dX1_addByte_10 : decode cX1_addByte 10 = .ok (.if_icmp .lt 6, 3) := by decide +kernel
theorem dX1_addByte_13 : decode cX1_addByte 13 = .ok (.bipush (-4), 2) := by decide +kernel
theorem dX1_addByte_15 : decode cX1_addByte 15 = .ok (.ireturn, 1) := by decide +kernel
theorem dX1_addByte_16 : decode cX1_addByte 16 = .ok (.aload_n 0, 1) := by decide +kernel
theorem dX1_addByte_17 : decode cX1_addByte 17 = .ok (.getfield 19, 3) := by decide +kernel
theorem dX1_addByte_20 : decode cX1_addByte 20 = .ok (.iload_n 1, 1) := by decide +kernel
theorem dX1_addByte_21 : decode cX1_addByte 21 = .ok (.bipush 60, 2) := by decide +kernel
theorem dX1_addByte_23 : decode cX1_addByte 23 = .ok (.imul, 1) := by decide +kernel
theorem dX1_addByte_24 : decode cX1_addByte 24 = .ok (.iload_n 3, 1) := by decide +kernel
theorem dX1_addByte_25 : decode cX1_addByte 25 = .ok (.iadd, 1) := by decide +kernel
theorem dX1_addByte_26 : decode cX1_addByte 26 = .ok (.iload_n 2, 1) := by decide +kernel
theorem dX1_addByte_27 : decode cX1_addByte 27 = .ok (.iastore, 1) := by decide +kernel
theorem dX1_addByte_28 : decode cX1_addByte 28 = .ok (.aload_n 0, 1) := by decide +kernel
theorem dX1_addByte_29 : decode cX1_addByte 29 = .ok (.getfield 15, 3) := by decide +kernel
theorem dX1_addByte_32 : decode cX1_addByte 32 = .ok (.iload_n 1, 1) := by decide +kernel
theorem dX1_addByte_33 : decode cX1_addByte 33 = .ok (.iload_n 3, 1) := by decide +kernel
theorem dX1_addByte_34 : decode cX1_addByte 34 = .ok (.iconst 1, 1) := by decide +kernel
theorem dX1_addByte_35 : decode cX1_addByte 35 = .ok (.iadd, 1) := by decide +kernel
theorem dX1_addByte_36 : decode cX1_addByte 36 = .ok (.iastore, 1) := by decide +kernel
theorem dX1_addByte_37 : decode cX1_addByte 37 = .ok (.iload_n 3, 1) := by decide +kernel
theorem dX1_addByte_38 : decode cX1_addByte 38 = .ok (.iconst 1, 1) := by decide +kernel
theorem dX1_addByte_39 : decode cX1_addByte 39 = .ok (.iadd, 1) := by decide +kernel
theorem dX1_addByte_40 : decode cX1_addByte 40 = .ok (.ireturn, 1) := by decide +kernel
theorem dX1_byteAt_0 : decode cX1_byteAt 0 = .ok (.aload_n 0, 1) := by decide +kernel
theorem dX1_byteAt_1 : decode cX1_byteAt 1 = .ok (.getfield 19, 3) := by decide +kernel
theorem dX1_byteAt_4 : decode cX1_byteAt 4 = .ok (.iload_n 1, 1) := by decide +kernel
theorem dX1_byteAt_5 : decode cX1_byteAt 5 = .ok (.bipush 60, 2) := by decide +kernel
theorem dX1_byteAt_7 : decode cX1_byteAt 7 = .ok (.imul, 1) := by decide +kernel
theorem dX1_byteAt_8 : decode cX1_byteAt 8 = .ok (.iload_n 2, 1) := by decide +kernel
theorem dX1_byteAt_9 : decode cX1_byteAt 9 = .ok (.iadd, 1) := by decide +kernel
theorem dX1_byteAt_10 : decode cX1_byteAt 10 = .ok (.iaload, 1) := by decide +kernel
theorem dX1_byteAt_11 : decode cX1_byteAt 11 = .ok (.ireturn, 1) := by decide +kernel
theorem dX1_isMember_0 : decode cX1_isMember 0 = .ok (.aload_n 0, 1) := by decide +kernel
theorem dX1_isMember_1 : decode cX1_isMember 1 = .ok (.getfield 25, 3) := by decide +kernel
theorem dX1_isMember_4 : decode cX1_isMember 4 = .ok (.iload_n 1, 1) := by decide +kernel
theorem dX1_isMember_5 : decode cX1_isMember 5 = .ok (.iaload, 1) := by decide +kernel
theorem dX1_isMember_6 : decode cX1_isMember 6 = .ok (.iconst (-1), 1) := by decide +kernel
theorem dX1_isMember_7 : decode cX1_isMember 7 = .ok (.if_icmp .eq 7, 3) := by decide +kernel
theorem dX1_isMember_10 : decode cX1_isMember 10 = .ok (.iconst 1, 1) := by decide +kernel
theorem dX1_isMember_11 : decode cX1_isMember 11 = .ok (.goto 4, 3) := by decide +kernel
theorem dX1_isMember_14 : decode cX1_isMember 14 = .ok (.iconst 0, 1) := by decide +kernel
theorem dX1_isMember_15 : decode cX1_isMember 15 = .ok (.ireturn, 1) := by decide +kernel
theorem dX1_isInside_0 : decode cX1_isInside 0 = .ok (.iload_n 1, 1) := by decide +kernel
theorem dX1_isInside_1 : decode cX1_isInside 1 = .ok (.istore_n 3, 1) := by decide +kernel
theorem dX1_isInside_2 : decode cX1_isInside 2 = .ok (.iconst 0, 1) := by decide +kernel
theorem dX1_isInside_3 : decode cX1_isInside 3 = .ok (.istore 4, 2) := by decide +kernel
theorem dX1_isInside_5 : decode cX1_isInside 5 = .ok (.iload 4, 2) := by decide +kernel
theorem dX1_isInside_7 : decode cX1_isInside 7 = .ok (.bipush 40, 2) := by decide +kernel
theorem dX1_isInside_9 : decode cX1_isInside 9 = .ok (.if_icmp .ge 28, 3) := by decide +kernel
theorem dX1_isInside_12 : decode cX1_isInside 12 = .ok (.iload_n 3, 1) := by decide +kernel
theorem dX1_isInside_13 : decode cX1_isInside 13 = .ok (.iconst (-1), 1) := by decide +kernel
theorem dX1_isInside_14 : decode cX1_isInside 14 = .ok (.if_icmp .eq 23, 3) := by decide +kernel
theorem dX1_isInside_17 : decode cX1_isInside 17 = .ok (.iload_n 3, 1) := by decide +kernel
theorem dX1_isInside_18 : decode cX1_isInside 18 = .ok (.iload_n 2, 1) := by decide +kernel
theorem dX1_isInside_19 : decode cX1_isInside 19 = .ok (.if_icmp .ne 5, 3) := by decide +kernel
theorem dX1_isInside_22 : decode cX1_isInside 22 = .ok (.iconst 1, 1) := by decide +kernel
theorem dX1_isInside_23 : decode cX1_isInside 23 = .ok (.ireturn, 1) := by decide +kernel
theorem dX1_isInside_24 : decode cX1_isInside 24 = .ok (.aload_n 0, 1) := by decide +kernel
theorem dX1_isInside_25 : decode cX1_isInside 25 = .ok (.getfield 25, 3) := by decide +kernel
theorem dX1_isInside_28 : decode cX1_isInside 28 = .ok (.iload_n 3, 1) := by decide +kernel
theorem dX1_isInside_29 : decode cX1_isInside 29 = .ok (.iaload, 1) := by decide +kernel
theorem dX1_isInside_30 : decode cX1_isInside 30 = .ok (.istore_n 3, 1) := by decide +kernel
theorem dX1_isInside_31 : decode cX1_isInside 31 = .ok (.iinc 4 1, 3) := by decide +kernel
theorem dX1_isInside_34 : decode cX1_isInside 34 = .ok (.goto (-29), 3) := by decide +kernel
theorem dX1_isInside_37 : decode cX1_isInside 37 = .ok (.iconst 0, 1) := by decide +kernel
theorem dX1_isInside_38 : decode cX1_isInside 38 = .ok (.ireturn, 1) := by decide +kernel
theorem dX1_addMember_0 : decode cX1_addMember 0 = .ok (.aload_n 0, 1) := by decide +kernel
theorem dX1_addMember_1 : decode cX1_addMember 1 = .ok (.getfield 22, 3) := by decide +kernel
theorem dX1_addMember_4 : decode cX1_addMember 4 = .ok (.iload_n 2, 1) := by decide +kernel
theorem dX1_addMember_5 : decode cX1_addMember 5 = .ok (.iaload, 1) := by decide +kernel
theorem dX1_addMember_6 : decode cX1_addMember 6 = .ok (.bipush 8, 2) := by decide +kernel
theorem dX1_addMember_8 : decode cX1_addMember 8 = .ok (.if_icmp .lt 6, 3) := by decide +kernel
theorem dX1_addMember_11 : decode cX1_addMember 11 = .ok (.bipush (-4), 2) := by decide +kernel
theorem dX1_addMember_13 : decode cX1_addMember 13 = .ok (.ireturn, 1) := by decide +kernel
theorem dX1_addMember_14 : decode cX1_addMember 14 = .ok (.aload_n 0, 1) := by decide +kernel
theorem dX1_addMember_15 : decode cX1_addMember 15 = .ok (.getfield 25, 3) := by decide +kernel
theorem dX1_addMember_18 : decode cX1_addMember 18 = .ok (.iload_n 1, 1) := by decide +kernel
theorem dX1_addMember_19 : decode cX1_addMember 19 = .ok (.iload_n 2, 1) := by decide +kernel
theorem dX1_addMember_20 : decode cX1_addMember 20 = .ok (.iastore, 1) := by decide +kernel
theorem dX1_addMember_21 : decode cX1_addMember 21 = .ok (.aload_n 0, 1) := by decide +kernel
theorem dX1_addMember_22 : decode cX1_addMember 22 = .ok (.getfield 22, 3) := by decide +kernel
theorem dX1_addMember_25 : decode cX1_addMember 25 = .ok (.iload_n 2, 1) := by decide +kernel
theorem dX1_addMember_26 : decode cX1_addMember 26 = .ok (.dup2, 1) := by decide +kernel
theorem dX1_addMember_27 : decode cX1_addMember 27 = .ok (.iaload, 1) := by decide +kernel
theorem dX1_addMember_28 : decode cX1_addMember 28 = .ok (.iconst 1, 1) := by decide +kernel
theorem dX1_addMember_29 : decode cX1_addMember 29 = .ok (.iadd, 1) := by decide +kernel
theorem dX1_addMember_30 : decode cX1_addMember 30 = .ok (.iastore, 1) := by decide +kernel
theorem dX1_addMember_31 : decode cX1_addMember 31 = .ok (.aload_n 0, 1) := by decide +kernel
theorem dX1_addMember_32 : decode cX1_addMember 32 = .ok (.getfield 22, 3) := by decide +kernel
theorem dX1_addMember_35 : decode cX1_addMember 35 = .ok (.iload_n 2, 1) := by decide +kernel
theorem dX1_addMember_36 : decode cX1_addMember 36 = .ok (.iaload, 1) := by decide +kernel
theorem dX1_addMember_37 : decode cX1_addMember 37 = .ok (.ireturn, 1) := by decide +kernel
theorem dX2_init_0 : decode cX2_init 0 = .ok (.aload_n 0, 1) := by decide +kernel
theorem dX2_init_1 : decode cX2_init 1 = .ok (.invokespecial 3, 3) := by decide +kernel
theorem dX2_init_4 : decode cX2_init 4 = .ok (.aload_n 0, 1) := by decide +kernel
theorem dX2_init_5 : decode cX2_init 5 = .ok (.bipush 30, 2) := by decide +kernel
theorem dX2_init_7 : decode cX2_init 7 = .ok (.newarray .boolean, 2) := by decide +kernel
theorem dX2_init_9 : decode cX2_init 9 = .ok (.putfield 9, 3) := by decide +kernel
theorem dX2_init_12 : decode cX2_init 12 = .ok (.aload_n 0, 1) := by decide +kernel
theorem dX2_init_13 : decode cX2_init 13 = .ok (.bipush 30, 2) := by decide +kernel
theorem dX2_init_15 : decode cX2_init 15 = .ok (.newarray .int, 2) := by decide +kernel
theorem dX2_init_17 : decode cX2_init 17 = .ok (.putfield 15, 3) := by decide +kernel
theorem dX2_init_20 : decode cX2_init 20 = .ok (.aload_n 0, 1) := by decide +kernel
theorem dX2_init_21 : decode cX2_init 21 = .ok (.getfield 15, 3) := by decide +kernel
theorem dX2_init_24 : decode cX2_init 24 = .ok (.iconst (-1), 1) := by decide +kernel
theorem dX2_init_25 : decode cX2_init 25 = .ok (.invokestatic 19, 3) := by decide +kernel
theorem dX2_init_28 : decode cX2_init 28 = .ok (.return_, 1) := by decide +kernel
theorem dX2_leads_0 : decode cX2_leads 0 = .ok (.iload_n 1, 1) := by decide +kernel
theorem dX2_leads_1 : decode cX2_leads 1 = .ok (.istore_n 3, 1) := by decide +kernel
theorem dX2_leads_2 : decode cX2_leads 2 = .ok (.iconst 0, 1) := by decide +kernel
theorem dX2_leads_3 : decode cX2_leads 3 = .ok (.istore 4, 2) := by decide +kernel
theorem dX2_leads_5 : decode cX2_leads 5 = .ok (.iload 4, 2) := by decide +kernel
theorem dX2_leads_7 : decode cX2_leads 7 = .ok (.bipush 30, 2) := by decide +kernel
theorem dX2_leads_9 : decode cX2_leads 9 = .ok (.if_icmp .ge 28, 3) := by decide +kernel
theorem dX2_leads_12 : decode cX2_leads 12 = .ok (.iload_n 3, 1) := by decide +kernel
theorem dX2_leads_13 : decode cX2_leads 13 = .ok (.iconst (-1), 1) := by decide +kernel
theorem dX2_leads_14 : decode cX2_leads 14 = .ok (.if_icmp .eq 23, 3) := by decide +kernel
theorem dX2_leads_17 : decode cX2_leads 17 = .ok (.iload_n 3, 1) := by decide +kernel
theorem dX2_leads_18 : decode cX2_leads 18 = .ok (.iload_n 2, 1) := by decide +kernel
theorem dX2_leads_19 : decode cX2_leads 19 = .ok (.if_icmp .ne 5, 3) := by decide +kernel
theorem dX2_leads_22 : decode cX2_leads 22 = .ok (.iconst 1, 1) := by decide +kernel
theorem dX2_leads_23 : decode cX2_leads 23 = .ok (.ireturn, 1) := by decide +kernel
theorem dX2_leads_24 : decode cX2_leads 24 = .ok (.aload_n 0, 1) := by decide +kernel
theorem dX2_leads_25 : decode cX2_leads 25 = .ok (.getfield 15, 3) := by decide +kernel
theorem dX2_leads_28 : decode cX2_leads 28 = .ok (.iload_n 3, 1) := by decide +kernel
theorem dX2_leads_29 : decode cX2_leads 29 = .ok (.iaload, 1) := by decide +kernel
theorem dX2_leads_30 : decode cX2_leads 30 = .ok (.istore_n 3, 1) := by decide +kernel
theorem dX2_leads_31 : decode cX2_leads 31 = .ok (.iinc 4 1, 3) := by decide +kernel
theorem dX2_leads_34 : decode cX2_leads 34 = .ok (.goto (-29), 3) := by decide +kernel
theorem dX2_leads_37 : decode cX2_leads 37 = .ok (.iconst 0, 1) := by decide +kernel
theorem dX2_leads_38 : decode cX2_leads 38 = .ok (.ireturn, 1) := by decide +kernel
theorem dX2_endFrom_0 : decode cX2_endFrom 0 = .ok (.iload_n 1, 1) := by decide +kernel
theorem dX2_endFrom_1 : decode cX2_endFrom 1 = .ok (.istore_n 2, 1) := by decide +kernel
theorem dX2_endFrom_2 : decode cX2_endFrom 2 = .ok (.iconst 0, 1) := by decide +kernel
theorem dX2_endFrom_3 : decode cX2_endFrom 3 = .ok (.istore_n 3, 1) := by decide +kernel
theorem dX2_endFrom_4 : decode cX2_endFrom 4 = .ok (.iload_n 3, 1) := by decide +kernel
theorem dX2_endFrom_5 : decode cX2_endFrom 5 = .ok (.bipush 30, 2) := by decide +kernel
theorem dX2_endFrom_7 : decode cX2_endFrom 7 = .ok (.if_icmp .ge 35, 3) := by decide +kernel
theorem dX2_endFrom_10 : decode cX2_endFrom 10 = .ok (.aload_n 0, 1) := by decide +kernel
theorem dX2_endFrom_11 : decode cX2_endFrom 11 = .ok (.getfield 9, 3) := by decide +kernel
theorem dX2_endFrom_14 : decode cX2_endFrom 14 = .ok (.iload_n 2, 1) := by decide +kernel
theorem dX2_endFrom_15 : decode cX2_endFrom 15 = .ok (.baload, 1) := by decide +kernel
theorem dX2_endFrom_16 : decode cX2_endFrom 16 = .ok (.ifCond .eq 26, 3) := by decide +kernel
theorem dX2_endFrom_19 : decode cX2_endFrom 19 = .ok (.aload_n 0, 1) := by decide +kernel
theorem dX2_endFrom_20 : decode cX2_endFrom 20 = .ok (.getfield 15, 3) := by decide +kernel
theorem dX2_endFrom_23 : decode cX2_endFrom 23 = .ok (.iload_n 2, 1) := by decide +kernel
theorem dX2_endFrom_24 : decode cX2_endFrom 24 = .ok (.iaload, 1) := by decide +kernel
theorem dX2_endFrom_25 : decode cX2_endFrom 25 = .ok (.iconst (-1), 1) := by decide +kernel
theorem dX2_endFrom_26 : decode cX2_endFrom 26 = .ok (.if_icmp .eq 16, 3) := by decide +kernel
theorem dX2_endFrom_29 : decode cX2_endFrom 29 = .ok (.aload_n 0, 1) := by decide +kernel
theorem dX2_endFrom_30 : decode cX2_endFrom 30 = .ok (.getfield 15, 3) := by decide +kernel
theorem dX2_endFrom_33 : decode cX2_endFrom 33 = .ok (.iload_n 2, 1) := by decide +kernel
theorem dX2_endFrom_34 : decode cX2_endFrom 34 = .ok (.iaload, 1) := by decide +kernel
theorem dX2_endFrom_35 : decode cX2_endFrom 35 = .ok (.istore_n 2, 1) := by decide +kernel
theorem dX2_endFrom_36 : decode cX2_endFrom 36 = .ok (.iinc 3 1, 3) := by decide +kernel
theorem dX2_endFrom_39 : decode cX2_endFrom 39 = .ok (.goto (-35), 3) := by decide +kernel
theorem dX2_endFrom_42 : decode cX2_endFrom 42 = .ok (.iload_n 2, 1) := by decide +kernel
theorem dX2_endFrom_43 : decode cX2_endFrom 43 = .ok (.iload_n 1, 1) := by decide +kernel
theorem dX2_endFrom_44 : decode cX2_endFrom 44 = .ok (.if_icmp .ne 7, 3) := by decide +kernel
theorem dX2_endFrom_47 : decode cX2_endFrom 47 = .ok (.iconst (-1), 1) := by decide +kernel
theorem dX2_endFrom_48 : decode cX2_endFrom 48 = .ok (.goto 4, 3) := by decide +kernel
theorem dX2_endFrom_51 : decode cX2_endFrom 51 = .ok (.iload_n 2, 1) := by decide +kernel
theorem dX2_endFrom_52 : decode cX2_endFrom 52 = .ok (.ireturn, 1) := by decide +kernel
theorem dX3_init_0 : decode cX3_init 0 = .ok (.aload_n 0, 1) := by decide +kernel
theorem dX3_init_1 : decode cX3_init 1 = .ok (.invokespecial 3, 3) := by decide +kernel
theorem dX3_init_4 : decode cX3_init 4 = .ok (.aload_n 0, 1) := by decide +kernel
theorem dX3_init_5 : decode cX3_init 5 = .ok (.bipush 60, 2) := by decide +kernel
theorem dX3_init_7 : decode cX3_init 7 = .ok (.newarray .int, 2) := by decide +kernel
theorem dX3_init_9 : decode cX3_init 9 = .ok (.putfield 9, 3) := by decide +kernel
theorem dX3_init_12 : decode cX3_init 12 = .ok (.aload_n 0, 1) := by decide +kernel
theorem dX3_init_13 : decode cX3_init 13 = .ok (.iconst 0, 1) := by decide +kernel
theorem dX3_init_14 : decode cX3_init 14 = .ok (.putfield 15, 3) := by decide +kernel
theorem dX3_init_17 : decode cX3_init 17 = .ok (.aload_n 0, 1) := by decide +kernel
theorem dX3_init_18 : decode cX3_init 18 = .ok (.iconst 0, 1) := by decide +kernel
theorem dX3_init_19 : decode cX3_init 19 = .ok (.putfield 19, 3) := by decide +kernel
theorem dX3_init_22 : decode cX3_init 22 = .ok (.aload_n 0, 1) := by decide +kernel
theorem dX3_init_23 : decode cX3_init 23 = .ok (.iconst 0, 1) := by decide +kernel
theorem dX3_init_24 : decode cX3_init 24 = .ok (.putfield 22, 3) := by decide +kernel
theorem dX3_init_27 : decode cX3_init 27 = .ok (.aload_n 0, 1) := by decide +kernel
theorem dX3_init_28 : decode cX3_init 28 = .ok (.iconst 0, 1) := by decide +kernel
theorem dX3_init_29 : decode cX3_init 29 = .ok (.putfield 25, 3) := by decide +kernel
theorem dX3_init_32 : decode cX3_init 32 = .ok (.aload_n 0, 1) := by decide +kernel
theorem dX3_init_33 : decode cX3_init 33 = .ok (.iconst 0, 1) := by decide +kernel
theorem dX3_init_34 : decode cX3_init 34 = .ok (.putfield 28, 3) := by decide +kernel
theorem dX3_init_37 : decode cX3_init 37 = .ok (.aload_n 0, 1) := by decide +kernel
theorem dX3_init_38 : decode cX3_init 38 = .ok (.iconst 0, 1) := by decide +kernel
theorem dX3_init_39 : decode cX3_init 39 = .ok (.putfield 32, 3) := by decide +kernel
theorem dX3_init_42 : decode cX3_init 42 = .ok (.aload_n 0, 1) := by decide +kernel
theorem dX3_init_43 : decode cX3_init 43 = .ok (.bipush 12, 2) := by decide +kernel
theorem dX3_init_45 : decode cX3_init 45 = .ok (.newarray .int, 2) := by decide +kernel
theorem dX3_init_47 : decode cX3_init 47 = .ok (.putfield 35, 3) := by decide +kernel
theorem dX3_init_50 : decode cX3_init 50 = .ok (.aload_n 0, 1) := by decide +kernel
theorem dX3_init_51 : decode cX3_init 51 = .ok (.iconst 0, 1) := by decide +kernel
theorem dX3_init_52 : decode cX3_init 52 = .ok (.putfield 38, 3) := by decide +kernel
theorem dX3_init_55 : decode cX3_init 55 = .ok (.return_, 1) := by decide +kernel
theorem dX3_add_0 : decode cX3_add 0 = .ok (.aload_n 0, 1) := by decide +kernel
theorem dX3_add_1 : decode cX3_add 1 = .ok (.getfield 15, 3) := by decide +kernel
theorem dX3_add_4 : decode cX3_add 4 = .ok (.bipush 60, 2) := by decide +kernel
theorem dX3_add_6 : decode cX3_add 6 = .ok (.if_icmp .ge 23, 3) := by decide +kernel
theorem dX3_add_9 : decode cX3_add 9 = .ok (.aload_n 0, 1) := by decide +kernel
theorem dX3_add_10 : decode cX3_add 10 = .ok (.getfield 9, 3) := by decide +kernel
theorem dX3_add_13 : decode cX3_add 13 = .ok (.aload_n 0, 1) := by decide +kernel
theorem dX3_add_14 : decode cX3_add 14 = .ok (.getfield 15, 3) := by decide +kernel
theorem dX3_add_17 : decode cX3_add 17 = .ok (.iload_n 1, 1) := by decide +kernel
theorem dX3_add_18 : decode cX3_add 18 = .ok (.iastore, 1) := by decide +kernel
theorem dX3_add_19 : decode cX3_add 19 = .ok (.aload_n 0, 1) := by decide +kernel
theorem dX3_add_20 : decode cX3_add 20 = .ok (.dup, 1) := by decide +kernel
theorem dX3_add_21 : decode cX3_add 21 = .ok (.getfield 15, 3) := by decide +kernel
theorem dX3_add_24 : decode cX3_add 24 = .ok (.iconst 1, 1) := by decide +kernel
theorem dX3_add_25 : decode cX3_add 25 = .ok (.iadd, 1) := by decide +kernel
theorem dX3_add_26 : decode cX3_add 26 = .ok (.putfield 15, 3) := by decide +kernel
theorem dX3_add_29 : decode cX3_add 29 = .ok (.return_, 1) := by decide +kernel
theorem dX3_forget_0 : decode cX3_forget 0 = .ok (.aload_n 0, 1) := by decide +kernel
theorem dX3_forget_1 : decode cX3_forget 1 = .ok (.iconst 0, 1) := by decide +kernel
theorem dX3_forget_2 : decode cX3_forget 2 = .ok (.putfield 15, 3) := by decide +kernel
theorem dX3_forget_5 : decode cX3_forget 5 = .ok (.return_, 1) := by decide +kernel
theorem dX3_read_0 : decode cX3_read 0 = .ok (.aload_n 0, 1) := by decide +kernel
theorem dX3_read_1 : decode cX3_read 1 = .ok (.iconst 0, 1) := by decide +kernel
theorem dX3_read_2 : decode cX3_read 2 = .ok (.putfield 19, 3) := by decide +kernel
theorem dX3_read_5 : decode cX3_read 5 = .ok (.aload_n 0, 1) := by decide +kernel
theorem dX3_read_6 : decode cX3_read 6 = .ok (.invokevirtual 41, 3) := by decide +kernel
theorem dX3_read_9 : decode cX3_read 9 = .ok (.ifCond .eq 49, 3) := by decide +kernel
theorem dX3_read_12 : decode cX3_read 12 = .ok (.aload_n 0, 1) := by decide +kernel
theorem dX3_read_13 : decode cX3_read 13 = .ok (.invokevirtual 45, 3) := by decide +kernel
theorem dX3_read_16 : decode cX3_read 16 = .ok (.ifCond .eq 42, 3) := by decide +kernel
theorem dX3_read_19 : decode cX3_read 19 = .ok (.aload_n 0, 1) := by decide +kernel
theorem dX3_read_20 : decode cX3_read 20 = .ok (.invokevirtual 48, 3) := by decide +kernel
theorem dX3_read_23 : decode cX3_read 23 = .ok (.ifCond .eq 35, 3) := by decide +kernel
theorem dX3_read_26 : decode cX3_read 26 = .ok (.aload_n 0, 1) := by decide +kernel
theorem dX3_read_27 : decode cX3_read 27 = .ok (.invokevirtual 45, 3) := by decide +kernel
theorem dX3_read_30 : decode cX3_read 30 = .ok (.ifCond .eq 28, 3) := by decide +kernel
theorem dX3_read_33 : decode cX3_read 33 = .ok (.aload_n 0, 1) := by decide +kernel
theorem dX3_read_34 : decode cX3_read 34 = .ok (.invokevirtual 51, 3) := by decide +kernel
theorem dX3_read_37 : decode cX3_read 37 = .ok (.ifCond .eq 21, 3) := by decide +kernel
theorem dX3_read_40 : decode cX3_read 40 = .ok (.aload_n 0, 1) := by decide +kernel
theorem dX3_read_41 : decode cX3_read 41 = .ok (.invokevirtual 45, 3) := by decide +kernel
theorem dX3_read_44 : decode cX3_read 44 = .ok (.ifCond .eq 14, 3) := by decide +kernel
theorem dX3_read_47 : decode cX3_read 47 = .ok (.aload_n 0, 1) := by decide +kernel
theorem dX3_read_48 : decode cX3_read 48 = .ok (.invokevirtual 54, 3) := by decide +kernel
theorem dX3_read_51 : decode cX3_read 51 = .ok (.ifCond .eq 7, 3) := by decide +kernel
theorem dX3_read_54 : decode cX3_read 54 = .ok (.iconst 1, 1) := by decide +kernel
theorem dX3_read_55 : decode cX3_read 55 = .ok (.goto 4, 3) := by decide +kernel
theorem dX3_read_58 : decode cX3_read 58 = .ok (.iconst 0, 1) := by decide +kernel
theorem dX3_read_59 : decode cX3_read 59 = .ok (.ireturn, 1) := by decide +kernel
theorem dX3_readFormat_0 : decode cX3_readFormat 0 = .ok (.aload_n 0, 1) := by decide +kernel
theorem dX3_readFormat_1 : decode cX3_readFormat 1 = .ok (.aload_n 0, 1) := by decide +kernel
theorem dX3_readFormat_2 : decode cX3_readFormat 2 = .ok (.iconst 2, 1) := by decide +kernel
theorem dX3_readFormat_3 : decode cX3_readFormat 3 = .ok (.bipush 30, 2) := by decide +kernel
theorem dX3_readFormat_5 : decode cX3_readFormat 5 = .ok (.invokevirtual 57, 3) := by decide +kernel
theorem dX3_readFormat_8 : decode cX3_readFormat 8 = .ok (.putfield 22, 3) := by decide +kernel
theorem dX3_readFormat_11 : decode cX3_readFormat 11 = .ok (.aload_n 0, 1) := by decide +kernel
theorem dX3_readFormat_12 : decode cX3_readFormat 12 = .ok (.getfield 22, 3) := by decide +kernel
theorem dX3_readFormat_15 : decode cX3_readFormat 15 = .ok (.iconst (-1), 1) := by decide +kernel
theorem dX3_readFormat_16 : decode cX3_readFormat 16 = .ok (.if_icmp .eq 7, 3) := by decide +kernel
theorem dX3_readFormat_19 : decode cX3_readFormat 19 = .ok (.iconst 1, 1) := by decide +kernel
theorem dX3_readFormat_20 : decode cX3_readFormat 20 = .ok (.goto 4, 3) := by decide +kernel
theorem dX3_readFormat_23 : decode cX3_readFormat 23 = .ok (.iconst 0, 1) := by decide +kernel
theorem dX3_readFormat_24 : decode cX3_readFormat 24 = .ok (.ireturn, 1) := by decide +kernel
theorem dX3_readRank_0 : decode cX3_readRank 0 = .ok (.aload_n 0, 1) := by decide +kernel
theorem dX3_readRank_1 : decode cX3_readRank 1 = .ok (.aload_n 0, 1) := by decide +kernel
theorem dX3_readRank_2 : decode cX3_readRank 2 = .ok (.iconst 1, 1) := by decide +kernel
theorem dX3_readRank_3 : decode cX3_readRank 3 = .ok (.bipush 10, 2) := by decide +kernel
theorem dX3_readRank_5 : decode cX3_readRank 5 = .ok (.invokevirtual 57, 3) := by decide +kernel
theorem dX3_readRank_8 : decode cX3_readRank 8 = .ok (.putfield 25, 3) := by decide +kernel
theorem dX3_readRank_11 : decode cX3_readRank 11 = .ok (.aload_n 0, 1) := by decide +kernel
theorem dX3_readRank_12 : decode cX3_readRank 12 = .ok (.getfield 25, 3) := by decide +kernel
theorem dX3_readRank_15 : decode cX3_readRank 15 = .ok (.iconst (-1), 1) := by decide +kernel
theorem dX3_readRank_16 : decode cX3_readRank 16 = .ok (.if_icmp .eq 7, 3) := by decide +kernel
theorem dX3_readRank_19 : decode cX3_readRank 19 = .ok (.iconst 1, 1) := by decide +kernel
theorem dX3_readRank_20 : decode cX3_readRank 20 = .ok (.goto 4, 3) := by decide +kernel
theorem dX3_readRank_23 : decode cX3_readRank 23 = .ok (.iconst 0, 1) := by decide +kernel
theorem dX3_readRank_24 : decode cX3_readRank 24 = .ok (.ireturn, 1) := by decide +kernel
theorem dX3_readOffset_0 : decode cX3_readOffset 0 = .ok (.aload_n 0, 1) := by decide +kernel
theorem dX3_readOffset_1 : decode cX3_readOffset 1 = .ok (.aload_n 0, 1) := by decide +kernel
theorem dX3_readOffset_2 : decode cX3_readOffset 2 = .ok (.getfield 19, 3) := by decide +kernel
theorem dX3_readOffset_5 : decode cX3_readOffset 5 = .ok (.invokevirtual 61, 3) := by decide +kernel
theorem dX3_readOffset_8 : decode cX3_readOffset 8 = .ok (.istore_n 1, 1) := by decide +kernel
theorem dX3_readOffset_9 : decode cX3_readOffset 9 = .ok (.iload_n 1, 1) := by decide +kernel
theorem dX3_readOffset_10 : decode cX3_readOffset 10 = .ok (.bipush 64, 2) := by decide +kernel
theorem dX3_readOffset_12 : decode cX3_readOffset 12 = .ok (.if_icmp .eq 11, 3) := by decide +kernel
theorem dX3_readOffset_15 : decode cX3_readOffset 15 = .ok (.iload_n 1, 1) := by decide +kernel
theorem dX3_readOffset_16 : decode cX3_readOffset 16 = .ok (.bipush 45, 2) := by decide +kernel
theorem dX3_readOffset_18 : decode cX3_readOffset 18 = .ok (.if_icmp .eq 5, 3) := by decide +kernel
theorem dX3_readOffset_21 : decode cX3_readOffset 21 = .ok (.iconst 0, 1) := by decide +kernel
theorem dX3_readOffset_22 : decode cX3_readOffset 22 = .ok (.ireturn, 1) := by decide +kernel
theorem dX3_readOffset_23 : decode cX3_readOffset 23 = .ok (.aload_n 0, 1) := by decide +kernel
theorem dX3_readOffset_24 : decode cX3_readOffset 24 = .ok (.iload_n 1, 1) := by decide +kernel
theorem dX3_readOffset_25 : decode cX3_readOffset 25 = .ok (.bipush 45, 2) := by decide +kernel
theorem dX3_readOffset_27 : decode cX3_readOffset 27 = .ok (.if_icmp .ne 7, 3) := by decide +kernel
theorem dX3_readOffset_30 : decode cX3_readOffset 30 = .ok (.iconst 1, 1) := by decide +kernel
theorem dX3_readOffset_31 : decode cX3_readOffset 31 = .ok (.goto 4, 3) := by decide +kernel
theorem dX3_readOffset_34 : decode cX3_readOffset 34 = .ok (.iconst 0, 1) := by decide +kernel
theorem dX3_readOffset_35 : decode cX3_readOffset 35 = .ok (.putfield 28, 3) := by decide +kernel
theorem dX3_readOffset_38 : decode cX3_readOffset 38 = .ok (.aload_n 0, 1) := by decide +kernel
theorem dX3_readOffset_39 : decode cX3_readOffset 39 = .ok (.dup, 1) := by decide +kernel
theorem dX3_readOffset_40 : decode cX3_readOffset 40 = .ok (.getfield 19, 3) := by decide +kernel
theorem dX3_readOffset_43 : decode cX3_readOffset 43 = .ok (.iconst 1, 1) := by decide +kernel
theorem dX3_readOffset_44 : decode cX3_readOffset 44 = .ok (.iadd, 1) := by decide +kernel
theorem dX3_readOffset_45 : decode cX3_readOffset 45 = .ok (.putfield 19, 3) := by decide +kernel
theorem dX3_readOffset_48 : decode cX3_readOffset 48 = .ok (.aload_n 0, 1) := by decide +kernel
theorem dX3_readOffset_49 : decode cX3_readOffset 49 = .ok (.aload_n 0, 1) := by decide +kernel
theorem dX3_readOffset_50 : decode cX3_readOffset 50 = .ok (.iconst 3, 1) := by decide +kernel
theorem dX3_readOffset_51 : decode cX3_readOffset 51 = .ok (.sipush 1000, 3) := by decide +kernel
theorem dX3_readOffset_54 : decode cX3_readOffset 54 = .ok (.invokevirtual 57, 3) := by decide +kernel
theorem dX3_readOffset_57 : decode cX3_readOffset 57 = .ok (.putfield 32, 3) := by decide +kernel
theorem dX3_readOffset_60 : decode cX3_readOffset 60 = .ok (.aload_n 0, 1) := by decide +kernel
theorem dX3_readOffset_61 : decode cX3_readOffset 61 = .ok (.getfield 32, 3) := by decide +kernel
theorem dX3_readOffset_64 : decode cX3_readOffset 64 = .ok (.iconst (-1), 1) := by decide +kernel
theorem dX3_readOffset_65 : decode cX3_readOffset 65 = .ok (.if_icmp .eq 7, 3) := by decide +kernel
theorem dX3_readOffset_68 : decode cX3_readOffset 68 = .ok (.iconst 1, 1) := by decide +kernel
theorem dX3_readOffset_69 : decode cX3_readOffset 69 = .ok (.goto 4, 3) := by decide +kernel
theorem dX3_readOffset_72 : decode cX3_readOffset 72 = .ok (.iconst 0, 1) := by decide +kernel
theorem dX3_readOffset_73 : decode cX3_readOffset 73 = .ok (.ireturn, 1) := by decide +kernel
theorem dX3_readBlank_0 : decode cX3_readBlank 0 = .ok (.aload_n 0, 1) := by decide +kernel
theorem dX3_readBlank_1 : decode cX3_readBlank 1 = .ok (.aload_n 0, 1) := by decide +kernel
theorem dX3_readBlank_2 : decode cX3_readBlank 2 = .ok (.getfield 19, 3) := by decide +kernel
theorem dX3_readBlank_5 : decode cX3_readBlank 5 = .ok (.invokevirtual 61, 3) := by decide +kernel
theorem dX3_readBlank_8 : decode cX3_readBlank 8 = .ok (.bipush 32, 2) := by decide +kernel
theorem dX3_readBlank_10 : decode cX3_readBlank 10 = .ok (.if_icmp .eq 5, 3) := by decide +kernel
theorem dX3_readBlank_13 : decode cX3_readBlank 13 = .ok (.iconst 0, 1) := by decide +kernel
theorem dX3_readBlank_14 : decode cX3_readBlank 14 = .ok (.ireturn, 1) := by decide +kernel
theorem dX3_readBlank_15 : decode cX3_readBlank 15 = .ok (.aload_n 0, 1) := by decide +kernel
theorem dX3_readBlank_16 : decode cX3_readBlank 16 = .ok (.dup, 1) := by decide +kernel
theorem dX3_readBlank_17 : decode cX3_readBlank 17 = .ok (.getfield 19, 3) := by decide +kernel
theorem dX3_readBlank_20 : decode cX3_readBlank 20 = .ok (.iconst 1, 1) := by decide +kernel
theorem dX3_readBlank_21 : decode cX3_readBlank 21 = .ok (.iadd, 1) := by decide +kernel
theorem dX3_readBlank_22 : decode cX3_readBlank 22 = .ok (.putfield 19, 3) := by decide +kernel
theorem dX3_readBlank_25 : decode cX3_readBlank 25 = .ok (.iconst 1, 1) := by decide +kernel
theorem dX3_readBlank_26 : decode cX3_readBlank 26 = .ok (.ireturn, 1) := by decide +kernel
theorem dX3_readNumber_0 : decode cX3_readNumber 0 = .ok (.iconst 0, 1) := by decide +kernel
theorem dX3_readNumber_1 : decode cX3_readNumber 1 = .ok (.istore_n 3, 1) := by decide +kernel
theorem dX3_readNumber_2 : decode cX3_readNumber 2 = .ok (.aload_n 0, 1) := by decide +kernel
theorem dX3_readNumber_3 : decode cX3_readNumber 3 = .ok (.getfield 19, 3) := by decide +kernel
theorem dX3_readNumber_6 : decode cX3_readNumber 6 = .ok (.istore 4, 2) := by decide +kernel
theorem dX3_readNumber_8 : decode cX3_readNumber 8 = .ok (.iload 4, 2) := by decide +kernel
theorem dX3_readNumber_10 : decode cX3_readNumber 10 = .ok (.aload_n 0, 1) := by decide +kernel
theorem dX3_readNumber_11 : decode cX3_readNumber 11 = .ok (.getfield 15, 3) := by decide +kernel
theorem dX3_readNumber_14 : decode cX3_readNumber 14 = .ok (.if_icmp .ge 36, 3) := by decide +kernel
theorem dX3_readNumber_17 : decode cX3_readNumber 17 = .ok (.aload_n 0, 1) := by decide +kernel
theorem dX3_readNumber_18 : decode cX3_readNumber 18 = .ok (.iload 4, 2) := by decide +kernel
theorem dX3_readNumber_20 : decode cX3_readNumber 20 = .ok (.invokevirtual 61, 3) := by decide +kernel
theorem dX3_readNumber_23 : decode cX3_readNumber 23 = .ok (.invokestatic 65, 3) := by decide +kernel
theorem dX3_readNumber_26 : decode cX3_readNumber 26 = .ok (.ifCond .eq 24, 3) := by decide +kernel
theorem dX3_readNumber_29 : decode cX3_readNumber 29 = .ok (.iload_n 3, 1) := by decide +kernel
theorem dX3_readNumber_30 : decode cX3_readNumber 30 = .ok (.bipush 10, 2) := by decide +kernel
theorem dX3_readNumber_32 : decode cX3_readNumber 32 = .ok (.imul, 1) := by decide +kernel
theorem dX3_readNumber_33 : decode cX3_readNumber 33 = .ok (.aload_n 0, 1) := by decide +kernel
theorem dX3_readNumber_34 : decode cX3_readNumber 34 = .ok (.iload 4, 2) := by decide +kernel
theorem dX3_readNumber_36 : decode cX3_readNumber 36 = .ok (.invokevirtual 61, 3) := by decide +kernel
theorem dX3_readNumber_39 : decode cX3_readNumber 39 = .ok (.iadd, 1) := by decide +kernel
theorem dX3_readNumber_40 : decode cX3_readNumber 40 = .ok (.bipush 48, 2) := by decide +kernel
theorem dX3_readNumber_42 : decode cX3_readNumber 42 = .ok (.isub, 1) := by decide +kernel
theorem dX3_readNumber_43 : decode cX3_readNumber 43 = .ok (.istore_n 3, 1) := by decide +kernel
theorem dX3_readNumber_44 : decode cX3_readNumber 44 = .ok (.iinc 4 1, 3) := by decide +kernel
theorem dX3_readNumber_47 : decode cX3_readNumber 47 = .ok (.goto (-39), 3) := by decide +kernel
theorem dX3_readNumber_50 : decode cX3_readNumber 50 = .ok (.iload 4, 2) := by decide +kernel
theorem dX3_readNumber_52 : decode cX3_readNumber 52 = .ok (.aload_n 0, 1) := by decide +kernel
theorem dX3_readNumber_53 : decode cX3_readNumber 53 = .ok (.getfield 19, 3) := by decide +kernel
theorem dX3_readNumber_56 : decode cX3_readNumber 56 = .ok (.isub, 1) := by decide +kernel
theorem dX3_readNumber_57 : decode cX3_readNumber 57 = .ok (.istore 5, 2) := by decide +kernel
theorem dX3_readNumber_59 : decode cX3_readNumber 59 = .ok (.iload 5, 2) := by decide +kernel
theorem dX3_readNumber_61 : decode cX3_readNumber 61 = .ok (.ifCond .eq 14, 3) := by decide +kernel
theorem dX3_readNumber_64 : decode cX3_readNumber 64 = .ok (.iload 5, 2) := by decide +kernel
theorem dX3_readNumber_66 : decode cX3_readNumber 66 = .ok (.iload_n 1, 1) := by decide +kernel
theorem dX3_readNumber_67 : decode cX3_readNumber 67 = .ok (.if_icmp .gt 8, 3) := by decide +kernel
theorem dX3_readNumber_70 : decode cX3_readNumber 70 = .ok (.iload_n 3, 1) := by decide +kernel
theorem dX3_readNumber_71 : decode cX3_readNumber 71 = .ok (.iload_n 2, 1) := by decide +kernel
theorem dX3_readNumber_72 : decode cX3_readNumber 72 = .ok (.if_icmp .lt 5, 3) := by decide +kernel
theorem dX3_readNumber_75 : decode cX3_readNumber 75 = .ok (.iconst (-1), 1) := by decide +kernel
theorem dX3_readNumber_76 : decode cX3_readNumber 76 = .ok (.ireturn, 1) := by decide +kernel
theorem dX3_readNumber_77 : decode cX3_readNumber 77 = .ok (.aload_n 0, 1) := by decide +kernel
theorem dX3_readNumber_78 : decode cX3_readNumber 78 = .ok (.iload 4, 2) := by decide +kernel
theorem dX3_readNumber_80 : decode cX3_readNumber 80 = .ok (.putfield 19, 3) := by decide +kernel
theorem dX3_readNumber_83 : decode cX3_readNumber 83 = .ok (.iload_n 3, 1) := by decide +kernel
theorem dX3_readNumber_84 : decode cX3_readNumber 84 = .ok (.ireturn, 1) := by decide +kernel
theorem dX3_readPlaces_0 : decode cX3_readPlaces 0 = .ok (.aload_n 0, 1) := by decide +kernel
theorem dX3_readPlaces_1 : decode cX3_readPlaces 1 = .ok (.iconst 0, 1) := by decide +kernel
theorem dX3_readPlaces_2 : decode cX3_readPlaces 2 = .ok (.putfield 38, 3) := by decide +kernel
theorem dX3_readPlaces_5 : decode cX3_readPlaces 5 = .ok (.aload_n 0, 1) := by decide +kernel
theorem dX3_readPlaces_6 : decode cX3_readPlaces 6 = .ok (.aload_n 0, 1) := by decide +kernel
theorem dX3_readPlaces_7 : decode cX3_readPlaces 7 = .ok (.getfield 19, 3) := by decide +kernel
theorem dX3_readPlaces_10 : decode cX3_readPlaces 10 = .ok (.invokevirtual 61, 3) := by decide +kernel
theorem dX3_readPlaces_13 : decode cX3_readPlaces 13 = .ok (.bipush 63, 2) := by decide +kernel
theorem dX3_readPlaces_15 : decode cX3_readPlaces 15 = .ok (.if_icmp .ne 10, 3) := by decide +kernel
theorem dX3_readPlaces_18 : decode cX3_readPlaces 18 = .ok (.aload_n 0, 1) := by decide +kernel
theorem dX3_readPlaces_19 : decode cX3_readPlaces 19 = .ok (.invokevirtual 69, 3) := by decide +kernel
theorem dX3_readPlaces_22 : decode cX3_readPlaces 22 = .ok (.goto 7, 3) := by decide +kernel
theorem dX3_readPlaces_25 : decode cX3_readPlaces 25 = .ok (.aload_n 0, 1) := by decide +kernel
theorem dX3_readPlaces_26 : decode cX3_readPlaces 26 = .ok (.invokevirtual 73, 3) := by decide +kernel
theorem dX3_readPlaces_29 : decode cX3_readPlaces 29 = .ok (.istore_n 1, 1) := by decide +kernel
theorem dX3_readPlaces_30 : decode cX3_readPlaces 30 = .ok (.iload_n 1, 1) := by decide +kernel
theorem dX3_readPlaces_31 : decode cX3_readPlaces 31 = .ok (.iconst (-1), 1) := by decide +kernel
theorem dX3_readPlaces_32 : decode cX3_readPlaces 32 = .ok (.if_icmp .ne 5, 3) := by decide +kernel
theorem dX3_readPlaces_35 : decode cX3_readPlaces 35 = .ok (.iconst 0, 1) := by decide +kernel
theorem dX3_readPlaces_36 : decode cX3_readPlaces 36 = .ok (.ireturn, 1) := by decide +kernel
theorem dX3_readPlaces_37 : decode cX3_readPlaces 37 = .ok (.aload_n 0, 1) := by decide +kernel
theorem dX3_readPlaces_38 : decode cX3_readPlaces 38 = .ok (.getfield 35, 3) := by decide +kernel
theorem dX3_readPlaces_41 : decode cX3_readPlaces 41 = .ok (.aload_n 0, 1) := by decide +kernel
theorem dX3_readPlaces_42 : decode cX3_readPlaces 42 = .ok (.getfield 38, 3) := by decide +kernel
theorem dX3_readPlaces_45 : decode cX3_readPlaces 45 = .ok (.iload_n 1, 1) := by decide +kernel
theorem dX3_readPlaces_46 : decode cX3_readPlaces 46 = .ok (.iastore, 1) := by decide +kernel
theorem dX3_readPlaces_47 : decode cX3_readPlaces 47 = .ok (.aload_n 0, 1) := by decide +kernel
theorem dX3_readPlaces_48 : decode cX3_readPlaces 48 = .ok (.dup, 1) := by decide +kernel
theorem dX3_readPlaces_49 : decode cX3_readPlaces 49 = .ok (.getfield 38, 3) := by decide +kernel
theorem dX3_readPlaces_52 : decode cX3_readPlaces 52 = .ok (.iconst 1, 1) := by decide +kernel
theorem dX3_readPlaces_53 : decode cX3_readPlaces 53 = .ok (.iadd, 1) := by decide +kernel
theorem dX3_readPlaces_54 : decode cX3_readPlaces 54 = .ok (.putfield 38, 3) := by decide +kernel
theorem dX3_readPlaces_57 : decode cX3_readPlaces 57 = .ok (.aload_n 0, 1) := by decide +kernel
theorem dX3_readPlaces_58 : decode cX3_readPlaces 58 = .ok (.getfield 38, 3) := by decide +kernel
theorem dX3_readPlaces_61 : decode cX3_readPlaces 61 = .ok (.bipush 12, 2) := by decide +kernel
theorem dX3_readPlaces_63 : decode cX3_readPlaces 63 = .ok (.if_icmp .ge 14, 3) := by decide +kernel
theorem dX3_readPlaces_66 : decode cX3_readPlaces 66 = .ok (.aload_n 0, 1) := by decide +kernel
theorem dX3_readPlaces_67 : decode cX3_readPlaces 67 = .ok (.getfield 19, 3) := by decide +kernel
theorem dX3_readPlaces_70 : decode cX3_readPlaces 70 = .ok (.aload_n 0, 1) := by decide +kernel
theorem dX3_readPlaces_71 : decode cX3_readPlaces 71 = .ok (.getfield 15, 3) := by decide +kernel
theorem dX3_readPlaces_74 : decode cX3_readPlaces 74 = .ok (.if_icmp .lt (-69), 3) := by decide +kernel
theorem dX3_readPlaces_77 : decode cX3_readPlaces 77 = .ok (.aload_n 0, 1) := by decide +kernel
theorem dX3_readPlaces_78 : decode cX3_readPlaces 78 = .ok (.getfield 19, 3) := by decide +kernel
theorem dX3_readPlaces_81 : decode cX3_readPlaces 81 = .ok (.aload_n 0, 1) := by decide +kernel
theorem dX3_readPlaces_82 : decode cX3_readPlaces 82 = .ok (.getfield 15, 3) := by decide +kernel
theorem dX3_readPlaces_85 : decode cX3_readPlaces 85 = .ok (.if_icmp .ne 7, 3) := by decide +kernel
theorem dX3_readPlaces_88 : decode cX3_readPlaces 88 = .ok (.iconst 1, 1) := by decide +kernel
theorem dX3_readPlaces_89 : decode cX3_readPlaces 89 = .ok (.goto 4, 3) := by decide +kernel
theorem dX3_readPlaces_92 : decode cX3_readPlaces 92 = .ok (.iconst 0, 1) := by decide +kernel
theorem dX3_readPlaces_93 : decode cX3_readPlaces 93 = .ok (.ireturn, 1) := by decide +kernel
theorem dX3_readAnyByte_0 : decode cX3_readAnyByte 0 = .ok (.aload_n 0, 1) := by decide +kernel
theorem dX3_readAnyByte_1 : decode cX3_readAnyByte 1 = .ok (.dup, 1) := by decide +kernel
theorem dX3_readAnyByte_2 : decode cX3_readAnyByte 2 = .ok (.getfield 19, 3) := by decide +kernel
theorem dX3_readAnyByte_5 : decode cX3_readAnyByte 5 = .ok (.iconst 1, 1) := by decide +kernel
theorem dX3_readAnyByte_6 : decode cX3_readAnyByte 6 = .ok (.iadd, 1) := by decide +kernel
theorem dX3_readAnyByte_7 : decode cX3_readAnyByte 7 = .ok (.putfield 19, 3) := by decide +kernel
theorem dX3_readAnyByte_10 : decode cX3_readAnyByte 10 = .ok (.aload_n 0, 1) := by decide +kernel
theorem dX3_readAnyByte_11 : decode cX3_readAnyByte 11 = .ok (.aload_n 0, 1) := by decide +kernel
theorem dX3_readAnyByte_12 : decode cX3_readAnyByte 12 = .ok (.getfield 19, 3) := by decide +kernel
theorem dX3_readAnyByte_15 : decode cX3_readAnyByte 15 = .ok (.invokevirtual 61, 3) := by decide +kernel
theorem dX3_readAnyByte_18 : decode cX3_readAnyByte 18 = .ok (.bipush 63, 2) := by decide +kernel
theorem dX3_readAnyByte_20 : decode cX3_readAnyByte 20 = .ok (.if_icmp .eq 5, 3) := by decide +kernel
theorem dX3_readAnyByte_23 : decode cX3_readAnyByte 23 = .ok (.iconst (-1), 1) := by decide +kernel
theorem dX3_readAnyByte_24 : decode cX3_readAnyByte 24 = .ok (.ireturn, 1) := by decide +kernel
theorem dX3_readAnyByte_25 : decode cX3_readAnyByte 25 = .ok (.aload_n 0, 1) := by decide +kernel
theorem dX3_readAnyByte_26 : decode cX3_readAnyByte 26 = .ok (.dup, 1) := by decide +kernel
theorem dX3_readAnyByte_27 : decode cX3_readAnyByte 27 = .ok (.getfield 19, 3) := by decide +kernel
theorem dX3_readAnyByte_30 : decode cX3_readAnyByte 30 = .ok (.iconst 1, 1) := by decide +kernel
theorem dX3_readAnyByte_31 : decode cX3_readAnyByte 31 = .ok (.iadd, 1) := by decide +kernel
theorem dX3_readAnyByte_32 : decode cX3_readAnyByte 32 = .ok (.putfield 19, 3) := by decide +kernel
theorem dX3_readAnyByte_35 : decode cX3_readAnyByte 35 = .ok (.sipush 256, 3) := by decide +kernel
theorem dX3_readAnyByte_38 : decode cX3_readAnyByte 38 = .ok (.ireturn, 1) := by decide +kernel
theorem dX3_readByte_0 : decode cX3_readByte 0 = .ok (.aload_n 0, 1) := by decide +kernel
theorem dX3_readByte_1 : decode cX3_readByte 1 = .ok (.aload_n 0, 1) := by decide +kernel
theorem dX3_readByte_2 : decode cX3_readByte 2 = .ok (.getfield 19, 3) := by decide +kernel
theorem dX3_readByte_5 : decode cX3_readByte 5 = .ok (.invokevirtual 61, 3) := by decide +kernel
theorem dX3_readByte_8 : decode cX3_readByte 8 = .ok (.invokestatic 76, 3) := by decide +kernel
theorem dX3_readByte_11 : decode cX3_readByte 11 = .ok (.istore_n 1, 1) := by decide +kernel
theorem dX3_readByte_12 : decode cX3_readByte 12 = .ok (.iload_n 1, 1) := by decide +kernel
theorem dX3_readByte_13 : decode cX3_readByte 13 = .ok (.iconst (-1), 1) := by decide +kernel
theorem dX3_readByte_14 : decode cX3_readByte 14 = .ok (.if_icmp .ne 5, 3) := by decide +kernel
theorem dX3_readByte_17 : decode cX3_readByte 17 = .ok (.iconst (-1), 1) := by decide +kernel
theorem dX3_readByte_18 : decode cX3_readByte 18 = .ok (.ireturn, 1) := by decide +kernel
theorem dX3_readByte_19 : decode cX3_readByte 19 = .ok (.aload_n 0, 1) := by decide +kernel
theorem dX3_readByte_20 : decode cX3_readByte 20 = .ok (.dup, 1) := by decide +kernel
theorem dX3_readByte_21 : decode cX3_readByte 21 = .ok (.getfield 19, 3) := by decide +kernel
theorem dX3_readByte_24 : decode cX3_readByte 24 = .ok (.iconst 1, 1) := by decide +kernel
theorem dX3_readByte_25 : decode cX3_readByte 25 = .ok (.iadd, 1) := by decide +kernel
theorem dX3_readByte_26 : decode cX3_readByte 26 = .ok (.putfield 19, 3) := by decide +kernel
theorem dX3_readByte_29 : decode cX3_readByte 29 = .ok (.aload_n 0, 1) := by decide +kernel
theorem dX3_readByte_30 : decode cX3_readByte 30 = .ok (.aload_n 0, 1) := by decide +kernel
theorem dX3_readByte_31 : decode cX3_readByte 31 = .ok (.getfield 19, 3) := by decide +kernel
theorem dX3_readByte_34 : decode cX3_readByte 34 = .ok (.invokevirtual 61, 3) := by decide +kernel
theorem dX3_readByte_37 : decode cX3_readByte 37 = .ok (.invokestatic 76, 3) := by decide +kernel
theorem dX3_readByte_40 : decode cX3_readByte 40 = .ok (.istore_n 2, 1) := by decide +kernel
theorem dX3_readByte_41 : decode cX3_readByte 41 = .ok (.iload_n 2, 1) := by decide +kernel
theorem dX3_readByte_42 : decode cX3_readByte 42 = .ok (.iconst (-1), 1) := by decide +kernel
theorem dX3_readByte_43 : decode cX3_readByte 43 = .ok (.if_icmp .ne 5, 3) := by decide +kernel
theorem dX3_readByte_46 : decode cX3_readByte 46 = .ok (.iconst (-1), 1) := by decide +kernel
theorem dX3_readByte_47 : decode cX3_readByte 47 = .ok (.ireturn, 1) := by decide +kernel
theorem dX3_readByte_48 : decode cX3_readByte 48 = .ok (.aload_n 0, 1) := by decide +kernel
theorem dX3_readByte_49 : decode cX3_readByte 49 = .ok (.dup, 1) := by decide +kernel
theorem dX3_readByte_50 : decode cX3_readByte 50 = .ok (.getfield 19, 3) := by decide +kernel
theorem dX3_readByte_53 : decode cX3_readByte 53 = .ok (.iconst 1, 1) := by decide +kernel
theorem dX3_readByte_54 : decode cX3_readByte 54 = .ok (.iadd, 1) := by decide +kernel
theorem dX3_readByte_55 : decode cX3_readByte 55 = .ok (.putfield 19, 3) := by decide +kernel
theorem dX3_readByte_58 : decode cX3_readByte 58 = .ok (.iload_n 1, 1) := by decide +kernel
theorem dX3_readByte_59 : decode cX3_readByte 59 = .ok (.bipush 16, 2) := by decide +kernel
theorem dX3_readByte_61 : decode cX3_readByte 61 = .ok (.imul, 1) := by decide +kernel
theorem dX3_readByte_62 : decode cX3_readByte 62 = .ok (.iload_n 2, 1) := by decide +kernel
theorem dX3_readByte_63 : decode cX3_readByte 63 = .ok (.iadd, 1) := by decide +kernel
theorem dX3_readByte_64 : decode cX3_readByte 64 = .ok (.ireturn, 1) := by decide +kernel
theorem dX3_signAt_0 : decode cX3_signAt 0 = .ok (.iload_n 1, 1) := by decide +kernel
theorem dX3_signAt_1 : decode cX3_signAt 1 = .ok (.ifCond .lt 20, 3) := by decide +kernel
theorem dX3_signAt_4 : decode cX3_signAt 4 = .ok (.iload_n 1, 1) := by decide +kernel
theorem dX3_signAt_5 : decode cX3_signAt 5 = .ok (.aload_n 0, 1) := by decide +kernel
theorem dX3_signAt_6 : decode cX3_signAt 6 = .ok (.getfield 15, 3) := by decide +kernel
theorem dX3_signAt_9 : decode cX3_signAt 9 = .ok (.if_icmp .ge 12, 3) := by decide +kernel
theorem dX3_signAt_12 : decode cX3_signAt 12 = .ok (.aload_n 0, 1) := by decide +kernel
theorem dX3_signAt_13 : decode cX3_signAt 13 = .ok (.getfield 9, 3) := by decide +kernel
theorem dX3_signAt_16 : decode cX3_signAt 16 = .ok (.iload_n 1, 1) := by decide +kernel
theorem dX3_signAt_17 : decode cX3_signAt 17 = .ok (.iaload, 1) := by decide +kernel
theorem dX3_signAt_18 : decode cX3_signAt 18 = .ok (.goto 4, 3) := by decide +kernel
theorem dX3_signAt_21 : decode cX3_signAt 21 = .ok (.iconst (-1), 1) := by decide +kernel
theorem dX3_signAt_22 : decode cX3_signAt 22 = .ok (.ireturn, 1) := by decide +kernel
theorem dX3_isDigit_0 : decode cX3_isDigit 0 = .ok (.iload_n 0, 1) := by decide +kernel
theorem dX3_isDigit_1 : decode cX3_isDigit 1 = .ok (.bipush 48, 2) := by decide +kernel
theorem dX3_isDigit_3 : decode cX3_isDigit 3 = .ok (.if_icmp .lt 13, 3) := by decide +kernel
theorem dX3_isDigit_6 : decode cX3_isDigit 6 = .ok (.iload_n 0, 1) := by decide +kernel
theorem dX3_isDigit_7 : decode cX3_isDigit 7 = .ok (.bipush 57, 2) := by decide +kernel
theorem dX3_isDigit_9 : decode cX3_isDigit 9 = .ok (.if_icmp .gt 7, 3) := by decide +kernel
theorem dX3_isDigit_12 : decode cX3_isDigit 12 = .ok (.iconst 1, 1) := by decide +kernel
theorem dX3_isDigit_13 : decode cX3_isDigit 13 = .ok (.goto 4, 3) := by decide +kernel
theorem dX3_isDigit_16 : decode cX3_isDigit 16 = .ok (.iconst 0, 1) := by decide +kernel
theorem dX3_isDigit_17 : decode cX3_isDigit 17 = .ok (.ireturn, 1) := by decide +kernel
theorem dX3_hexValue_0 : decode cX3_hexValue 0 = .ok (.iload_n 0, 1) := by decide +kernel
theorem dX3_hexValue_1 : decode cX3_hexValue 1 = .ok (.invokestatic 65, 3) := by decide +kernel
theorem dX3_hexValue_4 : decode cX3_hexValue 4 = .ok (.ifCond .eq 8, 3) := by decide +kernel
theorem dX3_hexValue_7 : decode cX3_hexValue 7 = .ok (.iload_n 0, 1) := by decide +kernel
theorem dX3_hexValue_8 : decode cX3_hexValue 8 = .ok (.bipush 48, 2) := by decide +kernel
theorem dX3_hexValue_10 : decode cX3_hexValue 10 = .ok (.isub, 1) := by decide +kernel
theorem dX3_hexValue_11 : decode cX3_hexValue 11 = .ok (.ireturn, 1) := by decide +kernel
theorem dX3_hexValue_12 : decode cX3_hexValue 12 = .ok (.iload_n 0, 1) := by decide +kernel
theorem dX3_hexValue_13 : decode cX3_hexValue 13 = .ok (.bipush 97, 2) := by decide +kernel
theorem dX3_hexValue_15 : decode cX3_hexValue 15 = .ok (.if_icmp .lt 19, 3) := by decide +kernel
theorem dX3_hexValue_18 : decode cX3_hexValue 18 = .ok (.iload_n 0, 1) := by decide +kernel
theorem dX3_hexValue_19 : decode cX3_hexValue 19 = .ok (.bipush 102, 2) := by decide +kernel
theorem dX3_hexValue_21 : decode cX3_hexValue 21 = .ok (.if_icmp .gt 13, 3) := by decide +kernel
theorem dX3_hexValue_24 : decode cX3_hexValue 24 = .ok (.iload_n 0, 1) := by decide +kernel
theorem dX3_hexValue_25 : decode cX3_hexValue 25 = .ok (.bipush 97, 2) := by decide +kernel
theorem dX3_hexValue_27 : decode cX3_hexValue 27 = .ok (.isub, 1) := by decide +kernel
theorem dX3_hexValue_28 : decode cX3_hexValue 28 = .ok (.bipush 10, 2) := by decide +kernel
theorem dX3_hexValue_30 : decode cX3_hexValue 30 = .ok (.iadd, 1) := by decide +kernel
theorem dX3_hexValue_31 : decode cX3_hexValue 31 = .ok (.goto 4, 3) := by decide +kernel
theorem dX3_hexValue_34 : decode cX3_hexValue 34 = .ok (.iconst (-1), 1) := by decide +kernel
theorem dX3_hexValue_35 : decode cX3_hexValue 35 = .ok (.ireturn, 1) := by decide +kernel
theorem dX4_init_0 : decode cX4_init 0 = .ok (.aload_n 0, 1) := by decide +kernel
theorem dX4_init_1 : decode cX4_init 1 = .ok (.invokespecial 3, 3) := by decide +kernel
theorem dX4_init_4 : decode cX4_init 4 = .ok (.aload_n 0, 1) := by decide +kernel
theorem dX4_init_5 : decode cX4_init 5 = .ok (.iconst 0, 1) := by decide +kernel
theorem dX4_init_6 : decode cX4_init 6 = .ok (.putfield 9, 3) := by decide +kernel
theorem dX4_init_9 : decode cX4_init 9 = .ok (.aload_n 0, 1) := by decide +kernel
theorem dX4_init_10 : decode cX4_init 10 = .ok (.bipush 60, 2) := by decide +kernel
theorem dX4_init_12 : decode cX4_init 12 = .ok (.newarray .int, 2) := by decide +kernel
theorem dX4_init_14 : decode cX4_init 14 = .ok (.putfield 15, 3) := by decide +kernel
theorem dX4_init_17 : decode cX4_init 17 = .ok (.aload_n 0, 1) := by decide +kernel
theorem dX4_init_18 : decode cX4_init 18 = .ok (.bipush 60, 2) := by decide +kernel
theorem dX4_init_20 : decode cX4_init 20 = .ok (.newarray .int, 2) := by decide +kernel
theorem dX4_init_22 : decode cX4_init 22 = .ok (.putfield 19, 3) := by decide +kernel
theorem dX4_init_25 : decode cX4_init 25 = .ok (.aload_n 0, 1) := by decide +kernel
theorem dX4_init_26 : decode cX4_init 26 = .ok (.bipush 60, 2) := by decide +kernel
theorem dX4_init_28 : decode cX4_init 28 = .ok (.newarray .boolean, 2) := by decide +kernel
theorem dX4_init_30 : decode cX4_init 30 = .ok (.putfield 22, 3) := by decide +kernel
theorem dX4_init_33 : decode cX4_init 33 = .ok (.aload_n 0, 1) := by decide +kernel
theorem dX4_init_34 : decode cX4_init 34 = .ok (.bipush 60, 2) := by decide +kernel
theorem dX4_init_36 : decode cX4_init 36 = .ok (.newarray .int, 2) := by decide +kernel
theorem dX4_init_38 : decode cX4_init 38 = .ok (.putfield 26, 3) := by decide +kernel
theorem dX4_init_41 : decode cX4_init 41 = .ok (.aload_n 0, 1) := by decide +kernel
theorem dX4_init_42 : decode cX4_init 42 = .ok (.bipush 60, 2) := by decide +kernel
theorem dX4_init_44 : decode cX4_init 44 = .ok (.newarray .int, 2) := by decide +kernel
theorem dX4_init_46 : decode cX4_init 46 = .ok (.putfield 29, 3) := by decide +kernel
theorem dX4_init_49 : decode cX4_init 49 = .ok (.aload_n 0, 1) := by decide +kernel
theorem dX4_init_50 : decode cX4_init 50 = .ok (.sipush 720, 3) := by decide +kernel
theorem dX4_init_53 : decode cX4_init 53 = .ok (.newarray .int, 2) := by decide +kernel
theorem dX4_init_55 : decode cX4_init 55 = .ok (.putfield 32, 3) := by decide +kernel
theorem dX4_init_58 : decode cX4_init 58 = .ok (.return_, 1) := by decide +kernel
theorem dX4_has_0 : decode cX4_has 0 = .ok (.iload_n 1, 1) := by decide +kernel
theorem dX4_has_1 : decode cX4_has 1 = .ok (.ifCond .lt 15, 3) := by decide +kernel
theorem dX4_has_4 : decode cX4_has 4 = .ok (.iload_n 1, 1) := by decide +kernel
theorem dX4_has_5 : decode cX4_has 5 = .ok (.aload_n 0, 1) := by decide +kernel
theorem dX4_has_6 : decode cX4_has 6 = .ok (.getfield 9, 3) := by decide +kernel
theorem dX4_has_9 : decode cX4_has 9 = .ok (.if_icmp .ge 7, 3) := by decide +kernel
theorem dX4_has_12 : decode cX4_has 12 = .ok (.iconst 1, 1) := by decide +kernel
theorem dX4_has_13 : decode cX4_has 13 = .ok (.goto 4, 3) := by decide +kernel
theorem dX4_has_16 : decode cX4_has 16 = .ok (.iconst 0, 1) := by decide +kernel
theorem dX4_has_17 : decode cX4_has 17 = .ok (.ireturn, 1) := by decide +kernel
theorem dX4_add_0 : decode cX4_add 0 = .ok (.aload_n 0, 1) := by decide +kernel
theorem dX4_add_1 : decode cX4_add 1 = .ok (.getfield 9, 3) := by decide +kernel
theorem dX4_add_4 : decode cX4_add 4 = .ok (.bipush 60, 2) := by decide +kernel
theorem dX4_add_6 : decode cX4_add 6 = .ok (.if_icmp .lt 6, 3) := by decide +kernel
theorem dX4_add_9 : decode cX4_add 9 = .ok (.bipush (-4), 2) := by decide +kernel
theorem dX4_add_11 : decode cX4_add 11 = .ok (.ireturn, 1) := by decide +kernel
theorem dX4_add_12 : decode cX4_add 12 = .ok (.aload_n 0, 1) := by decide +kernel
theorem dX4_add_13 : decode cX4_add 13 = .ok (.getfield 15, 3) := by decide +kernel
theorem dX4_add_16 : decode cX4_add 16 = .ok (.aload_n 0, 1) := by decide +kernel
theorem dX4_add_17 : decode cX4_add 17 = .ok (.getfield 9, 3) := by decide +kernel
theorem dX4_add_20 : decode cX4_add 20 = .ok (.aload_n 1, 1) := by decide +kernel
theorem dX4_add_21 : decode cX4_add 21 = .ok (.getfield 35, 3) := by decide +kernel
theorem dX4_add_24 : decode cX4_add 24 = .ok (.iastore, 1) := by decide +kernel
theorem dX4_add_25 : decode cX4_add 25 = .ok (.aload_n 0, 1) := by decide +kernel
theorem dX4_add_26 : decode cX4_add 26 = .ok (.getfield 19, 3) := by decide +kernel
theorem dX4_add_29 : decode cX4_add 29 = .ok (.aload_n 0, 1) := by decide +kernel
theorem dX4_add_30 : decode cX4_add 30 = .ok (.getfield 9, 3) := by decide +kernel
theorem dX4_add_33 : decode cX4_add 33 = .ok (.aload_n 1, 1) := by decide +kernel
theorem dX4_add_34 : decode cX4_add 34 = .ok (.getfield 40, 3) := by decide +kernel
theorem dX4_add_37 : decode cX4_add 37 = .ok (.iastore, 1) := by decide +kernel
theorem dX4_add_38 : decode cX4_add 38 = .ok (.aload_n 0, 1) := by decide +kernel
theorem dX4_add_39 : decode cX4_add 39 = .ok (.getfield 22, 3) := by decide +kernel
theorem dX4_add_42 : decode cX4_add 42 = .ok (.aload_n 0, 1) := by decide +kernel
theorem dX4_add_43 : decode cX4_add 43 = .ok (.getfield 9, 3) := by decide +kernel
theorem dX4_add_46 : decode cX4_add 46 = .ok (.aload_n 1, 1) := by decide +kernel
theorem dX4_add_47 : decode cX4_add 47 = .ok (.getfield 43, 3) := by decide +kernel
theorem dX4_add_50 : decode cX4_add 50 = .ok (.bastore, 1) := by decide +kernel
theorem dX4_add_51 : decode cX4_add 51 = .ok (.aload_n 0, 1) := by decide +kernel
theorem dX4_add_52 : decode cX4_add 52 = .ok (.getfield 26, 3) := by decide +kernel
theorem dX4_add_55 : decode cX4_add 55 = .ok (.aload_n 0, 1) := by decide +kernel
theorem dX4_add_56 : decode cX4_add 56 = .ok (.getfield 9, 3) := by decide +kernel
theorem dX4_add_59 : decode cX4_add 59 = .ok (.aload_n 1, 1) := by decide +kernel
theorem dX4_add_60 : decode cX4_add 60 = .ok (.getfield 46, 3) := by decide +kernel
theorem dX4_add_63 : decode cX4_add 63 = .ok (.iastore, 1) := by decide +kernel
theorem dX4_add_64 : decode cX4_add 64 = .ok (.aload_n 0, 1) := by decide +kernel
theorem dX4_add_65 : decode cX4_add 65 = .ok (.getfield 29, 3) := by decide +kernel
theorem dX4_add_68 : decode cX4_add 68 = .ok (.aload_n 0, 1) := by decide +kernel
theorem dX4_add_69 : decode cX4_add 69 = .ok (.getfield 9, 3) := by decide +kernel
theorem dX4_add_72 : decode cX4_add 72 = .ok (.aload_n 1, 1) := by decide +kernel
theorem dX4_add_73 : decode cX4_add 73 = .ok (.getfield 49, 3) := by decide +kernel
theorem dX4_add_76 : decode cX4_add 76 = .ok (.iastore, 1) := by decide +kernel
theorem dX4_add_77 : decode cX4_add 77 = .ok (.iconst 0, 1) := by decide +kernel
theorem dX4_add_78 : decode cX4_add 78 = .ok (.istore_n 2, 1) := by decide +kernel
theorem dX4_add_79 : decode cX4_add 79 = .ok (.iload_n 2, 1) := by decide +kernel
theorem dX4_add_80 : decode cX4_add 80 = .ok (.aload_n 1, 1) := by decide +kernel
theorem dX4_add_81 : decode cX4_add 81 = .ok (.getfield 49, 3) := by decide +kernel
theorem dX4_add_84 : decode cX4_add 84 = .ok (.if_icmp .ge 29, 3) := by decide +kernel
theorem dX4_add_87 : decode cX4_add 87 = .ok (.aload_n 0, 1) := by decide +kernel
theorem dX4_add_88 : decode cX4_add 88 = .ok (.getfield 32, 3) := by decide +kernel
theorem dX4_add_91 : decode cX4_add 91 = .ok (.aload_n 0, 1) := by decide +kernel
theorem dX4_add_92 : decode cX4_add 92 = .ok (.getfield 9, 3) := by decide +kernel
theorem dX4_add_95 : decode cX4_add 95 = .ok (.bipush 12, 2) := by decide +kernel
theorem dX4_add_97 : decode cX4_add 97 = .ok (.imul, 1) := by decide +kernel
theorem dX4_add_98 : decode cX4_add 98 = .ok (.iload_n 2, 1) := by decide +kernel
theorem dX4_add_99 : decode cX4_add 99 = .ok (.iadd, 1) := by decide +kernel
theorem dX4_add_100 : decode cX4_add 100 = .ok (.aload_n 1, 1) := by decide +kernel
theorem dX4_add_101 : decode cX4_add 101 = .ok (.getfield 52, 3) := by decide +kernel
theorem dX4_add_104 : decode cX4_add 104 = .ok (.iload_n 2, 1) := by decide +kernel
theorem dX4_add_105 : decode cX4_add 105 = .ok (.iaload, 1) := by decide +kernel
theorem dX4_add_106 : decode cX4_add 106 = .ok (.iastore, 1) := by decide +kernel
theorem dX4_add_107 : decode cX4_add 107 = .ok (.iinc 2 1, 3) := by decide +kernel
theorem dX4_add_110 : decode cX4_add 110 = .ok (.goto (-31), 3) := by decide +kernel
theorem dX4_add_113 : decode cX4_add 113 = .ok (.aload_n 0, 1) := by decide +kernel
theorem dX4_add_114 : decode cX4_add 114 = .ok (.dup, 1) := by decide +kernel
theorem dX4_add_115 : decode cX4_add 115 = .ok (.getfield 9, 3) := by decide +kernel
theorem dX4_add_118 : decode cX4_add 118 = .ok (.iconst 1, 1) := by decide +kernel
theorem dX4_add_119 : decode cX4_add 119 = .ok (.iadd, 1) := by decide +kernel
theorem dX4_add_120 : decode cX4_add 120 = .ok (.putfield 9, 3) := by decide +kernel
theorem dX4_add_123 : decode cX4_add 123 = .ok (.aload_n 0, 1) := by decide +kernel
theorem dX4_add_124 : decode cX4_add 124 = .ok (.getfield 9, 3) := by decide +kernel
theorem dX4_add_127 : decode cX4_add 127 = .ok (.iconst 1, 1) := by decide +kernel
theorem dX4_add_128 : decode cX4_add 128 = .ok (.isub, 1) := by decide +kernel
theorem dX4_add_129 : decode cX4_add 129 = .ok (.ireturn, 1) := by decide +kernel
theorem dX4_startIn_0 : decode cX4_startIn 0 = .ok (.aload_n 0, 1) := by decide +kernel
theorem dX4_startIn_1 : decode cX4_startIn 1 = .ok (.getfield 22, 3) := by decide +kernel
theorem dX4_startIn_4 : decode cX4_startIn 4 = .ok (.iload_n 1, 1) := by decide +kernel
theorem dX4_startIn_5 : decode cX4_startIn 5 = .ok (.baload, 1) := by decide +kernel
theorem dX4_startIn_6 : decode cX4_startIn 6 = .ok (.ifCond .eq 14, 3) := by decide +kernel
theorem dX4_startIn_9 : decode cX4_startIn 9 = .ok (.iload_n 2, 1) := by decide +kernel
theorem dX4_startIn_10 : decode cX4_startIn 10 = .ok (.aload_n 0, 1) := by decide +kernel
theorem dX4_startIn_11 : decode cX4_startIn 11 = .ok (.getfield 26, 3) := by decide +kernel
theorem dX4_startIn_14 : decode cX4_startIn 14 = .ok (.iload_n 1, 1) := by decide +kernel
theorem dX4_startIn_15 : decode cX4_startIn 15 = .ok (.iaload, 1) := by decide +kernel
theorem dX4_startIn_16 : decode cX4_startIn 16 = .ok (.isub, 1) := by decide +kernel
theorem dX4_startIn_17 : decode cX4_startIn 17 = .ok (.goto 9, 3) := by decide +kernel
theorem dX4_startIn_20 : decode cX4_startIn 20 = .ok (.aload_n 0, 1) := by decide +kernel
theorem dX4_startIn_21 : decode cX4_startIn 21 = .ok (.getfield 26, 3) := by decide +kernel
theorem dX4_startIn_24 : decode cX4_startIn 24 = .ok (.iload_n 1, 1) := by decide +kernel
theorem dX4_startIn_25 : decode cX4_startIn 25 = .ok (.iaload, 1) := by decide +kernel
theorem dX4_startIn_26 : decode cX4_startIn 26 = .ok (.ireturn, 1) := by decide +kernel
theorem dX4_placeAt_0 : decode cX4_placeAt 0 = .ok (.aload_n 0, 1) := by decide +kernel
theorem dX4_placeAt_1 : decode cX4_placeAt 1 = .ok (.getfield 32, 3) := by decide +kernel
theorem dX4_placeAt_4 : decode cX4_placeAt 4 = .ok (.iload_n 1, 1) := by decide +kernel
theorem dX4_placeAt_5 : decode cX4_placeAt 5 = .ok (.bipush 12, 2) := by decide +kernel
theorem dX4_placeAt_7 : decode cX4_placeAt 7 = .ok (.imul, 1) := by decide +kernel
theorem dX4_placeAt_8 : decode cX4_placeAt 8 = .ok (.iload_n 2, 1) := by decide +kernel
theorem dX4_placeAt_9 : decode cX4_placeAt 9 = .ok (.iadd, 1) := by decide +kernel
theorem dX4_placeAt_10 : decode cX4_placeAt 10 = .ok (.iaload, 1) := by decide +kernel
theorem dX4_placeAt_11 : decode cX4_placeAt 11 = .ok (.ireturn, 1) := by decide +kernel
theorem dJx00060_init_a7421_0 : decode cJx00060_init_a7421 0 = .ok (.aload_n 0, 1) := by decide +kernel
theorem dJx00060_init_a7421_1 : decode cJx00060_init_a7421 1 = .ok (.aload_n 1, 1) := by decide +kernel
theorem dJx00060_init_a7421_2 : decode cJx00060_init_a7421 2 = .ok (.invokespecial 7, 3) := by decide +kernel
theorem dJx00060_init_a7421_5 : decode cJx00060_init_a7421 5 = .ok (.return_, 1) := by decide +kernel
theorem dJ6_bitCount_0f7a4_0 : decode cJ6_bitCount_0f7a4 0 = .ok (.iload_n 0, 1) := by decide +kernel
theorem dJ6_bitCount_0f7a4_1 : decode cJ6_bitCount_0f7a4 1 = .ok (.iload_n 0, 1) := by decide +kernel
theorem dJ6_bitCount_0f7a4_2 : decode cJ6_bitCount_0f7a4 2 = .ok (.iconst 1, 1) := by decide +kernel
theorem dJ6_bitCount_0f7a4_3 : decode cJ6_bitCount_0f7a4 3 = .ok (.iushr, 1) := by decide +kernel
theorem dJ6_bitCount_0f7a4_4 : decode cJ6_bitCount_0f7a4 4 = .ok (.ldc_w 265, 3) := by decide +kernel
theorem dJ6_bitCount_0f7a4_7 : decode cJ6_bitCount_0f7a4 7 = .ok (.iand, 1) := by decide +kernel
theorem dJ6_bitCount_0f7a4_8 : decode cJ6_bitCount_0f7a4 8 = .ok (.isub, 1) := by decide +kernel
theorem dJ6_bitCount_0f7a4_9 : decode cJ6_bitCount_0f7a4 9 = .ok (.istore_n 0, 1) := by decide +kernel
theorem dJ6_bitCount_0f7a4_10 : decode cJ6_bitCount_0f7a4 10 = .ok (.iload_n 0, 1) := by decide +kernel
theorem dJ6_bitCount_0f7a4_11 : decode cJ6_bitCount_0f7a4 11 = .ok (.ldc_w 266, 3) := by decide +kernel
theorem dJ6_bitCount_0f7a4_14 : decode cJ6_bitCount_0f7a4 14 = .ok (.iand, 1) := by decide +kernel
theorem dJ6_bitCount_0f7a4_15 : decode cJ6_bitCount_0f7a4 15 = .ok (.iload_n 0, 1) := by decide +kernel
theorem dJ6_bitCount_0f7a4_16 : decode cJ6_bitCount_0f7a4 16 = .ok (.iconst 2, 1) := by decide +kernel
theorem dJ6_bitCount_0f7a4_17 : decode cJ6_bitCount_0f7a4 17 = .ok (.iushr, 1) := by decide +kernel
theorem dJ6_bitCount_0f7a4_18 : decode cJ6_bitCount_0f7a4 18 = .ok (.ldc_w 266, 3) := by decide +kernel
theorem dJ6_bitCount_0f7a4_21 : decode cJ6_bitCount_0f7a4 21 = .ok (.iand, 1) := by decide +kernel
theorem dJ6_bitCount_0f7a4_22 : decode cJ6_bitCount_0f7a4 22 = .ok (.iadd, 1) := by decide +kernel
theorem dJ6_bitCount_0f7a4_23 : decode cJ6_bitCount_0f7a4 23 = .ok (.istore_n 0, 1) := by decide +kernel
theorem dJ6_bitCount_0f7a4_24 : decode cJ6_bitCount_0f7a4 24 = .ok (.iload_n 0, 1) := by decide +kernel
theorem dJ6_bitCount_0f7a4_25 : decode cJ6_bitCount_0f7a4 25 = .ok (.iload_n 0, 1) := by decide +kernel
theorem dJ6_bitCount_0f7a4_26 : decode cJ6_bitCount_0f7a4 26 = .ok (.iconst 4, 1) := by decide +kernel
theorem dJ6_bitCount_0f7a4_27 : decode cJ6_bitCount_0f7a4 27 = .ok (.iushr, 1) := by decide +kernel
theorem dJ6_bitCount_0f7a4_28 : decode cJ6_bitCount_0f7a4 28 = .ok (.iadd, 1) := by decide +kernel
theorem dJ6_bitCount_0f7a4_29 : decode cJ6_bitCount_0f7a4 29 = .ok (.ldc_w 267, 3) := by decide +kernel
theorem dJ6_bitCount_0f7a4_32 : decode cJ6_bitCount_0f7a4 32 = .ok (.iand, 1) := by decide +kernel
theorem dJ6_bitCount_0f7a4_33 : decode cJ6_bitCount_0f7a4 33 = .ok (.istore_n 0, 1) := by decide +kernel
theorem dJ6_bitCount_0f7a4_34 : decode cJ6_bitCount_0f7a4 34 = .ok (.iload_n 0, 1) := by decide +kernel
theorem dJ6_bitCount_0f7a4_35 : decode cJ6_bitCount_0f7a4 35 = .ok (.iload_n 0, 1) := by decide +kernel
theorem dJ6_bitCount_0f7a4_36 : decode cJ6_bitCount_0f7a4 36 = .ok (.bipush 8, 2) := by decide +kernel
theorem dJ6_bitCount_0f7a4_38 : decode cJ6_bitCount_0f7a4 38 = .ok (.iushr, 1) := by decide +kernel
theorem dJ6_bitCount_0f7a4_39 : decode cJ6_bitCount_0f7a4 39 = .ok (.iadd, 1) := by decide +kernel
theorem dJ6_bitCount_0f7a4_40 : decode cJ6_bitCount_0f7a4 40 = .ok (.istore_n 0, 1) := by decide +kernel
theorem dJ6_bitCount_0f7a4_41 : decode cJ6_bitCount_0f7a4 41 = .ok (.iload_n 0, 1) := by decide +kernel
theorem dJ6_bitCount_0f7a4_42 : decode cJ6_bitCount_0f7a4 42 = .ok (.iload_n 0, 1) := by decide +kernel
theorem dJ6_bitCount_0f7a4_43 : decode cJ6_bitCount_0f7a4 43 = .ok (.bipush 16, 2) := by decide +kernel
theorem dJ6_bitCount_0f7a4_45 : decode cJ6_bitCount_0f7a4 45 = .ok (.iushr, 1) := by decide +kernel
theorem dJ6_bitCount_0f7a4_46 : decode cJ6_bitCount_0f7a4 46 = .ok (.iadd, 1) := by decide +kernel
theorem dJ6_bitCount_0f7a4_47 : decode cJ6_bitCount_0f7a4 47 = .ok (.istore_n 0, 1) := by decide +kernel
theorem dJ6_bitCount_0f7a4_48 : decode cJ6_bitCount_0f7a4 48 = .ok (.iload_n 0, 1) := by decide +kernel
theorem dJ6_bitCount_0f7a4_49 : decode cJ6_bitCount_0f7a4 49 = .ok (.bipush 63, 2) := by decide +kernel
theorem dJ6_bitCount_0f7a4_51 : decode cJ6_bitCount_0f7a4 51 = .ok (.iand, 1) := by decide +kernel
theorem dJ6_bitCount_0f7a4_52 : decode cJ6_bitCount_0f7a4 52 = .ok (.ireturn, 1) := by decide +kernel
theorem dJ7_fill_53178_0 : decode cJ7_fill_53178 0 = .ok (.iconst 0, 1) := by decide +kernel
theorem dJ7_fill_53178_1 : decode cJ7_fill_53178 1 = .ok (.istore_n 2, 1) := by decide +kernel
theorem dJ7_fill_53178_2 : decode cJ7_fill_53178 2 = .ok (.aload_n 0, 1) := by decide +kernel
theorem dJ7_fill_53178_3 : decode cJ7_fill_53178 3 = .ok (.arraylength, 1) := by decide +kernel
theorem dJ7_fill_53178_4 : decode cJ7_fill_53178 4 = .ok (.istore_n 3, 1) := by decide +kernel
theorem dJ7_fill_53178_5 : decode cJ7_fill_53178 5 = .ok (.iload_n 2, 1) := by decide +kernel
theorem dJ7_fill_53178_6 : decode cJ7_fill_53178 6 = .ok (.iload_n 3, 1) := by decide +kernel
theorem dJ7_fill_53178_7 : decode cJ7_fill_53178 7 = .ok (.if_icmp .ge 13, 3) := by decide +kernel
theorem dJ7_fill_53178_10 : decode cJ7_fill_53178 10 = .ok (.aload_n 0, 1) := by decide +kernel
theorem dJ7_fill_53178_11 : decode cJ7_fill_53178 11 = .ok (.iload_n 2, 1) := by decide +kernel
theorem dJ7_fill_53178_12 : decode cJ7_fill_53178 12 = .ok (.iload_n 1, 1) := by decide +kernel
theorem dJ7_fill_53178_13 : decode cJ7_fill_53178 13 = .ok (.iastore, 1) := by decide +kernel
theorem dJ7_fill_53178_14 : decode cJ7_fill_53178 14 = .ok (.iinc 2 1, 3) := by decide +kernel
theorem dJ7_fill_53178_17 : decode cJ7_fill_53178 17 = .ok (.goto (-12), 3) := by decide +kernel
theorem dJ7_fill_53178_20 : decode cJ7_fill_53178 20 = .ok (.return_, 1) := by decide +kernel
