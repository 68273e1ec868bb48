theorem dX5_init_0 : decode cX5_init 0 = .ok (.aload_n 0, 1) := by decide +kernel
theorem dX5_init_1 : decode cX5_init 1 = .ok (.invokespecial 1, 3) := by decide +kernel
theorem dX5_init_4 : decode cX5_init 4 = .ok (.aload_n 0, 1) := by decide +kernel
theorem dX5_init_5 : decode cX5_init 5 = .ok (.new 7, 3) := by decide +kernel
theorem dX5_init_8 : decode cX5_init 8 = .ok (.dup, 1) := by decide +kernel
theorem dX5_init_9 : decode cX5_init 9 = .ok (.invokespecial 9, 3) := by decide +kernel
theorem dX5_init_12 : decode cX5_init 12 = .ok (.putfield 10, 3) := by decide +kernel
theorem dX5_init_15 : decode cX5_init 15 = .ok (.aload_n 0, 1) := by decide +kernel
theorem dX5_init_16 : decode cX5_init 16 = .ok (.new 16, 3) := by decide +kernel
theorem dX5_init_19 : decode cX5_init 19 = .ok (.dup, 1) := by decide +kernel
theorem dX5_init_20 : decode cX5_init 20 = .ok (.invokespecial 18, 3) := by decide +kernel
theorem dX5_init_23 : decode cX5_init 23 = .ok (.putfield 19, 3) := by decide +kernel
theorem dX5_init_26 : decode cX5_init 26 = .ok (.aload_n 0, 1) := by decide +kernel
theorem dX5_init_27 : decode cX5_init 27 = .ok (.new 23, 3) := by decide +kernel
theorem dX5_init_30 : decode cX5_init 30 = .ok (.dup, 1) := by decide +kernel
theorem dX5_init_31 : decode cX5_init 31 = .ok (.invokespecial 25, 3) := by decide +kernel
theorem dX5_init_34 : decode cX5_init 34 = .ok (.putfield 26, 3) := by decide +kernel
theorem dX5_init_37 : decode cX5_init 37 = .ok (.aload_n 0, 1) := by decide +kernel
theorem dX5_init_38 : decode cX5_init 38 = .ok (.new 30, 3) := by decide +kernel
theorem dX5_init_41 : decode cX5_init 41 = .ok (.dup, 1) := by decide +kernel
theorem dX5_init_42 : decode cX5_init 42 = .ok (.invokespecial 32, 3) := by decide +kernel
theorem dX5_init_45 : decode cX5_init 45 = .ok (.putfield 33, 3) := by decide +kernel
theorem dX5_init_48 : decode cX5_init 48 = .ok (.aload_n 0, 1) := by decide +kernel
theorem dX5_init_49 : decode cX5_init 49 = .ok (.new 37, 3) := by decide +kernel
theorem dX5_init_52 : decode cX5_init 52 = .ok (.dup, 1) := by decide +kernel
theorem dX5_init_53 : decode cX5_init 53 = .ok (.invokespecial 39, 3) := by decide +kernel
theorem dX5_init_56 : decode cX5_init 56 = .ok (.putfield 40, 3) := by decide +kernel
theorem dX5_init_59 : decode cX5_init 59 = .ok (.aload_n 0, 1) := by decide +kernel
theorem dX5_init_60 : decode cX5_init 60 = .ok (.bipush 40, 2) := by decide +kernel
theorem dX5_init_62 : decode cX5_init 62 = .ok (.newarray .int, 2) := by decide +kernel
theorem dX5_init_64 : decode cX5_init 64 = .ok (.putfield 44, 3) := by decide +kernel
theorem dX5_init_67 : decode cX5_init 67 = .ok (.aload_n 0, 1) := by decide +kernel
theorem dX5_init_68 : decode cX5_init 68 = .ok (.getfield 44, 3) := by decide +kernel
theorem dX5_init_71 : decode cX5_init 71 = .ok (.iconst (-1), 1) := by decide +kernel
theorem dX5_init_72 : decode cX5_init 72 = .ok (.invokestatic 48, 3) := by decide +kernel
theorem dX5_init_75 : decode cX5_init 75 = .ok (.aload_n 0, 1) := by decide +kernel
theorem dX5_init_76 : decode cX5_init 76 = .ok (.iconst 0, 1) := by decide +kernel
theorem dX5_init_77 : decode cX5_init 77 = .ok (.putfield 54, 3) := by decide +kernel
theorem dX5_init_80 : decode cX5_init 80 = .ok (.return_, 1) := by decide +kernel
theorem dX5_sign_0 : decode cX5_sign 0 = .ok (.aload_n 0, 1) := by decide +kernel
theorem dX5_sign_1 : decode cX5_sign 1 = .ok (.getfield 10, 3) := by decide +kernel
theorem dX5_sign_4 : decode cX5_sign 4 = .ok (.iload_n 1, 1) := by decide +kernel
theorem dX5_sign_5 : decode cX5_sign 5 = .ok (.sipush 255, 3) := by decide +kernel
theorem dX5_sign_8 : decode cX5_sign 8 = .ok (.iand, 1) := by decide +kernel
theorem dX5_sign_9 : decode cX5_sign 9 = .ok (.invokevirtual 58, 3) := by decide +kernel
theorem dX5_sign_12 : decode cX5_sign 12 = .ok (.return_, 1) := by decide +kernel
theorem dX5_row_0 : decode cX5_row 0 = .ok (.aload_n 0, 1) := by decide +kernel
theorem dX5_row_1 : decode cX5_row 1 = .ok (.getfield 10, 3) := by decide +kernel
theorem dX5_row_4 : decode cX5_row 4 = .ok (.invokevirtual 62, 3) := by decide +kernel
theorem dX5_row_7 : decode cX5_row 7 = .ok (.istore_n 1, 1) := by decide +kernel
theorem dX5_row_8 : decode cX5_row 8 = .ok (.aload_n 0, 1) := by decide +kernel
theorem dX5_row_9 : decode cX5_row 9 = .ok (.getfield 10, 3) := by decide +kernel
theorem dX5_row_12 : decode cX5_row 12 = .ok (.invokevirtual 66, 3) := by decide +kernel
theorem dX5_row_15 : decode cX5_row 15 = .ok (.iload_n 1, 1) := by decide +kernel
theorem dX5_row_16 : decode cX5_row 16 = .ok (.ifCond .ne 14, 3) := by decide +kernel
theorem dX5_row_19 : decode cX5_row 19 = .ok (.bipush (-10), 2) := by decide +kernel
theorem dX5_row_21 : decode cX5_row 21 = .ok (.aload_n 0, 1) := by decide +kernel
theorem dX5_row_22 : decode cX5_row 22 = .ok (.getfield 10, 3) := by decide +kernel
theorem dX5_row_25 : decode cX5_row 25 = .ok (.getfield 69, 3) := by decide +kernel
theorem dX5_row_28 : decode cX5_row 28 = .ok (.isub, 1) := by decide +kernel
theorem dX5_row_29 : decode cX5_row 29 = .ok (.ireturn, 1) := by decide +kernel
theorem dX5_row_30 : decode cX5_row 30 = .ok (.aload_n 0, 1) := by decide +kernel
theorem dX5_row_31 : decode cX5_row 31 = .ok (.getfield 19, 3) := by decide +kernel
theorem dX5_row_34 : decode cX5_row 34 = .ok (.aload_n 0, 1) := by decide +kernel
theorem dX5_row_35 : decode cX5_row 35 = .ok (.getfield 10, 3) := by decide +kernel
theorem dX5_row_38 : decode cX5_row 38 = .ok (.invokevirtual 72, 3) := by decide +kernel
theorem dX5_row_41 : decode cX5_row 41 = .ok (.ireturn, 1) := by decide +kernel
theorem dX5_octet_0 : decode cX5_octet 0 = .ok (.aload_n 0, 1) := by decide +kernel
theorem dX5_octet_1 : decode cX5_octet 1 = .ok (.getfield 26, 3) := by decide +kernel
theorem dX5_octet_4 : decode cX5_octet 4 = .ok (.iload_n 1, 1) := by decide +kernel
theorem dX5_octet_5 : decode cX5_octet 5 = .ok (.invokevirtual 75, 3) := by decide +kernel
theorem dX5_octet_8 : decode cX5_octet 8 = .ok (.ifCond .ne 5, 3) := by decide +kernel
theorem dX5_octet_11 : decode cX5_octet 11 = .ok (.iconst (-1), 1) := by decide +kernel
theorem dX5_octet_12 : decode cX5_octet 12 = .ok (.ireturn, 1) := by decide +kernel
theorem dX5_octet_13 : decode cX5_octet 13 = .ok (.aload_n 0, 1) := by decide +kernel
theorem dX5_octet_14 : decode cX5_octet 14 = .ok (.getfield 26, 3) := by decide +kernel
theorem dX5_octet_17 : decode cX5_octet 17 = .ok (.iload_n 1, 1) := by decide +kernel
theorem dX5_octet_18 : decode cX5_octet 18 = .ok (.iload_n 2, 1) := by decide +kernel
theorem dX5_octet_19 : decode cX5_octet 19 = .ok (.sipush 255, 3) := by decide +kernel
theorem dX5_octet_22 : decode cX5_octet 22 = .ok (.iand, 1) := by decide +kernel
theorem dX5_octet_23 : decode cX5_octet 23 = .ok (.invokevirtual 79, 3) := by decide +kernel
theorem dX5_octet_26 : decode cX5_octet 26 = .ok (.ireturn, 1) := by decide +kernel
theorem dX5_file_0 : decode cX5_file 0 = .ok (.aload_n 0, 1) := by decide +kernel
theorem dX5_file_1 : decode cX5_file 1 = .ok (.getfield 26, 3) := by decide +kernel
theorem dX5_file_4 : decode cX5_file 4 = .ok (.invokevirtual 83, 3) := by decide +kernel
theorem dX5_file_7 : decode cX5_file 7 = .ok (.ireturn, 1) := by decide +kernel
theorem dX5_member_0 : decode cX5_member 0 = .ok (.aload_n 0, 1) := by decide +kernel
theorem dX5_member_1 : decode cX5_member 1 = .ok (.getfield 26, 3) := by decide +kernel
theorem dX5_member_4 : decode cX5_member 4 = .ok (.iload_n 1, 1) := by decide +kernel
theorem dX5_member_5 : decode cX5_member 5 = .ok (.invokevirtual 75, 3) := by decide +kernel
theorem dX5_member_8 : decode cX5_member 8 = .ok (.ifCond .eq 14, 3) := by decide +kernel
theorem dX5_member_11 : decode cX5_member 11 = .ok (.aload_n 0, 1) := by decide +kernel
theorem dX5_member_12 : decode cX5_member 12 = .ok (.getfield 26, 3) := by decide +kernel
theorem dX5_member_15 : decode cX5_member 15 = .ok (.iload_n 2, 1) := by decide +kernel
theorem dX5_member_16 : decode cX5_member 16 = .ok (.invokevirtual 75, 3) := by decide +kernel
theorem dX5_member_19 : decode cX5_member 19 = .ok (.ifCond .ne 5, 3) := by decide +kernel
theorem dX5_member_22 : decode cX5_member 22 = .ok (.iconst (-1), 1) := by decide +kernel
theorem dX5_member_23 : decode cX5_member 23 = .ok (.ireturn, 1) := by decide +kernel
theorem dX5_member_24 : decode cX5_member 24 = .ok (.aload_n 0, 1) := by decide +kernel
theorem dX5_member_25 : decode cX5_member 25 = .ok (.getfield 26, 3) := by decide +kernel
theorem dX5_member_28 : decode cX5_member 28 = .ok (.iload_n 1, 1) := by decide +kernel
theorem dX5_member_29 : decode cX5_member 29 = .ok (.invokevirtual 86, 3) := by decide +kernel
theorem dX5_member_32 : decode cX5_member 32 = .ok (.ifCond .ne 15, 3) := by decide +kernel
theorem dX5_member_35 : decode cX5_member 35 = .ok (.aload_n 0, 1) := by decide +kernel
theorem dX5_member_36 : decode cX5_member 36 = .ok (.getfield 26, 3) := by decide +kernel
theorem dX5_member_39 : decode cX5_member 39 = .ok (.iload_n 2, 1) := by decide +kernel
theorem dX5_member_40 : decode cX5_member 40 = .ok (.iload_n 1, 1) := by decide +kernel
theorem dX5_member_41 : decode cX5_member 41 = .ok (.invokevirtual 89, 3) := by decide +kernel
theorem dX5_member_44 : decode cX5_member 44 = .ok (.ifCond .eq 6, 3) := by decide +kernel
theorem dX5_member_47 : decode cX5_member 47 = .ok (.bipush (-3), 2) := by decide +kernel
theorem dX5_member_49 : decode cX5_member 49 = .ok (.ireturn, 1) := by decide +kernel
theorem dX5_member_50 : decode cX5_member 50 = .ok (.aload_n 0, 1) := by decide +kernel
theorem dX5_member_51 : decode cX5_member 51 = .ok (.getfield 26, 3) := by decide +kernel
theorem dX5_member_54 : decode cX5_member 54 = .ok (.iload_n 1, 1) := by decide +kernel
theorem dX5_member_55 : decode cX5_member 55 = .ok (.iload_n 2, 1) := by decide +kernel
theorem dX5_member_56 : decode cX5_member 56 = .ok (.invokevirtual 93, 3) := by decide +kernel
theorem dX5_member_59 : decode cX5_member 59 = .ok (.ireturn, 1) := by decide +kernel
theorem dX5_identify_0 : decode cX5_identify 0 = .ok (.aload_n 0, 1) := by decide +kernel
theorem dX5_identify_1 : decode cX5_identify 1 = .ok (.getfield 26, 3) := by decide +kernel
theorem dX5_identify_4 : decode cX5_identify 4 = .ok (.iload_n 1, 1) := by decide +kernel
theorem dX5_identify_5 : decode cX5_identify 5 = .ok (.invokevirtual 75, 3) := by decide +kernel
theorem dX5_identify_8 : decode cX5_identify 8 = .ok (.ifCond .ne 6, 3) := by decide +kernel
theorem dX5_identify_11 : decode cX5_identify 11 = .ok (.bipush (-2), 2) := by decide +kernel
theorem dX5_identify_13 : decode cX5_identify 13 = .ok (.ireturn, 1) := by decide +kernel
theorem dX5_identify_14 : decode cX5_identify 14 = .ok (.aload_n 0, 1) := by decide +kernel
theorem dX5_identify_15 : decode cX5_identify 15 = .ok (.aload_n 0, 1) := by decide +kernel
theorem dX5_identify_16 : decode cX5_identify 16 = .ok (.iload_n 1, 1) := by decide +kernel
theorem dX5_identify_17 : decode cX5_identify 17 = .ok (.aload_n 0, 1) := by decide +kernel
theorem dX5_identify_18 : decode cX5_identify 18 = .ok (.getfield 19, 3) := by decide +kernel
theorem dX5_identify_21 : decode cX5_identify 21 = .ok (.getfield 96, 3) := by decide +kernel
theorem dX5_identify_24 : decode cX5_identify 24 = .ok (.invokevirtual 99, 3) := by decide +kernel
theorem dX5_identify_27 : decode cX5_identify 27 = .ok (.putfield 54, 3) := by decide +kernel
theorem dX5_identify_30 : decode cX5_identify 30 = .ok (.aload_n 0, 1) := by decide +kernel
theorem dX5_identify_31 : decode cX5_identify 31 = .ok (.getfield 54, 3) := by decide +kernel
theorem dX5_identify_34 : decode cX5_identify 34 = .ok (.invokestatic 102, 3) := by decide +kernel
theorem dX5_identify_37 : decode cX5_identify 37 = .ok (.ireturn, 1) := by decide +kernel
theorem dX5_found_0 : decode cX5_found 0 = .ok (.aload_n 0, 1) := by decide +kernel
theorem dX5_found_1 : decode cX5_found 1 = .ok (.getfield 54, 3) := by decide +kernel
theorem dX5_found_4 : decode cX5_found 4 = .ok (.iload_n 1, 1) := by decide +kernel
theorem dX5_found_5 : decode cX5_found 5 = .ok (.invokestatic 106, 3) := by decide +kernel
theorem dX5_found_8 : decode cX5_found 8 = .ok (.istore_n 2, 1) := by decide +kernel
theorem dX5_found_9 : decode cX5_found 9 = .ok (.iload_n 2, 1) := by decide +kernel
theorem dX5_found_10 : decode cX5_found 10 = .ok (.iconst (-1), 1) := by decide +kernel
theorem dX5_found_11 : decode cX5_found 11 = .ok (.if_icmp .ne 13, 3) := by decide +kernel
theorem dX5_found_14 : decode cX5_found 14 = .ok (.new 109, 3) := by decide +kernel
theorem dX5_found_17 : decode cX5_found 17 = .ok (.dup, 1) := by decide +kernel
theorem dX5_found_18 : decode cX5_found 18 = .ok (.ldc 111, 2) := by decide +kernel
theorem dX5_found_20 : decode cX5_found 20 = .ok (.invokespecial 113, 3) := by decide +kernel
theorem dX5_found_23 : decode cX5_found 23 = .ok (.athrow, 1) := by decide +kernel
theorem dX5_found_24 : decode cX5_found 24 = .ok (.iload_n 2, 1) := by decide +kernel
theorem dX5_found_25 : decode cX5_found 25 = .ok (.ireturn, 1) := by decide +kernel
theorem dX5_meets_0 : decode cX5_meets 0 = .ok (.aload_n 0, 1) := by decide +kernel
theorem dX5_meets_1 : decode cX5_meets 1 = .ok (.getfield 19, 3) := by decide +kernel
theorem dX5_meets_4 : decode cX5_meets 4 = .ok (.iload_n 1, 1) := by decide +kernel
theorem dX5_meets_5 : decode cX5_meets 5 = .ok (.invokevirtual 116, 3) := by decide +kernel
theorem dX5_meets_8 : decode cX5_meets 8 = .ok (.ifCond .eq 14, 3) := by decide +kernel
theorem dX5_meets_11 : decode cX5_meets 11 = .ok (.aload_n 0, 1) := by decide +kernel
theorem dX5_meets_12 : decode cX5_meets 12 = .ok (.getfield 26, 3) := by decide +kernel
theorem dX5_meets_15 : decode cX5_meets 15 = .ok (.iload_n 2, 1) := by decide +kernel
theorem dX5_meets_16 : decode cX5_meets 16 = .ok (.invokevirtual 75, 3) := by decide +kernel
theorem dX5_meets_19 : decode cX5_meets 19 = .ok (.ifCond .ne 5, 3) := by decide +kernel
theorem dX5_meets_22 : decode cX5_meets 22 = .ok (.iconst (-1), 1) := by decide +kernel
theorem dX5_meets_23 : decode cX5_meets 23 = .ok (.ireturn, 1) := by decide +kernel
theorem dX5_meets_24 : decode cX5_meets 24 = .ok (.aload_n 0, 1) := by decide +kernel
theorem dX5_meets_25 : decode cX5_meets 25 = .ok (.iload_n 1, 1) := by decide +kernel
theorem dX5_meets_26 : decode cX5_meets 26 = .ok (.iload_n 2, 1) := by decide +kernel
theorem dX5_meets_27 : decode cX5_meets 27 = .ok (.invokevirtual 117, 3) := by decide +kernel
theorem dX5_meets_30 : decode cX5_meets 30 = .ok (.ifCond .eq 7, 3) := by decide +kernel
theorem dX5_meets_33 : decode cX5_meets 33 = .ok (.iconst 1, 1) := by decide +kernel
theorem dX5_meets_34 : decode cX5_meets 34 = .ok (.goto 4, 3) := by decide +kernel
theorem dX5_meets_37 : decode cX5_meets 37 = .ok (.iconst 0, 1) := by decide +kernel
theorem dX5_meets_38 : decode cX5_meets 38 = .ok (.ireturn, 1) := by decide +kernel
theorem dX5_container_0 : decode cX5_container 0 = .ok (.iload_n 1, 1) := by decide +kernel
theorem dX5_container_1 : decode cX5_container 1 = .ok (.invokestatic 120, 3) := by decide +kernel
theorem dX5_container_4 : decode cX5_container 4 = .ok (.ifCond .eq 17, 3) := by decide +kernel
theorem dX5_container_7 : decode cX5_container 7 = .ok (.iload_n 2, 1) := by decide +kernel
theorem dX5_container_8 : decode cX5_container 8 = .ok (.invokestatic 120, 3) := by decide +kernel
theorem dX5_container_11 : decode cX5_container 11 = .ok (.ifCond .eq 10, 3) := by decide +kernel
theorem dX5_container_14 : decode cX5_container 14 = .ok (.iload_n 3, 1) := by decide +kernel
theorem dX5_container_15 : decode cX5_container 15 = .ok (.invokestatic 120, 3) := by decide +kernel
theorem dX5_container_18 : decode cX5_container 18 = .ok (.ifCond .ne 6, 3) := by decide +kernel
theorem dX5_container_21 : decode cX5_container 21 = .ok (.bipush (-2), 2) := by decide +kernel
theorem dX5_container_23 : decode cX5_container 23 = .ok (.ireturn, 1) := by decide +kernel
theorem dX5_container_24 : decode cX5_container 24 = .ok (.aload_n 0, 1) := by decide +kernel
theorem dX5_container_25 : decode cX5_container 25 = .ok (.getfield 33, 3) := by decide +kernel
theorem dX5_container_28 : decode cX5_container 28 = .ok (.iload_n 1, 1) := by decide +kernel
theorem dX5_container_29 : decode cX5_container 29 = .ok (.iload_n 2, 1) := by decide +kernel
theorem dX5_container_30 : decode cX5_container 30 = .ok (.iload_n 3, 1) := by decide +kernel
theorem dX5_container_31 : decode cX5_container 31 = .ok (.invokevirtual 123, 3) := by decide +kernel
theorem dX5_container_34 : decode cX5_container 34 = .ok (.ireturn, 1) := by decide +kernel
theorem dX5_deep_0 : decode cX5_deep 0 = .ok (.aload_n 0, 1) := by decide +kernel
theorem dX5_deep_1 : decode cX5_deep 1 = .ok (.getfield 26, 3) := by decide +kernel
theorem dX5_deep_4 : decode cX5_deep 4 = .ok (.iload_n 1, 1) := by decide +kernel
theorem dX5_deep_5 : decode cX5_deep 5 = .ok (.invokevirtual 75, 3) := by decide +kernel
theorem dX5_deep_8 : decode cX5_deep 8 = .ok (.ifCond .ne 6, 3) := by decide +kernel
theorem dX5_deep_11 : decode cX5_deep 11 = .ok (.bipush (-2), 2) := by decide +kernel
theorem dX5_deep_13 : decode cX5_deep 13 = .ok (.ireturn, 1) := by decide +kernel
theorem dX5_deep_14 : decode cX5_deep 14 = .ok (.aload_n 0, 1) := by decide +kernel
theorem dX5_deep_15 : decode cX5_deep 15 = .ok (.iload_n 1, 1) := by decide +kernel
theorem dX5_deep_16 : decode cX5_deep 16 = .ok (.iconst 0, 1) := by decide +kernel
theorem dX5_deep_17 : decode cX5_deep 17 = .ok (.invokevirtual 126, 3) := by decide +kernel
theorem dX5_deep_20 : decode cX5_deep 20 = .ok (.ireturn, 1) := by decide +kernel
theorem dX5_obsolete_0 : decode cX5_obsolete 0 = .ok (.iload_n 1, 1) := by decide +kernel
theorem dX5_obsolete_1 : decode cX5_obsolete 1 = .ok (.invokestatic 120, 3) := by decide +kernel
theorem dX5_obsolete_4 : decode cX5_obsolete 4 = .ok (.ifCond .ne 6, 3) := by decide +kernel
theorem dX5_obsolete_7 : decode cX5_obsolete 7 = .ok (.bipush (-2), 2) := by decide +kernel
theorem dX5_obsolete_9 : decode cX5_obsolete 9 = .ok (.ireturn, 1) := by decide +kernel
theorem dX5_obsolete_10 : decode cX5_obsolete 10 = .ok (.aload_n 0, 1) := by decide +kernel
theorem dX5_obsolete_11 : decode cX5_obsolete 11 = .ok (.getfield 40, 3) := by decide +kernel
theorem dX5_obsolete_14 : decode cX5_obsolete 14 = .ok (.getfield 129, 3) := by decide +kernel
theorem dX5_obsolete_17 : decode cX5_obsolete 17 = .ok (.iload_n 1, 1) := by decide +kernel
theorem dX5_obsolete_18 : decode cX5_obsolete 18 = .ok (.iload_n 2, 1) := by decide +kernel
theorem dX5_obsolete_19 : decode cX5_obsolete 19 = .ok (.bastore, 1) := by decide +kernel
theorem dX5_obsolete_20 : decode cX5_obsolete 20 = .ok (.iconst 1, 1) := by decide +kernel
theorem dX5_obsolete_21 : decode cX5_obsolete 21 = .ok (.ireturn, 1) := by decide +kernel
theorem dX5_migration_0 : decode cX5_migration 0 = .ok (.iload_n 1, 1) := by decide +kernel
theorem dX5_migration_1 : decode cX5_migration 1 = .ok (.invokestatic 120, 3) := by decide +kernel
theorem dX5_migration_4 : decode cX5_migration 4 = .ok (.ifCond .eq 15, 3) := by decide +kernel
theorem dX5_migration_7 : decode cX5_migration 7 = .ok (.iload_n 2, 1) := by decide +kernel
theorem dX5_migration_8 : decode cX5_migration 8 = .ok (.iconst (-1), 1) := by decide +kernel
theorem dX5_migration_9 : decode cX5_migration 9 = .ok (.if_icmp .eq 13, 3) := by decide +kernel
theorem dX5_migration_12 : decode cX5_migration 12 = .ok (.iload_n 2, 1) := by decide +kernel
theorem dX5_migration_13 : decode cX5_migration 13 = .ok (.invokestatic 120, 3) := by decide +kernel
theorem dX5_migration_16 : decode cX5_migration 16 = .ok (.ifCond .ne 6, 3) := by decide +kernel
theorem dX5_migration_19 : decode cX5_migration 19 = .ok (.bipush (-2), 2) := by decide +kernel
theorem dX5_migration_21 : decode cX5_migration 21 = .ok (.ireturn, 1) := by decide +kernel
theorem dX5_migration_22 : decode cX5_migration 22 = .ok (.iload_n 2, 1) := by decide +kernel
theorem dX5_migration_23 : decode cX5_migration 23 = .ok (.iconst (-1), 1) := by decide +kernel
theorem dX5_migration_24 : decode cX5_migration 24 = .ok (.if_icmp .eq 18, 3) := by decide +kernel
theorem dX5_migration_27 : decode cX5_migration 27 = .ok (.aload_n 0, 1) := by decide +kernel
theorem dX5_migration_28 : decode cX5_migration 28 = .ok (.getfield 40, 3) := by decide +kernel
theorem dX5_migration_31 : decode cX5_migration 31 = .ok (.iload_n 2, 1) := by decide +kernel
theorem dX5_migration_32 : decode cX5_migration 32 = .ok (.iload_n 1, 1) := by decide +kernel
theorem dX5_migration_33 : decode cX5_migration 33 = .ok (.invokevirtual 133, 3) := by decide +kernel
theorem dX5_migration_36 : decode cX5_migration 36 = .ok (.ifCond .eq 6, 3) := by decide +kernel
theorem dX5_migration_39 : decode cX5_migration 39 = .ok (.bipush (-3), 2) := by decide +kernel
theorem dX5_migration_41 : decode cX5_migration 41 = .ok (.ireturn, 1) := by decide +kernel
theorem dX5_migration_42 : decode cX5_migration 42 = .ok (.aload_n 0, 1) := by decide +kernel
theorem dX5_migration_43 : decode cX5_migration 43 = .ok (.getfield 40, 3) := by decide +kernel
theorem dX5_migration_46 : decode cX5_migration 46 = .ok (.getfield 136, 3) := by decide +kernel
theorem dX5_migration_49 : decode cX5_migration 49 = .ok (.iload_n 1, 1) := by decide +kernel
theorem dX5_migration_50 : decode cX5_migration 50 = .ok (.iload_n 2, 1) := by decide +kernel
theorem dX5_migration_51 : decode cX5_migration 51 = .ok (.iastore, 1) := by decide +kernel
theorem dX5_migration_52 : decode cX5_migration 52 = .ok (.iconst 1, 1) := by decide +kernel
theorem dX5_migration_53 : decode cX5_migration 53 = .ok (.ireturn, 1) := by decide +kernel
theorem dX5_becomes_0 : decode cX5_becomes 0 = .ok (.iload_n 1, 1) := by decide +kernel
theorem dX5_becomes_1 : decode cX5_becomes 1 = .ok (.invokestatic 120, 3) := by decide +kernel
theorem dX5_becomes_4 : decode cX5_becomes 4 = .ok (.ifCond .ne 6, 3) := by decide +kernel
theorem dX5_becomes_7 : decode cX5_becomes 7 = .ok (.bipush (-2), 2) := by decide +kernel
theorem dX5_becomes_9 : decode cX5_becomes 9 = .ok (.ireturn, 1) := by decide +kernel
theorem dX5_becomes_10 : decode cX5_becomes 10 = .ok (.aload_n 0, 1) := by decide +kernel
theorem dX5_becomes_11 : decode cX5_becomes 11 = .ok (.getfield 40, 3) := by decide +kernel
theorem dX5_becomes_14 : decode cX5_becomes 14 = .ok (.iload_n 1, 1) := by decide +kernel
theorem dX5_becomes_15 : decode cX5_becomes 15 = .ok (.invokevirtual 139, 3) := by decide +kernel
theorem dX5_becomes_18 : decode cX5_becomes 18 = .ok (.ireturn, 1) := by decide +kernel
theorem dX5_keep_0 : decode cX5_keep 0 = .ok (.iconst 0, 1) := by decide +kernel
theorem dX5_keep_1 : decode cX5_keep 1 = .ok (.istore_n 1, 1) := by decide +kernel
theorem dX5_keep_2 : decode cX5_keep 2 = .ok (.iload_n 1, 1) := by decide +kernel
theorem dX5_keep_3 : decode cX5_keep 3 = .ok (.aload_n 0, 1) := by decide +kernel
theorem dX5_keep_4 : decode cX5_keep 4 = .ok (.getfield 26, 3) := by decide +kernel
theorem dX5_keep_7 : decode cX5_keep 7 = .ok (.getfield 142, 3) := by decide +kernel
theorem dX5_keep_10 : decode cX5_keep 10 = .ok (.if_icmp .ge 27, 3) := by decide +kernel
theorem dX5_keep_13 : decode cX5_keep 13 = .ok (.aload_n 0, 1) := by decide +kernel
theorem dX5_keep_14 : decode cX5_keep 14 = .ok (.getfield 44, 3) := by decide +kernel
theorem dX5_keep_17 : decode cX5_keep 17 = .ok (.iload_n 1, 1) := by decide +kernel
theorem dX5_keep_18 : decode cX5_keep 18 = .ok (.aload_n 0, 1) := by decide +kernel
theorem dX5_keep_19 : decode cX5_keep 19 = .ok (.iload_n 1, 1) := by decide +kernel
theorem dX5_keep_20 : decode cX5_keep 20 = .ok (.aload_n 0, 1) := by decide +kernel
theorem dX5_keep_21 : decode cX5_keep 21 = .ok (.getfield 19, 3) := by decide +kernel
theorem dX5_keep_24 : decode cX5_keep 24 = .ok (.getfield 96, 3) := by decide +kernel
theorem dX5_keep_27 : decode cX5_keep 27 = .ok (.invokevirtual 143, 3) := by decide +kernel
theorem dX5_keep_30 : decode cX5_keep 30 = .ok (.iastore, 1) := by decide +kernel
theorem dX5_keep_31 : decode cX5_keep 31 = .ok (.iinc 1 1, 3) := by decide +kernel
theorem dX5_keep_34 : decode cX5_keep 34 = .ok (.goto (-32), 3) := by decide +kernel
theorem dX5_keep_37 : decode cX5_keep 37 = .ok (.aload_n 0, 1) := by decide +kernel
theorem dX5_keep_38 : decode cX5_keep 38 = .ok (.getfield 19, 3) := by decide +kernel
theorem dX5_keep_41 : decode cX5_keep 41 = .ok (.getfield 96, 3) := by decide +kernel
theorem dX5_keep_44 : decode cX5_keep 44 = .ok (.ireturn, 1) := by decide +kernel
theorem dX5_changed_0 : decode cX5_changed 0 = .ok (.iconst 0, 1) := by decide +kernel
theorem dX5_changed_1 : decode cX5_changed 1 = .ok (.istore_n 2, 1) := by decide +kernel
theorem dX5_changed_2 : decode cX5_changed 2 = .ok (.iconst 0, 1) := by decide +kernel
theorem dX5_changed_3 : decode cX5_changed 3 = .ok (.istore_n 3, 1) := by decide +kernel
theorem dX5_changed_4 : decode cX5_changed 4 = .ok (.iload_n 3, 1) := by decide +kernel
theorem dX5_changed_5 : decode cX5_changed 5 = .ok (.aload_n 0, 1) := by decide +kernel
theorem dX5_changed_6 : decode cX5_changed 6 = .ok (.getfield 26, 3) := by decide +kernel
theorem dX5_changed_9 : decode cX5_changed 9 = .ok (.getfield 142, 3) := by decide +kernel
theorem dX5_changed_12 : decode cX5_changed 12 = .ok (.if_icmp .ge 40, 3) := by decide +kernel
theorem dX5_changed_15 : decode cX5_changed 15 = .ok (.aload_n 0, 1) := by decide +kernel
theorem dX5_changed_16 : decode cX5_changed 16 = .ok (.iload_n 3, 1) := by decide +kernel
theorem dX5_changed_17 : decode cX5_changed 17 = .ok (.aload_n 0, 1) := by decide +kernel
theorem dX5_changed_18 : decode cX5_changed 18 = .ok (.getfield 19, 3) := by decide +kernel
theorem dX5_changed_21 : decode cX5_changed 21 = .ok (.getfield 96, 3) := by decide +kernel
theorem dX5_changed_24 : decode cX5_changed 24 = .ok (.invokevirtual 143, 3) := by decide +kernel
theorem dX5_changed_27 : decode cX5_changed 27 = .ok (.aload_n 0, 1) := by decide +kernel
theorem dX5_changed_28 : decode cX5_changed 28 = .ok (.getfield 44, 3) := by decide +kernel
theorem dX5_changed_31 : decode cX5_changed 31 = .ok (.iload_n 3, 1) := by decide +kernel
theorem dX5_changed_32 : decode cX5_changed 32 = .ok (.iaload, 1) := by decide +kernel
theorem dX5_changed_33 : decode cX5_changed 33 = .ok (.if_icmp .eq 13, 3) := by decide +kernel
theorem dX5_changed_36 : decode cX5_changed 36 = .ok (.iload_n 2, 1) := by decide +kernel
theorem dX5_changed_37 : decode cX5_changed 37 = .ok (.iload_n 1, 1) := by decide +kernel
theorem dX5_changed_38 : decode cX5_changed 38 = .ok (.if_icmp .ne 5, 3) := by decide +kernel
theorem dX5_changed_41 : decode cX5_changed 41 = .ok (.iload_n 3, 1) := by decide +kernel
theorem dX5_changed_42 : decode cX5_changed 42 = .ok (.ireturn, 1) := by decide +kernel
theorem dX5_changed_43 : decode cX5_changed 43 = .ok (.iinc 2 1, 3) := by decide +kernel
theorem dX5_changed_46 : decode cX5_changed 46 = .ok (.iinc 3 1, 3) := by decide +kernel
theorem dX5_changed_49 : decode cX5_changed 49 = .ok (.goto (-45), 3) := by decide +kernel
theorem dX5_changed_52 : decode cX5_changed 52 = .ok (.iconst (-1), 1) := by decide +kernel
theorem dX5_changed_53 : decode cX5_changed 53 = .ok (.ireturn, 1) := by decide +kernel
theorem dX5_count_0 : decode cX5_count 0 = .ok (.iload_n 1, 1) := by decide +kernel
theorem dX5_count_1 : decode cX5_count 1 = .ok (.invokestatic 120, 3) := by decide +kernel
theorem dX5_count_4 : decode cX5_count 4 = .ok (.ifCond .ne 14, 3) := by decide +kernel
theorem dX5_count_7 : decode cX5_count 7 = .ok (.iload_n 1, 1) := by decide +kernel
theorem dX5_count_8 : decode cX5_count 8 = .ok (.iconst (-1), 1) := by decide +kernel
theorem dX5_count_9 : decode cX5_count 9 = .ok (.if_icmp .eq 9, 3) := by decide +kernel
theorem dX5_count_12 : decode cX5_count 12 = .ok (.iload_n 1, 1) := by decide +kernel
theorem dX5_count_13 : decode cX5_count 13 = .ok (.bipush (-5), 2) := by decide +kernel
theorem dX5_count_15 : decode cX5_count 15 = .ok (.if_icmp .ne 7, 3) := by decide +kernel
theorem dX5_count_18 : decode cX5_count 18 = .ok (.iconst 1, 1) := by decide +kernel
theorem dX5_count_19 : decode cX5_count 19 = .ok (.goto 4, 3) := by decide +kernel
theorem dX5_count_22 : decode cX5_count 22 = .ok (.iconst 0, 1) := by decide +kernel
theorem dX5_count_23 : decode cX5_count 23 = .ok (.istore_n 3, 1) := by decide +kernel
theorem dX5_count_24 : decode cX5_count 24 = .ok (.iload_n 3, 1) := by decide +kernel
theorem dX5_count_25 : decode cX5_count 25 = .ok (.ifCond .eq 18, 3) := by decide +kernel
theorem dX5_count_28 : decode cX5_count 28 = .ok (.iload_n 2, 1) := by decide +kernel
theorem dX5_count_29 : decode cX5_count 29 = .ok (.ifCond .lt 14, 3) := by decide +kernel
theorem dX5_count_32 : decode cX5_count 32 = .ok (.iload_n 2, 1) := by decide +kernel
theorem dX5_count_33 : decode cX5_count 33 = .ok (.aload_n 0, 1) := by decide +kernel
theorem dX5_count_34 : decode cX5_count 34 = .ok (.getfield 19, 3) := by decide +kernel
theorem dX5_count_37 : decode cX5_count 37 = .ok (.getfield 96, 3) := by decide +kernel
theorem dX5_count_40 : decode cX5_count 40 = .ok (.if_icmp .le 6, 3) := by decide +kernel
theorem dX5_count_43 : decode cX5_count 43 = .ok (.bipush (-2), 2) := by decide +kernel
theorem dX5_count_45 : decode cX5_count 45 = .ok (.ireturn, 1) := by decide +kernel
theorem dX5_count_46 : decode cX5_count 46 = .ok (.iconst 0, 1) := by decide +kernel
theorem dX5_count_47 : decode cX5_count 47 = .ok (.istore 4, 2) := by decide +kernel
theorem dX5_count_49 : decode cX5_count 49 = .ok (.iconst 0, 1) := by decide +kernel
theorem dX5_count_50 : decode cX5_count 50 = .ok (.istore 5, 2) := by decide +kernel
theorem dX5_count_52 : decode cX5_count 52 = .ok (.iload 5, 2) := by decide +kernel
theorem dX5_count_54 : decode cX5_count 54 = .ok (.aload_n 0, 1) := by decide +kernel
theorem dX5_count_55 : decode cX5_count 55 = .ok (.getfield 26, 3) := by decide +kernel
theorem dX5_count_58 : decode cX5_count 58 = .ok (.getfield 142, 3) := by decide +kernel
theorem dX5_count_61 : decode cX5_count 61 = .ok (.if_icmp .ge 23, 3) := by decide +kernel
theorem dX5_count_64 : decode cX5_count 64 = .ok (.aload_n 0, 1) := by decide +kernel
theorem dX5_count_65 : decode cX5_count 65 = .ok (.iload 5, 2) := by decide +kernel
theorem dX5_count_67 : decode cX5_count 67 = .ok (.iload_n 2, 1) := by decide +kernel
theorem dX5_count_68 : decode cX5_count 68 = .ok (.invokevirtual 143, 3) := by decide +kernel
theorem dX5_count_71 : decode cX5_count 71 = .ok (.iload_n 1, 1) := by decide +kernel
theorem dX5_count_72 : decode cX5_count 72 = .ok (.if_icmp .ne 6, 3) := by decide +kernel
theorem dX5_count_75 : decode cX5_count 75 = .ok (.iinc 4 1, 3) := by decide +kernel
theorem dX5_count_78 : decode cX5_count 78 = .ok (.iinc 5 1, 3) := by decide +kernel
theorem dX5_count_81 : decode cX5_count 81 = .ok (.goto (-29), 3) := by decide +kernel
theorem dX5_count_84 : decode cX5_count 84 = .ok (.iload 4, 2) := by decide +kernel
theorem dX5_count_86 : decode cX5_count 86 = .ok (.ireturn, 1) := by decide +kernel
theorem dX5_pattern_0 : decode cX5_pattern 0 = .ok (.aload_n 0, 1) := by decide +kernel
theorem dX5_pattern_1 : decode cX5_pattern 1 = .ok (.getfield 19, 3) := by decide +kernel
theorem dX5_pattern_4 : decode cX5_pattern 4 = .ok (.iload_n 1, 1) := by decide +kernel
theorem dX5_pattern_5 : decode cX5_pattern 5 = .ok (.invokevirtual 116, 3) := by decide +kernel
theorem dX5_pattern_8 : decode cX5_pattern 8 = .ok (.ifCond .ne 5, 3) := by decide +kernel
theorem dX5_pattern_11 : decode cX5_pattern 11 = .ok (.iconst (-1), 1) := by decide +kernel
theorem dX5_pattern_12 : decode cX5_pattern 12 = .ok (.ireturn, 1) := by decide +kernel
theorem dX5_pattern_13 : decode cX5_pattern 13 = .ok (.iload_n 2, 1) := by decide +kernel
theorem dX5_pattern_14 : decode cX5_pattern 14 = .ok (.ifCond .lt 16, 3) := by decide +kernel
theorem dX5_pattern_17 : decode cX5_pattern 17 = .ok (.iload_n 2, 1) := by decide +kernel
theorem dX5_pattern_18 : decode cX5_pattern 18 = .ok (.aload_n 0, 1) := by decide +kernel
theorem dX5_pattern_19 : decode cX5_pattern 19 = .ok (.getfield 19, 3) := by decide +kernel
theorem dX5_pattern_22 : decode cX5_pattern 22 = .ok (.getfield 146, 3) := by decide +kernel
theorem dX5_pattern_25 : decode cX5_pattern 25 = .ok (.iload_n 1, 1) := by decide +kernel
theorem dX5_pattern_26 : decode cX5_pattern 26 = .ok (.iaload, 1) := by decide +kernel
theorem dX5_pattern_27 : decode cX5_pattern 27 = .ok (.if_icmp .lt 13, 3) := by decide +kernel
theorem dX5_pattern_30 : decode cX5_pattern 30 = .ok (.new 109, 3) := by decide +kernel
theorem dX5_pattern_33 : decode cX5_pattern 33 = .ok (.dup, 1) := by decide +kernel
theorem dX5_pattern_34 : decode cX5_pattern 34 = .ok (.ldc 149, 2) := by decide +kernel
theorem dX5_pattern_36 : decode cX5_pattern 36 = .ok (.invokespecial 113, 3) := by decide +kernel
theorem dX5_pattern_39 : decode cX5_pattern 39 = .ok (.athrow, 1) := by decide +kernel
theorem dX5_pattern_40 : decode cX5_pattern 40 = .ok (.aload_n 0, 1) := by decide +kernel
theorem dX5_pattern_41 : decode cX5_pattern 41 = .ok (.getfield 19, 3) := by decide +kernel
theorem dX5_pattern_44 : decode cX5_pattern 44 = .ok (.iload_n 1, 1) := by decide +kernel
theorem dX5_pattern_45 : decode cX5_pattern 45 = .ok (.iload_n 2, 1) := by decide +kernel
theorem dX5_pattern_46 : decode cX5_pattern 46 = .ok (.invokevirtual 151, 3) := by decide +kernel
theorem dX5_pattern_49 : decode cX5_pattern 49 = .ok (.ireturn, 1) := by decide +kernel
theorem dX5_isFormat_0 : decode cX5_isFormat 0 = .ok (.iload_n 0, 1) := by decide +kernel
theorem dX5_isFormat_1 : decode cX5_isFormat 1 = .ok (.ifCond .lt 13, 3) := by decide +kernel
theorem dX5_isFormat_4 : decode cX5_isFormat 4 = .ok (.iload_n 0, 1) := by decide +kernel
theorem dX5_isFormat_5 : decode cX5_isFormat 5 = .ok (.bipush 30, 2) := by decide +kernel
theorem dX5_isFormat_7 : decode cX5_isFormat 7 = .ok (.if_icmp .ge 7, 3) := by decide +kernel
theorem dX5_isFormat_10 : decode cX5_isFormat 10 = .ok (.iconst 1, 1) := by decide +kernel
theorem dX5_isFormat_11 : decode cX5_isFormat 11 = .ok (.goto 4, 3) := by decide +kernel
theorem dX5_isFormat_14 : decode cX5_isFormat 14 = .ok (.iconst 0, 1) := by decide +kernel
theorem dX5_isFormat_15 : decode cX5_isFormat 15 = .ok (.ireturn, 1) := by decide +kernel
theorem dX5_formatOfSet_0 : decode cX5_formatOfSet 0 = .ok (.iload_n 0, 1) := by decide +kernel
theorem dX5_formatOfSet_1 : decode cX5_formatOfSet 1 = .ok (.invokestatic 154, 3) := by decide +kernel
theorem dX5_formatOfSet_4 : decode cX5_formatOfSet 4 = .ok (.iconst 1, 1) := by decide +kernel
theorem dX5_formatOfSet_5 : decode cX5_formatOfSet 5 = .ok (.if_icmp .le 8, 3) := by decide +kernel
theorem dX5_formatOfSet_8 : decode cX5_formatOfSet 8 = .ok (.bipush (-5), 2) := by decide +kernel
theorem dX5_formatOfSet_10 : decode cX5_formatOfSet 10 = .ok (.goto 8, 3) := by decide +kernel
theorem dX5_formatOfSet_13 : decode cX5_formatOfSet 13 = .ok (.iload_n 0, 1) := by decide +kernel
theorem dX5_formatOfSet_14 : decode cX5_formatOfSet 14 = .ok (.iconst 0, 1) := by decide +kernel
theorem dX5_formatOfSet_15 : decode cX5_formatOfSet 15 = .ok (.invokestatic 106, 3) := by decide +kernel
theorem dX5_formatOfSet_18 : decode cX5_formatOfSet 18 = .ok (.ireturn, 1) := by decide +kernel
theorem dX5_formatInSet_0 : decode cX5_formatInSet 0 = .ok (.iconst 0, 1) := by decide +kernel
theorem dX5_formatInSet_1 : decode cX5_formatInSet 1 = .ok (.istore_n 2, 1) := by decide +kernel
theorem dX5_formatInSet_2 : decode cX5_formatInSet 2 = .ok (.iconst 0, 1) := by decide +kernel
theorem dX5_formatInSet_3 : decode cX5_formatInSet 3 = .ok (.istore_n 3, 1) := by decide +kernel
theorem dX5_formatInSet_4 : decode cX5_formatInSet 4 = .ok (.iload_n 3, 1) := by decide +kernel
theorem dX5_formatInSet_5 : decode cX5_formatInSet 5 = .ok (.bipush 30, 2) := by decide +kernel
theorem dX5_formatInSet_7 : decode cX5_formatInSet 7 = .ok (.if_icmp .ge 27, 3) := by decide +kernel
theorem dX5_formatInSet_10 : decode cX5_formatInSet 10 = .ok (.iload_n 0, 1) := by decide +kernel
theorem dX5_formatInSet_11 : decode cX5_formatInSet 11 = .ok (.iconst 1, 1) := by decide +kernel
theorem dX5_formatInSet_12 : decode cX5_formatInSet 12 = .ok (.iload_n 3, 1) := by decide +kernel
theorem dX5_formatInSet_13 : decode cX5_formatInSet 13 = .ok (.ishl, 1) := by decide +kernel
theorem dX5_formatInSet_14 : decode cX5_formatInSet 14 = .ok (.iand, 1) := by decide +kernel
theorem dX5_formatInSet_15 : decode cX5_formatInSet 15 = .ok (.ifCond .eq 13, 3) := by decide +kernel
theorem dX5_formatInSet_18 : decode cX5_formatInSet 18 = .ok (.iload_n 2, 1) := by decide +kernel
theorem dX5_formatInSet_19 : decode cX5_formatInSet 19 = .ok (.iload_n 1, 1) := by decide +kernel
theorem dX5_formatInSet_20 : decode cX5_formatInSet 20 = .ok (.if_icmp .ne 5, 3) := by decide +kernel
theorem dX5_formatInSet_23 : decode cX5_formatInSet 23 = .ok (.iload_n 3, 1) := by decide +kernel
theorem dX5_formatInSet_24 : decode cX5_formatInSet 24 = .ok (.ireturn, 1) := by decide +kernel
theorem dX5_formatInSet_25 : decode cX5_formatInSet 25 = .ok (.iinc 2 1, 3) := by decide +kernel
theorem dX5_formatInSet_28 : decode cX5_formatInSet 28 = .ok (.iinc 3 1, 3) := by decide +kernel
theorem dX5_formatInSet_31 : decode cX5_formatInSet 31 = .ok (.goto (-27), 3) := by decide +kernel
theorem dX5_formatInSet_34 : decode cX5_formatInSet 34 = .ok (.iconst (-1), 1) := by decide +kernel
theorem dX5_formatInSet_35 : decode cX5_formatInSet 35 = .ok (.ireturn, 1) := by decide +kernel
theorem dX5_formatOf_0 : decode cX5_formatOf 0 = .ok (.aload_n 0, 1) := by decide +kernel
theorem dX5_formatOf_1 : decode cX5_formatOf 1 = .ok (.iload_n 1, 1) := by decide +kernel
theorem dX5_formatOf_2 : decode cX5_formatOf 2 = .ok (.iload_n 2, 1) := by decide +kernel
theorem dX5_formatOf_3 : decode cX5_formatOf 3 = .ok (.invokevirtual 99, 3) := by decide +kernel
theorem dX5_formatOf_6 : decode cX5_formatOf 6 = .ok (.invokestatic 102, 3) := by decide +kernel
theorem dX5_formatOf_9 : decode cX5_formatOf 9 = .ok (.ireturn, 1) := by decide +kernel
theorem dX5_formatsOf_0 : decode cX5_formatsOf 0 = .ok (.aload_n 0, 1) := by decide +kernel
theorem dX5_formatsOf_1 : decode cX5_formatsOf 1 = .ok (.getfield 26, 3) := by decide +kernel
theorem dX5_formatsOf_4 : decode cX5_formatsOf 4 = .ok (.getfield 159, 3) := by decide +kernel
theorem dX5_formatsOf_7 : decode cX5_formatsOf 7 = .ok (.iload_n 1, 1) := by decide +kernel
theorem dX5_formatsOf_8 : decode cX5_formatsOf 8 = .ok (.iaload, 1) := by decide +kernel
theorem dX5_formatsOf_9 : decode cX5_formatsOf 9 = .ok (.ifCond .ne 5, 3) := by decide +kernel
theorem dX5_formatsOf_12 : decode cX5_formatsOf 12 = .ok (.iconst 1, 1) := by decide +kernel
theorem dX5_formatsOf_13 : decode cX5_formatsOf 13 = .ok (.ireturn, 1) := by decide +kernel
theorem dX5_formatsOf_14 : decode cX5_formatsOf 14 = .ok (.iconst 0, 1) := by decide +kernel
theorem dX5_formatsOf_15 : decode cX5_formatsOf 15 = .ok (.istore_n 3, 1) := by decide +kernel
theorem dX5_formatsOf_16 : decode cX5_formatsOf 16 = .ok (.iconst (-1), 1) := by decide +kernel
theorem dX5_formatsOf_17 : decode cX5_formatsOf 17 = .ok (.istore 4, 2) := by decide +kernel
theorem dX5_formatsOf_19 : decode cX5_formatsOf 19 = .ok (.iconst 0, 1) := by decide +kernel
theorem dX5_formatsOf_20 : decode cX5_formatsOf 20 = .ok (.istore 5, 2) := by decide +kernel
theorem dX5_formatsOf_22 : decode cX5_formatsOf 22 = .ok (.iload 5, 2) := by decide +kernel
theorem dX5_formatsOf_24 : decode cX5_formatsOf 24 = .ok (.iload_n 2, 1) := by decide +kernel
theorem dX5_formatsOf_25 : decode cX5_formatsOf 25 = .ok (.if_icmp .ge 72, 3) := by decide +kernel
theorem dX5_formatsOf_28 : decode cX5_formatsOf 28 = .ok (.aload_n 0, 1) := by decide +kernel
theorem dX5_formatsOf_29 : decode cX5_formatsOf 29 = .ok (.getfield 19, 3) := by decide +kernel
theorem dX5_formatsOf_32 : decode cX5_formatsOf 32 = .ok (.getfield 162, 3) := by decide +kernel
theorem dX5_formatsOf_35 : decode cX5_formatsOf 35 = .ok (.iload 5, 2) := by decide +kernel
theorem dX5_formatsOf_37 : decode cX5_formatsOf 37 = .ok (.iaload, 1) := by decide +kernel
theorem dX5_formatsOf_38 : decode cX5_formatsOf 38 = .ok (.istore 6, 2) := by decide +kernel
theorem dX5_formatsOf_40 : decode cX5_formatsOf 40 = .ok (.iload 6, 2) := by decide +kernel
theorem dX5_formatsOf_42 : decode cX5_formatsOf 42 = .ok (.iload 4, 2) := by decide +kernel
theorem dX5_formatsOf_44 : decode cX5_formatsOf 44 = .ok (.if_icmp .lt 47, 3) := by decide +kernel
theorem dX5_formatsOf_47 : decode cX5_formatsOf 47 = .ok (.aload_n 0, 1) := by decide +kernel
theorem dX5_formatsOf_48 : decode cX5_formatsOf 48 = .ok (.iload 5, 2) := by decide +kernel
theorem dX5_formatsOf_50 : decode cX5_formatsOf 50 = .ok (.iload_n 1, 1) := by decide +kernel
theorem dX5_formatsOf_51 : decode cX5_formatsOf 51 = .ok (.invokevirtual 117, 3) := by decide +kernel
theorem dX5_formatsOf_54 : decode cX5_formatsOf 54 = .ok (.ifCond .eq 37, 3) := by decide +kernel
theorem dX5_formatsOf_57 : decode cX5_formatsOf 57 = .ok (.iload 6, 2) := by decide +kernel
theorem dX5_formatsOf_59 : decode cX5_formatsOf 59 = .ok (.iload 4, 2) := by decide +kernel
theorem dX5_formatsOf_61 : decode cX5_formatsOf 61 = .ok (.if_icmp .ne 7, 3) := by decide +kernel
theorem dX5_formatsOf_64 : decode cX5_formatsOf 64 = .ok (.iload_n 3, 1) := by decide +kernel
theorem dX5_formatsOf_65 : decode cX5_formatsOf 65 = .ok (.goto 4, 3) := by decide +kernel
theorem dX5_formatsOf_68 : decode cX5_formatsOf 68 = .ok (.iconst 0, 1) := by decide +kernel
theorem dX5_formatsOf_69 : decode cX5_formatsOf 69 = .ok (.istore 7, 2) := by decide +kernel
theorem dX5_formatsOf_71 : decode cX5_formatsOf 71 = .ok (.iload 7, 2) := by decide +kernel
theorem dX5_formatsOf_73 : decode cX5_formatsOf 73 = .ok (.iconst 1, 1) := by decide +kernel
theorem dX5_formatsOf_74 : decode cX5_formatsOf 74 = .ok (.aload_n 0, 1) := by decide +kernel
theorem dX5_formatsOf_75 : decode cX5_formatsOf 75 = .ok (.getfield 19, 3) := by decide +kernel
theorem dX5_formatsOf_78 : decode cX5_formatsOf 78 = .ok (.getfield 165, 3) := by decide +kernel
theorem dX5_formatsOf_81 : decode cX5_formatsOf 81 = .ok (.iload 5, 2) := by decide +kernel
theorem dX5_formatsOf_83 : decode cX5_formatsOf 83 = .ok (.iaload, 1) := by decide +kernel
theorem dX5_formatsOf_84 : decode cX5_formatsOf 84 = .ok (.ishl, 1) := by decide +kernel
theorem dX5_formatsOf_85 : decode cX5_formatsOf 85 = .ok (.ior, 1) := by decide +kernel
theorem dX5_formatsOf_86 : decode cX5_formatsOf 86 = .ok (.istore_n 3, 1) := by decide +kernel
theorem dX5_formatsOf_87 : decode cX5_formatsOf 87 = .ok (.iload 6, 2) := by decide +kernel
theorem dX5_formatsOf_89 : decode cX5_formatsOf 89 = .ok (.istore 4, 2) := by decide +kernel
theorem dX5_formatsOf_91 : decode cX5_formatsOf 91 = .ok (.iinc 5 1, 3) := by decide +kernel
theorem dX5_formatsOf_94 : decode cX5_formatsOf 94 = .ok (.goto (-72), 3) := by decide +kernel
theorem dX5_formatsOf_97 : decode cX5_formatsOf 97 = .ok (.iload_n 3, 1) := by decide +kernel
theorem dX5_formatsOf_98 : decode cX5_formatsOf 98 = .ok (.ireturn, 1) := by decide +kernel
theorem dX5_fits_0 : decode cX5_fits 0 = .ok (.aload_n 0, 1) := by decide +kernel
theorem dX5_fits_1 : decode cX5_fits 1 = .ok (.getfield 26, 3) := by decide +kernel
theorem dX5_fits_4 : decode cX5_fits 4 = .ok (.getfield 159, 3) := by decide +kernel
theorem dX5_fits_7 : decode cX5_fits 7 = .ok (.iload_n 2, 1) := by decide +kernel
theorem dX5_fits_8 : decode cX5_fits 8 = .ok (.iaload, 1) := by decide +kernel
theorem dX5_fits_9 : decode cX5_fits 9 = .ok (.istore_n 3, 1) := by decide +kernel
theorem dX5_fits_10 : decode cX5_fits 10 = .ok (.aload_n 0, 1) := by decide +kernel
theorem dX5_fits_11 : decode cX5_fits 11 = .ok (.getfield 19, 3) := by decide +kernel
theorem dX5_fits_14 : decode cX5_fits 14 = .ok (.getfield 146, 3) := by decide +kernel
theorem dX5_fits_17 : decode cX5_fits 17 = .ok (.iload_n 1, 1) := by decide +kernel
theorem dX5_fits_18 : decode cX5_fits 18 = .ok (.iaload, 1) := by decide +kernel
theorem dX5_fits_19 : decode cX5_fits 19 = .ok (.istore 4, 2) := by decide +kernel
theorem dX5_fits_21 : decode cX5_fits 21 = .ok (.aload_n 0, 1) := by decide +kernel
theorem dX5_fits_22 : decode cX5_fits 22 = .ok (.getfield 19, 3) := by decide +kernel
theorem dX5_fits_25 : decode cX5_fits 25 = .ok (.iload_n 1, 1) := by decide +kernel
theorem dX5_fits_26 : decode cX5_fits 26 = .ok (.iload_n 3, 1) := by decide +kernel
theorem dX5_fits_27 : decode cX5_fits 27 = .ok (.invokevirtual 168, 3) := by decide +kernel
theorem dX5_fits_30 : decode cX5_fits 30 = .ok (.istore 5, 2) := by decide +kernel
theorem dX5_fits_32 : decode cX5_fits 32 = .ok (.iload 5, 2) := by decide +kernel
theorem dX5_fits_34 : decode cX5_fits 34 = .ok (.ifCond .lt 12, 3) := by decide +kernel
theorem dX5_fits_37 : decode cX5_fits 37 = .ok (.iload 5, 2) := by decide +kernel
theorem dX5_fits_39 : decode cX5_fits 39 = .ok (.iload 4, 2) := by decide +kernel
theorem dX5_fits_41 : decode cX5_fits 41 = .ok (.iadd, 1) := by decide +kernel
theorem dX5_fits_42 : decode cX5_fits 42 = .ok (.iload_n 3, 1) := by decide +kernel
theorem dX5_fits_43 : decode cX5_fits 43 = .ok (.if_icmp .le 5, 3) := by decide +kernel
theorem dX5_fits_46 : decode cX5_fits 46 = .ok (.iconst 0, 1) := by decide +kernel
theorem dX5_fits_47 : decode cX5_fits 47 = .ok (.ireturn, 1) := by decide +kernel
theorem dX5_fits_48 : decode cX5_fits 48 = .ok (.iconst 0, 1) := by decide +kernel
theorem dX5_fits_49 : decode cX5_fits 49 = .ok (.istore 6, 2) := by decide +kernel
theorem dX5_fits_51 : decode cX5_fits 51 = .ok (.iload 6, 2) := by decide +kernel
theorem dX5_fits_53 : decode cX5_fits 53 = .ok (.iload 4, 2) := by decide +kernel
theorem dX5_fits_55 : decode cX5_fits 55 = .ok (.if_icmp .ge 49, 3) := by decide +kernel
theorem dX5_fits_58 : decode cX5_fits 58 = .ok (.aload_n 0, 1) := by decide +kernel
theorem dX5_fits_59 : decode cX5_fits 59 = .ok (.getfield 19, 3) := by decide +kernel
theorem dX5_fits_62 : decode cX5_fits 62 = .ok (.iload_n 1, 1) := by decide +kernel
theorem dX5_fits_63 : decode cX5_fits 63 = .ok (.iload 6, 2) := by decide +kernel
theorem dX5_fits_65 : decode cX5_fits 65 = .ok (.invokevirtual 151, 3) := by decide +kernel
theorem dX5_fits_68 : decode cX5_fits 68 = .ok (.istore 7, 2) := by decide +kernel
theorem dX5_fits_70 : decode cX5_fits 70 = .ok (.iload 7, 2) := by decide +kernel
theorem dX5_fits_72 : decode cX5_fits 72 = .ok (.sipush 256, 3) := by decide +kernel
theorem dX5_fits_75 : decode cX5_fits 75 = .ok (.if_icmp .eq 23, 3) := by decide +kernel
theorem dX5_fits_78 : decode cX5_fits 78 = .ok (.iload 7, 2) := by decide +kernel
theorem dX5_fits_80 : decode cX5_fits 80 = .ok (.aload_n 0, 1) := by decide +kernel
theorem dX5_fits_81 : decode cX5_fits 81 = .ok (.getfield 26, 3) := by decide +kernel
theorem dX5_fits_84 : decode cX5_fits 84 = .ok (.iload_n 2, 1) := by decide +kernel
theorem dX5_fits_85 : decode cX5_fits 85 = .ok (.iload 5, 2) := by decide +kernel
theorem dX5_fits_87 : decode cX5_fits 87 = .ok (.iload 6, 2) := by decide +kernel
theorem dX5_fits_89 : decode cX5_fits 89 = .ok (.iadd, 1) := by decide +kernel
theorem dX5_fits_90 : decode cX5_fits 90 = .ok (.invokevirtual 171, 3) := by decide +kernel
theorem dX5_fits_93 : decode cX5_fits 93 = .ok (.if_icmp .eq 5, 3) := by decide +kernel
theorem dX5_fits_96 : decode cX5_fits 96 = .ok (.iconst 0, 1) := by decide +kernel
theorem dX5_fits_97 : decode cX5_fits 97 = .ok (.ireturn, 1) := by decide +kernel
theorem dX5_fits_98 : decode cX5_fits 98 = .ok (.iinc 6 1, 3) := by decide +kernel
theorem dX5_fits_101 : decode cX5_fits 101 = .ok (.goto (-50), 3) := by decide +kernel
theorem dX5_fits_104 : decode cX5_fits 104 = .ok (.iconst 1, 1) := by decide +kernel
theorem dX5_fits_105 : decode cX5_fits 105 = .ok (.ireturn, 1) := by decide +kernel
theorem dX5_deepFormat_0 : decode cX5_deepFormat 0 = .ok (.aload_n 0, 1) := by decide +kernel
theorem dX5_deepFormat_1 : decode cX5_deepFormat 1 = .ok (.iload_n 1, 1) := by decide +kernel
theorem dX5_deepFormat_2 : decode cX5_deepFormat 2 = .ok (.aload_n 0, 1) := by decide +kernel
theorem dX5_deepFormat_3 : decode cX5_deepFormat 3 = .ok (.getfield 19, 3) := by decide +kernel
theorem dX5_deepFormat_6 : decode cX5_deepFormat 6 = .ok (.getfield 96, 3) := by decide +kernel
theorem dX5_deepFormat_9 : decode cX5_deepFormat 9 = .ok (.invokevirtual 143, 3) := by decide +kernel
theorem dX5_deepFormat_12 : decode cX5_deepFormat 12 = .ok (.istore_n 3, 1) := by decide +kernel
theorem dX5_deepFormat_13 : decode cX5_deepFormat 13 = .ok (.iload_n 3, 1) := by decide +kernel
theorem dX5_deepFormat_14 : decode cX5_deepFormat 14 = .ok (.invokestatic 120, 3) := by decide +kernel
theorem dX5_deepFormat_17 : decode cX5_deepFormat 17 = .ok (.ifCond .eq 8, 3) := by decide +kernel
theorem dX5_deepFormat_20 : decode cX5_deepFormat 20 = .ok (.iload_n 2, 1) := by decide +kernel
theorem dX5_deepFormat_21 : decode cX5_deepFormat 21 = .ok (.iconst 3, 1) := by decide +kernel
theorem dX5_deepFormat_22 : decode cX5_deepFormat 22 = .ok (.if_icmp .lt 5, 3) := by decide +kernel
theorem dX5_deepFormat_25 : decode cX5_deepFormat 25 = .ok (.iload_n 3, 1) := by decide +kernel
theorem dX5_deepFormat_26 : decode cX5_deepFormat 26 = .ok (.ireturn, 1) := by decide +kernel
theorem dX5_deepFormat_27 : decode cX5_deepFormat 27 = .ok (.iconst 0, 1) := by decide +kernel
theorem dX5_deepFormat_28 : decode cX5_deepFormat 28 = .ok (.istore 4, 2) := by decide +kernel
theorem dX5_deepFormat_30 : decode cX5_deepFormat 30 = .ok (.iconst 0, 1) := by decide +kernel
theorem dX5_deepFormat_31 : decode cX5_deepFormat 31 = .ok (.istore 5, 2) := by decide +kernel
theorem dX5_deepFormat_33 : decode cX5_deepFormat 33 = .ok (.iload 5, 2) := by decide +kernel
theorem dX5_deepFormat_35 : decode cX5_deepFormat 35 = .ok (.aload_n 0, 1) := by decide +kernel
theorem dX5_deepFormat_36 : decode cX5_deepFormat 36 = .ok (.getfield 26, 3) := by decide +kernel
theorem dX5_deepFormat_39 : decode cX5_deepFormat 39 = .ok (.getfield 142, 3) := by decide +kernel
theorem dX5_deepFormat_42 : decode cX5_deepFormat 42 = .ok (.if_icmp .ge 51, 3) := by decide +kernel
theorem dX5_deepFormat_45 : decode cX5_deepFormat 45 = .ok (.aload_n 0, 1) := by decide +kernel
theorem dX5_deepFormat_46 : decode cX5_deepFormat 46 = .ok (.getfield 26, 3) := by decide +kernel
theorem dX5_deepFormat_49 : decode cX5_deepFormat 49 = .ok (.getfield 174, 3) := by decide +kernel
theorem dX5_deepFormat_52 : decode cX5_deepFormat 52 = .ok (.iload 5, 2) := by decide +kernel
theorem dX5_deepFormat_54 : decode cX5_deepFormat 54 = .ok (.iaload, 1) := by decide +kernel
theorem dX5_deepFormat_55 : decode cX5_deepFormat 55 = .ok (.iload_n 1, 1) := by decide +kernel
theorem dX5_deepFormat_56 : decode cX5_deepFormat 56 = .ok (.if_icmp .ne 31, 3) := by decide +kernel
theorem dX5_deepFormat_59 : decode cX5_deepFormat 59 = .ok (.aload_n 0, 1) := by decide +kernel
theorem dX5_deepFormat_60 : decode cX5_deepFormat 60 = .ok (.iload 5, 2) := by decide +kernel
theorem dX5_deepFormat_62 : decode cX5_deepFormat 62 = .ok (.iload_n 2, 1) := by decide +kernel
theorem dX5_deepFormat_63 : decode cX5_deepFormat 63 = .ok (.iconst 1, 1) := by decide +kernel
theorem dX5_deepFormat_64 : decode cX5_deepFormat 64 = .ok (.iadd, 1) := by decide +kernel
theorem dX5_deepFormat_65 : decode cX5_deepFormat 65 = .ok (.invokevirtual 126, 3) := by decide +kernel
theorem dX5_deepFormat_68 : decode cX5_deepFormat 68 = .ok (.istore 6, 2) := by decide +kernel
theorem dX5_deepFormat_70 : decode cX5_deepFormat 70 = .ok (.iload 6, 2) := by decide +kernel
theorem dX5_deepFormat_72 : decode cX5_deepFormat 72 = .ok (.invokestatic 120, 3) := by decide +kernel
theorem dX5_deepFormat_75 : decode cX5_deepFormat 75 = .ok (.ifCond .eq 12, 3) := by decide +kernel
theorem dX5_deepFormat_78 : decode cX5_deepFormat 78 = .ok (.iload 4, 2) := by decide +kernel
theorem dX5_deepFormat_80 : decode cX5_deepFormat 80 = .ok (.iconst 1, 1) := by decide +kernel
theorem dX5_deepFormat_81 : decode cX5_deepFormat 81 = .ok (.iload 6, 2) := by decide +kernel
theorem dX5_deepFormat_83 : decode cX5_deepFormat 83 = .ok (.ishl, 1) := by decide +kernel
theorem dX5_deepFormat_84 : decode cX5_deepFormat 84 = .ok (.ior, 1) := by decide +kernel
theorem dX5_deepFormat_85 : decode cX5_deepFormat 85 = .ok (.istore 4, 2) := by decide +kernel
theorem dX5_deepFormat_87 : decode cX5_deepFormat 87 = .ok (.iinc 5 1, 3) := by decide +kernel
theorem dX5_deepFormat_90 : decode cX5_deepFormat 90 = .ok (.goto (-57), 3) := by decide +kernel
theorem dX5_deepFormat_93 : decode cX5_deepFormat 93 = .ok (.aload_n 0, 1) := by decide +kernel
theorem dX5_deepFormat_94 : decode cX5_deepFormat 94 = .ok (.getfield 33, 3) := by decide +kernel
theorem dX5_deepFormat_97 : decode cX5_deepFormat 97 = .ok (.iload_n 3, 1) := by decide +kernel
theorem dX5_deepFormat_98 : decode cX5_deepFormat 98 = .ok (.iload 4, 2) := by decide +kernel
theorem dX5_deepFormat_100 : decode cX5_deepFormat 100 = .ok (.invokevirtual 177, 3) := by decide +kernel
theorem dX5_deepFormat_103 : decode cX5_deepFormat 103 = .ok (.ireturn, 1) := by decide +kernel
