theorem d_X_in_0 : decode b_X_in 0 = .ok (.iload_n 0, 1) := by decide +kernel
theorem d_X_in_1 : decode b_X_in 1 = .ok (.iload_n 1, 1) := by decide +kernel
theorem d_X_in_2 : decode b_X_in 2 = .ok (.if_icmp .lt 12, 3) := by decide +kernel
theorem d_X_in_5 : decode b_X_in 5 = .ok (.iload_n 0, 1) := by decide +kernel
theorem d_X_in_6 : decode b_X_in 6 = .ok (.iload_n 2, 1) := by decide +kernel
theorem d_X_in_7 : decode b_X_in 7 = .ok (.if_icmp .gt 7, 3) := by decide +kernel
theorem d_X_in_10 : decode b_X_in 10 = .ok (.iconst 1, 1) := by decide +kernel
theorem d_X_in_11 : decode b_X_in 11 = .ok (.goto 4, 3) := by decide +kernel
theorem d_X_in_14 : decode b_X_in 14 = .ok (.iconst 0, 1) := by decide +kernel
theorem d_X_in_15 : decode b_X_in 15 = .ok (.ireturn, 1) := by decide +kernel
theorem d_X_thrown_0 : decode b_X_thrown 0 = .ok (.aload_n 0, 1) := by decide +kernel
theorem d_X_thrown_1 : decode b_X_thrown 1 = .ok (.getfield 22, 3) := by decide +kernel
theorem d_X_thrown_4 : decode b_X_thrown 4 = .ok (.ireturn, 1) := by decide +kernel
theorem d_X_good_0 : decode b_X_good 0 = .ok (.aload_n 0, 1) := by decide +kernel
theorem d_X_good_1 : decode b_X_good 1 = .ok (.iload_n 1, 1) := by decide +kernel
theorem d_X_good_2 : decode b_X_good 2 = .ok (.ifCond .eq 7, 3) := by decide +kernel
theorem d_X_good_5 : decode b_X_good 5 = .ok (.iconst 0, 1) := by decide +kernel
theorem d_X_good_6 : decode b_X_good 6 = .ok (.goto 4, 3) := by decide +kernel
theorem d_X_good_9 : decode b_X_good 9 = .ok (.iload_n 2, 1) := by decide +kernel
theorem d_X_good_10 : decode b_X_good 10 = .ok (.putfield 22, 3) := by decide +kernel
theorem d_X_good_13 : decode b_X_good 13 = .ok (.iload_n 1, 1) := by decide +kernel
theorem d_X_good_14 : decode b_X_good 14 = .ok (.ireturn, 1) := by decide +kernel
theorem d_X_read_0 : decode b_X_read 0 = .ok (.iload_n 1, 1) := by decide +kernel
theorem d_X_read_1 : decode b_X_read 1 = .ok (.sipush 1023, 3) := by decide +kernel
theorem d_X_read_4 : decode b_X_read 4 = .ok (.iand, 1) := by decide +kernel
theorem d_X_read_5 : decode b_X_read 5 = .ok (.istore_n 2, 1) := by decide +kernel
theorem d_X_read_6 : decode b_X_read 6 = .ok (.iload_n 2, 1) := by decide +kernel
theorem d_X_read_7 : decode b_X_read 7 = .ok (.sipush 1008, 3) := by decide +kernel
theorem d_X_read_10 : decode b_X_read 10 = .ok (.if_icmp .ge 10, 3) := by decide +kernel
theorem d_X_read_13 : decode b_X_read 13 = .ok (.aload_n 0, 1) := by decide +kernel
theorem d_X_read_14 : decode b_X_read 14 = .ok (.getfield 7, 3) := by decide +kernel
theorem d_X_read_17 : decode b_X_read 17 = .ok (.iload_n 2, 1) := by decide +kernel
theorem d_X_read_18 : decode b_X_read 18 = .ok (.iaload, 1) := by decide +kernel
theorem d_X_read_19 : decode b_X_read 19 = .ok (.ireturn, 1) := by decide +kernel
theorem d_X_read_20 : decode b_X_read 20 = .ok (.iload_n 2, 1) := by decide +kernel
theorem d_X_read_21 : decode b_X_read 21 = .ok (.sipush 1010, 3) := by decide +kernel
theorem d_X_read_24 : decode b_X_read 24 = .ok (.if_icmp .ne 8, 3) := by decide +kernel
theorem d_X_read_27 : decode b_X_read 27 = .ok (.aload_n 0, 1) := by decide +kernel
theorem d_X_read_28 : decode b_X_read 28 = .ok (.getfield 26, 3) := by decide +kernel
theorem d_X_read_31 : decode b_X_read 31 = .ok (.ireturn, 1) := by decide +kernel
theorem d_X_read_32 : decode b_X_read 32 = .ok (.iload_n 2, 1) := by decide +kernel
theorem d_X_read_33 : decode b_X_read 33 = .ok (.sipush 1010, 3) := by decide +kernel
theorem d_X_read_36 : decode b_X_read 36 = .ok (.if_icmp .le 5, 3) := by decide +kernel
theorem d_X_read_39 : decode b_X_read 39 = .ok (.iconst 0, 1) := by decide +kernel
theorem d_X_read_40 : decode b_X_read 40 = .ok (.ireturn, 1) := by decide +kernel
theorem d_X_read_41 : decode b_X_read 41 = .ok (.aload_n 0, 1) := by decide +kernel
theorem d_X_read_42 : decode b_X_read 42 = .ok (.getfield 29, 3) := by decide +kernel
theorem d_X_read_45 : decode b_X_read 45 = .ok (.istore_n 3, 1) := by decide +kernel
theorem d_X_read_46 : decode b_X_read 46 = .ok (.iload_n 2, 1) := by decide +kernel
theorem d_X_read_47 : decode b_X_read 47 = .ok (.sipush 1009, 3) := by decide +kernel
theorem d_X_read_50 : decode b_X_read 50 = .ok (.if_icmp .ne 8, 3) := by decide +kernel
theorem d_X_read_53 : decode b_X_read 53 = .ok (.aload_n 0, 1) := by decide +kernel
theorem d_X_read_54 : decode b_X_read 54 = .ok (.iconst 0, 1) := by decide +kernel
theorem d_X_read_55 : decode b_X_read 55 = .ok (.putfield 29, 3) := by decide +kernel
theorem d_X_read_58 : decode b_X_read 58 = .ok (.iload_n 3, 1) := by decide +kernel
theorem d_X_read_59 : decode b_X_read 59 = .ok (.ireturn, 1) := by decide +kernel
theorem d_X_mode1_0 : decode b_X_mode1 0 = .ok (.iload_n 0, 1) := by decide +kernel
theorem d_X_mode1_1 : decode b_X_mode1 1 = .ok (.ifCond .ne 8, 3) := by decide +kernel
theorem d_X_mode1_4 : decode b_X_mode1 4 = .ok (.bipush 7, 2) := by decide +kernel
theorem d_X_mode1_6 : decode b_X_mode1 6 = .ok (.goto 61, 3) := by decide +kernel
theorem d_X_mode1_9 : decode b_X_mode1 9 = .ok (.iload_n 0, 1) := by decide +kernel
theorem d_X_mode1_10 : decode b_X_mode1 10 = .ok (.iconst 1, 1) := by decide +kernel
theorem d_X_mode1_11 : decode b_X_mode1 11 = .ok (.if_icmp .ne 7, 3) := by decide +kernel
theorem d_X_mode1_14 : decode b_X_mode1 14 = .ok (.iconst 1, 1) := by decide +kernel
theorem d_X_mode1_15 : decode b_X_mode1 15 = .ok (.goto 52, 3) := by decide +kernel
theorem d_X_mode1_18 : decode b_X_mode1 18 = .ok (.iload_n 0, 1) := by decide +kernel
theorem d_X_mode1_19 : decode b_X_mode1 19 = .ok (.iconst 2, 1) := by decide +kernel
theorem d_X_mode1_20 : decode b_X_mode1 20 = .ok (.if_icmp .ne 7, 3) := by decide +kernel
theorem d_X_mode1_23 : decode b_X_mode1 23 = .ok (.iconst 0, 1) := by decide +kernel
theorem d_X_mode1_24 : decode b_X_mode1 24 = .ok (.goto 43, 3) := by decide +kernel
theorem d_X_mode1_27 : decode b_X_mode1 27 = .ok (.iload_n 0, 1) := by decide +kernel
theorem d_X_mode1_28 : decode b_X_mode1 28 = .ok (.iconst 3, 1) := by decide +kernel
theorem d_X_mode1_29 : decode b_X_mode1 29 = .ok (.if_icmp .ne 7, 3) := by decide +kernel
theorem d_X_mode1_32 : decode b_X_mode1 32 = .ok (.iconst 4, 1) := by decide +kernel
theorem d_X_mode1_33 : decode b_X_mode1 33 = .ok (.goto 34, 3) := by decide +kernel
theorem d_X_mode1_36 : decode b_X_mode1 36 = .ok (.iload_n 0, 1) := by decide +kernel
theorem d_X_mode1_37 : decode b_X_mode1 37 = .ok (.iconst 4, 1) := by decide +kernel
theorem d_X_mode1_38 : decode b_X_mode1 38 = .ok (.if_icmp .ne 8, 3) := by decide +kernel
theorem d_X_mode1_41 : decode b_X_mode1 41 = .ok (.bipush 8, 2) := by decide +kernel
theorem d_X_mode1_43 : decode b_X_mode1 43 = .ok (.goto 24, 3) := by decide +kernel
theorem d_X_mode1_46 : decode b_X_mode1 46 = .ok (.iload_n 0, 1) := by decide +kernel
theorem d_X_mode1_47 : decode b_X_mode1 47 = .ok (.iconst 5, 1) := by decide +kernel
theorem d_X_mode1_48 : decode b_X_mode1 48 = .ok (.if_icmp .ne 7, 3) := by decide +kernel
theorem d_X_mode1_51 : decode b_X_mode1 51 = .ok (.iconst 2, 1) := by decide +kernel
theorem d_X_mode1_52 : decode b_X_mode1 52 = .ok (.goto 15, 3) := by decide +kernel
theorem d_X_mode1_55 : decode b_X_mode1 55 = .ok (.iload_n 0, 1) := by decide +kernel
theorem d_X_mode1_56 : decode b_X_mode1 56 = .ok (.bipush 6, 2) := by decide +kernel
theorem d_X_mode1_58 : decode b_X_mode1 58 = .ok (.if_icmp .ne 8, 3) := by decide +kernel
theorem d_X_mode1_61 : decode b_X_mode1 61 = .ok (.bipush 6, 2) := by decide +kernel
theorem d_X_mode1_63 : decode b_X_mode1 63 = .ok (.goto 4, 3) := by decide +kernel
theorem d_X_mode1_66 : decode b_X_mode1 66 = .ok (.iconst 5, 1) := by decide +kernel
theorem d_X_mode1_67 : decode b_X_mode1 67 = .ok (.ireturn, 1) := by decide +kernel
theorem d_X_status_0 : decode b_X_status 0 = .ok (.sipush 128, 3) := by decide +kernel
theorem d_X_status_3 : decode b_X_status 3 = .ok (.aload_n 0, 1) := by decide +kernel
theorem d_X_status_4 : decode b_X_status 4 = .ok (.getfield 16, 3) := by decide +kernel
theorem d_X_status_7 : decode b_X_status 7 = .ok (.iconst 5, 1) := by decide +kernel
theorem d_X_status_8 : decode b_X_status 8 = .ok (.iaload, 1) := by decide +kernel
theorem d_X_status_9 : decode b_X_status 9 = .ok (.imul, 1) := by decide +kernel
theorem d_X_status_10 : decode b_X_status 10 = .ok (.bipush 64, 2) := by decide +kernel
theorem d_X_status_12 : decode b_X_status 12 = .ok (.aload_n 0, 1) := by decide +kernel
theorem d_X_status_13 : decode b_X_status 13 = .ok (.getfield 16, 3) := by decide +kernel
theorem d_X_status_16 : decode b_X_status 16 = .ok (.bipush 6, 2) := by decide +kernel
theorem d_X_status_18 : decode b_X_status 18 = .ok (.iaload, 1) := by decide +kernel
theorem d_X_status_19 : decode b_X_status 19 = .ok (.imul, 1) := by decide +kernel
theorem d_X_status_20 : decode b_X_status 20 = .ok (.iadd, 1) := by decide +kernel
theorem d_X_status_21 : decode b_X_status 21 = .ok (.bipush 48, 2) := by decide +kernel
theorem d_X_status_23 : decode b_X_status 23 = .ok (.iadd, 1) := by decide +kernel
theorem d_X_status_24 : decode b_X_status 24 = .ok (.iconst 2, 1) := by decide +kernel
theorem d_X_status_25 : decode b_X_status 25 = .ok (.aload_n 0, 1) := by decide +kernel
theorem d_X_status_26 : decode b_X_status 26 = .ok (.getfield 16, 3) := by decide +kernel
theorem d_X_status_29 : decode b_X_status 29 = .ok (.bipush 7, 2) := by decide +kernel
theorem d_X_status_31 : decode b_X_status 31 = .ok (.iaload, 1) := by decide +kernel
theorem d_X_status_32 : decode b_X_status 32 = .ok (.imul, 1) := by decide +kernel
theorem d_X_status_33 : decode b_X_status 33 = .ok (.iadd, 1) := by decide +kernel
theorem d_X_status_34 : decode b_X_status 34 = .ok (.aload_n 0, 1) := by decide +kernel
theorem d_X_status_35 : decode b_X_status 35 = .ok (.getfield 16, 3) := by decide +kernel
theorem d_X_status_38 : decode b_X_status 38 = .ok (.bipush 8, 2) := by decide +kernel
theorem d_X_status_40 : decode b_X_status 40 = .ok (.iaload, 1) := by decide +kernel
theorem d_X_status_41 : decode b_X_status 41 = .ok (.iadd, 1) := by decide +kernel
theorem d_X_status_42 : decode b_X_status 42 = .ok (.ireturn, 1) := by decide +kernel
theorem d_X_setStatus_0 : decode b_X_setStatus 0 = .ok (.aload_n 0, 1) := by decide +kernel
theorem d_X_setStatus_1 : decode b_X_setStatus 1 = .ok (.getfield 16, 3) := by decide +kernel
theorem d_X_setStatus_4 : decode b_X_setStatus 4 = .ok (.iconst 5, 1) := by decide +kernel
theorem d_X_setStatus_5 : decode b_X_setStatus 5 = .ok (.iload_n 1, 1) := by decide +kernel
theorem d_X_setStatus_6 : decode b_X_setStatus 6 = .ok (.bipush 7, 2) := by decide +kernel
theorem d_X_setStatus_8 : decode b_X_setStatus 8 = .ok (.ishr, 1) := by decide +kernel
theorem d_X_setStatus_9 : decode b_X_setStatus 9 = .ok (.iconst 1, 1) := by decide +kernel
theorem d_X_setStatus_10 : decode b_X_setStatus 10 = .ok (.iand, 1) := by decide +kernel
theorem d_X_setStatus_11 : decode b_X_setStatus 11 = .ok (.iastore, 1) := by decide +kernel
theorem d_X_setStatus_12 : decode b_X_setStatus 12 = .ok (.aload_n 0, 1) := by decide +kernel
theorem d_X_setStatus_13 : decode b_X_setStatus 13 = .ok (.getfield 16, 3) := by decide +kernel
theorem d_X_setStatus_16 : decode b_X_setStatus 16 = .ok (.bipush 6, 2) := by decide +kernel
theorem d_X_setStatus_18 : decode b_X_setStatus 18 = .ok (.iload_n 1, 1) := by decide +kernel
theorem d_X_setStatus_19 : decode b_X_setStatus 19 = .ok (.bipush 6, 2) := by decide +kernel
theorem d_X_setStatus_21 : decode b_X_setStatus 21 = .ok (.ishr, 1) := by decide +kernel
theorem d_X_setStatus_22 : decode b_X_setStatus 22 = .ok (.iconst 1, 1) := by decide +kernel
theorem d_X_setStatus_23 : decode b_X_setStatus 23 = .ok (.iand, 1) := by decide +kernel
theorem d_X_setStatus_24 : decode b_X_setStatus 24 = .ok (.iastore, 1) := by decide +kernel
theorem d_X_setStatus_25 : decode b_X_setStatus 25 = .ok (.aload_n 0, 1) := by decide +kernel
theorem d_X_setStatus_26 : decode b_X_setStatus 26 = .ok (.getfield 16, 3) := by decide +kernel
theorem d_X_setStatus_29 : decode b_X_setStatus 29 = .ok (.bipush 7, 2) := by decide +kernel
theorem d_X_setStatus_31 : decode b_X_setStatus 31 = .ok (.iload_n 1, 1) := by decide +kernel
theorem d_X_setStatus_32 : decode b_X_setStatus 32 = .ok (.iconst 1, 1) := by decide +kernel
theorem d_X_setStatus_33 : decode b_X_setStatus 33 = .ok (.ishr, 1) := by decide +kernel
theorem d_X_setStatus_34 : decode b_X_setStatus 34 = .ok (.iconst 1, 1) := by decide +kernel
theorem d_X_setStatus_35 : decode b_X_setStatus 35 = .ok (.iand, 1) := by decide +kernel
theorem d_X_setStatus_36 : decode b_X_setStatus 36 = .ok (.iastore, 1) := by decide +kernel
theorem d_X_setStatus_37 : decode b_X_setStatus 37 = .ok (.aload_n 0, 1) := by decide +kernel
theorem d_X_setStatus_38 : decode b_X_setStatus 38 = .ok (.getfield 16, 3) := by decide +kernel
theorem d_X_setStatus_41 : decode b_X_setStatus 41 = .ok (.bipush 8, 2) := by decide +kernel
theorem d_X_setStatus_43 : decode b_X_setStatus 43 = .ok (.iload_n 1, 1) := by decide +kernel
theorem d_X_setStatus_44 : decode b_X_setStatus 44 = .ok (.iconst 1, 1) := by decide +kernel
theorem d_X_setStatus_45 : decode b_X_setStatus 45 = .ok (.iand, 1) := by decide +kernel
theorem d_X_setStatus_46 : decode b_X_setStatus 46 = .ok (.iastore, 1) := by decide +kernel
theorem d_X_setStatus_47 : decode b_X_setStatus 47 = .ok (.return_, 1) := by decide +kernel
theorem d_X_set_0 : decode b_X_set 0 = .ok (.aload_n 0, 1) := by decide +kernel
theorem d_X_set_1 : decode b_X_set 1 = .ok (.getfield 16, 3) := by decide +kernel
theorem d_X_set_4 : decode b_X_set 4 = .ok (.bipush 7, 2) := by decide +kernel
theorem d_X_set_6 : decode b_X_set 6 = .ok (.iload_n 1, 1) := by decide +kernel
theorem d_X_set_7 : decode b_X_set 7 = .ok (.ifCond .ne 7, 3) := by decide +kernel
theorem d_X_set_10 : decode b_X_set 10 = .ok (.iconst 1, 1) := by decide +kernel
theorem d_X_set_11 : decode b_X_set 11 = .ok (.goto 4, 3) := by decide +kernel
theorem d_X_set_14 : decode b_X_set 14 = .ok (.iconst 0, 1) := by decide +kernel
theorem d_X_set_15 : decode b_X_set 15 = .ok (.iastore, 1) := by decide +kernel
theorem d_X_set_16 : decode b_X_set 16 = .ok (.aload_n 0, 1) := by decide +kernel
theorem d_X_set_17 : decode b_X_set 17 = .ok (.getfield 16, 3) := by decide +kernel
theorem d_X_set_20 : decode b_X_set 20 = .ok (.iconst 5, 1) := by decide +kernel
theorem d_X_set_21 : decode b_X_set 21 = .ok (.iload_n 1, 1) := by decide +kernel
theorem d_X_set_22 : decode b_X_set 22 = .ok (.bipush 7, 2) := by decide +kernel
theorem d_X_set_24 : decode b_X_set 24 = .ok (.ishr, 1) := by decide +kernel
theorem d_X_set_25 : decode b_X_set 25 = .ok (.iastore, 1) := by decide +kernel
theorem d_X_set_26 : decode b_X_set 26 = .ok (.return_, 1) := by decide +kernel
theorem d_X_put3_0 : decode b_X_put3 0 = .ok (.aload_n 0, 1) := by decide +kernel
theorem d_X_put3_1 : decode b_X_put3 1 = .ok (.getfield 16, 3) := by decide +kernel
theorem d_X_put3_4 : decode b_X_put3 4 = .ok (.iload_n 1, 1) := by decide +kernel
theorem d_X_put3_5 : decode b_X_put3 5 = .ok (.iload_n 2, 1) := by decide +kernel
theorem d_X_put3_6 : decode b_X_put3 6 = .ok (.sipush 255, 3) := by decide +kernel
theorem d_X_put3_9 : decode b_X_put3 9 = .ok (.iand, 1) := by decide +kernel
theorem d_X_put3_10 : decode b_X_put3 10 = .ok (.iastore, 1) := by decide +kernel
theorem d_X_put3_11 : decode b_X_put3 11 = .ok (.iload_n 3, 1) := by decide +kernel
theorem d_X_put3_12 : decode b_X_put3 12 = .ok (.ifCond .eq 13, 3) := by decide +kernel
theorem d_X_put3_15 : decode b_X_put3 15 = .ok (.aload_n 0, 1) := by decide +kernel
theorem d_X_put3_16 : decode b_X_put3 16 = .ok (.aload_n 0, 1) := by decide +kernel
theorem d_X_put3_17 : decode b_X_put3 17 = .ok (.getfield 16, 3) := by decide +kernel
theorem d_X_put3_20 : decode b_X_put3 20 = .ok (.iload_n 1, 1) := by decide +kernel
theorem d_X_put3_21 : decode b_X_put3 21 = .ok (.iaload, 1) := by decide +kernel
theorem d_X_put3_22 : decode b_X_put3 22 = .ok (.invokevirtual 66, 3) := by decide +kernel
theorem d_X_put3_25 : decode b_X_put3 25 = .ok (.return_, 1) := by decide +kernel
theorem d_X_compare_0 : decode b_X_compare 0 = .ok (.aload_n 0, 1) := by decide +kernel
theorem d_X_compare_1 : decode b_X_compare 1 = .ok (.getfield 16, 3) := by decide +kernel
theorem d_X_compare_4 : decode b_X_compare 4 = .ok (.bipush 8, 2) := by decide +kernel
theorem d_X_compare_6 : decode b_X_compare 6 = .ok (.iload_n 1, 1) := by decide +kernel
theorem d_X_compare_7 : decode b_X_compare 7 = .ok (.iload_n 2, 1) := by decide +kernel
theorem d_X_compare_8 : decode b_X_compare 8 = .ok (.if_icmp .lt 7, 3) := by decide +kernel
theorem d_X_compare_11 : decode b_X_compare 11 = .ok (.iconst 1, 1) := by decide +kernel
theorem d_X_compare_12 : decode b_X_compare 12 = .ok (.goto 4, 3) := by decide +kernel
theorem d_X_compare_15 : decode b_X_compare 15 = .ok (.iconst 0, 1) := by decide +kernel
theorem d_X_compare_16 : decode b_X_compare 16 = .ok (.iastore, 1) := by decide +kernel
theorem d_X_compare_17 : decode b_X_compare 17 = .ok (.aload_n 0, 1) := by decide +kernel
theorem d_X_compare_18 : decode b_X_compare 18 = .ok (.iload_n 1, 1) := by decide +kernel
theorem d_X_compare_19 : decode b_X_compare 19 = .ok (.iload_n 2, 1) := by decide +kernel
theorem d_X_compare_20 : decode b_X_compare 20 = .ok (.isub, 1) := by decide +kernel
theorem d_X_compare_21 : decode b_X_compare 21 = .ok (.sipush 255, 3) := by decide +kernel
theorem d_X_compare_24 : decode b_X_compare 24 = .ok (.iand, 1) := by decide +kernel
theorem d_X_compare_25 : decode b_X_compare 25 = .ok (.invokevirtual 66, 3) := by decide +kernel
theorem d_X_compare_28 : decode b_X_compare 28 = .ok (.return_, 1) := by decide +kernel
theorem d_X_add_0 : decode b_X_add 0 = .ok (.aload_n 0, 1) := by decide +kernel
theorem d_X_add_1 : decode b_X_add 1 = .ok (.getfield 16, 3) := by decide +kernel
theorem d_X_add_4 : decode b_X_add 4 = .ok (.iconst 0, 1) := by decide +kernel
theorem d_X_add_5 : decode b_X_add 5 = .ok (.iaload, 1) := by decide +kernel
theorem d_X_add_6 : decode b_X_add 6 = .ok (.iload_n 1, 1) := by decide +kernel
theorem d_X_add_7 : decode b_X_add 7 = .ok (.iadd, 1) := by decide +kernel
theorem d_X_add_8 : decode b_X_add 8 = .ok (.aload_n 0, 1) := by decide +kernel
theorem d_X_add_9 : decode b_X_add 9 = .ok (.getfield 16, 3) := by decide +kernel
theorem d_X_add_12 : decode b_X_add 12 = .ok (.bipush 8, 2) := by decide +kernel
theorem d_X_add_14 : decode b_X_add 14 = .ok (.iaload, 1) := by decide +kernel
theorem d_X_add_15 : decode b_X_add 15 = .ok (.iadd, 1) := by decide +kernel
theorem d_X_add_16 : decode b_X_add 16 = .ok (.istore_n 2, 1) := by decide +kernel
theorem d_X_add_17 : decode b_X_add 17 = .ok (.aload_n 0, 1) := by decide +kernel
theorem d_X_add_18 : decode b_X_add 18 = .ok (.getfield 16, 3) := by decide +kernel
theorem d_X_add_21 : decode b_X_add 21 = .ok (.bipush 6, 2) := by decide +kernel
theorem d_X_add_23 : decode b_X_add 23 = .ok (.aload_n 0, 1) := by decide +kernel
theorem d_X_add_24 : decode b_X_add 24 = .ok (.getfield 16, 3) := by decide +kernel
theorem d_X_add_27 : decode b_X_add 27 = .ok (.iconst 0, 1) := by decide +kernel
theorem d_X_add_28 : decode b_X_add 28 = .ok (.iaload, 1) := by decide +kernel
theorem d_X_add_29 : decode b_X_add 29 = .ok (.iload_n 2, 1) := by decide +kernel
theorem d_X_add_30 : decode b_X_add 30 = .ok (.ixor, 1) := by decide +kernel
theorem d_X_add_31 : decode b_X_add 31 = .ok (.iload_n 1, 1) := by decide +kernel
theorem d_X_add_32 : decode b_X_add 32 = .ok (.iload_n 2, 1) := by decide +kernel
theorem d_X_add_33 : decode b_X_add 33 = .ok (.ixor, 1) := by decide +kernel
theorem d_X_add_34 : decode b_X_add 34 = .ok (.iand, 1) := by decide +kernel
theorem d_X_add_35 : decode b_X_add 35 = .ok (.sipush 128, 3) := by decide +kernel
theorem d_X_add_38 : decode b_X_add 38 = .ok (.iand, 1) := by decide +kernel
theorem d_X_add_39 : decode b_X_add 39 = .ok (.ifCond .eq 7, 3) := by decide +kernel
theorem d_X_add_42 : decode b_X_add 42 = .ok (.iconst 1, 1) := by decide +kernel
theorem d_X_add_43 : decode b_X_add 43 = .ok (.goto 4, 3) := by decide +kernel
theorem d_X_add_46 : decode b_X_add 46 = .ok (.iconst 0, 1) := by decide +kernel
theorem d_X_add_47 : decode b_X_add 47 = .ok (.iastore, 1) := by decide +kernel
theorem d_X_add_48 : decode b_X_add 48 = .ok (.aload_n 0, 1) := by decide +kernel
theorem d_X_add_49 : decode b_X_add 49 = .ok (.getfield 16, 3) := by decide +kernel
theorem d_X_add_52 : decode b_X_add 52 = .ok (.bipush 8, 2) := by decide +kernel
theorem d_X_add_54 : decode b_X_add 54 = .ok (.iload_n 2, 1) := by decide +kernel
theorem d_X_add_55 : decode b_X_add 55 = .ok (.bipush 8, 2) := by decide +kernel
theorem d_X_add_57 : decode b_X_add 57 = .ok (.ishr, 1) := by decide +kernel
theorem d_X_add_58 : decode b_X_add 58 = .ok (.iastore, 1) := by decide +kernel
theorem d_X_add_59 : decode b_X_add 59 = .ok (.aload_n 0, 1) := by decide +kernel
theorem d_X_add_60 : decode b_X_add 60 = .ok (.iconst 0, 1) := by decide +kernel
theorem d_X_add_61 : decode b_X_add 61 = .ok (.iload_n 2, 1) := by decide +kernel
theorem d_X_add_62 : decode b_X_add 62 = .ok (.iconst 1, 1) := by decide +kernel
theorem d_X_add_63 : decode b_X_add 63 = .ok (.invokevirtual 70, 3) := by decide +kernel
theorem d_X_add_66 : decode b_X_add 66 = .ok (.return_, 1) := by decide +kernel
theorem d_X_shifted_0 : decode b_X_shifted 0 = .ok (.aload_n 0, 1) := by decide +kernel
theorem d_X_shifted_1 : decode b_X_shifted 1 = .ok (.getfield 16, 3) := by decide +kernel
theorem d_X_shifted_4 : decode b_X_shifted 4 = .ok (.bipush 8, 2) := by decide +kernel
theorem d_X_shifted_6 : decode b_X_shifted 6 = .ok (.iaload, 1) := by decide +kernel
theorem d_X_shifted_7 : decode b_X_shifted 7 = .ok (.istore_n 3, 1) := by decide +kernel
theorem d_X_shifted_8 : decode b_X_shifted 8 = .ok (.iload_n 1, 1) := by decide +kernel
theorem d_X_shifted_9 : decode b_X_shifted 9 = .ok (.iconst 2, 1) := by decide +kernel
theorem d_X_shifted_10 : decode b_X_shifted 10 = .ok (.if_icmp .ge 17, 3) := by decide +kernel
theorem d_X_shifted_13 : decode b_X_shifted 13 = .ok (.aload_n 0, 1) := by decide +kernel
theorem d_X_shifted_14 : decode b_X_shifted 14 = .ok (.getfield 16, 3) := by decide +kernel
theorem d_X_shifted_17 : decode b_X_shifted 17 = .ok (.bipush 8, 2) := by decide +kernel
theorem d_X_shifted_19 : decode b_X_shifted 19 = .ok (.iload_n 2, 1) := by decide +kernel
theorem d_X_shifted_20 : decode b_X_shifted 20 = .ok (.bipush 7, 2) := by decide +kernel
theorem d_X_shifted_22 : decode b_X_shifted 22 = .ok (.ishr, 1) := by decide +kernel
theorem d_X_shifted_23 : decode b_X_shifted 23 = .ok (.iastore, 1) := by decide +kernel
theorem d_X_shifted_24 : decode b_X_shifted 24 = .ok (.goto 18, 3) := by decide +kernel
theorem d_X_shifted_27 : decode b_X_shifted 27 = .ok (.iload_n 1, 1) := by decide +kernel
theorem d_X_shifted_28 : decode b_X_shifted 28 = .ok (.iconst 4, 1) := by decide +kernel
theorem d_X_shifted_29 : decode b_X_shifted 29 = .ok (.if_icmp .ge 13, 3) := by decide +kernel
theorem d_X_shifted_32 : decode b_X_shifted 32 = .ok (.aload_n 0, 1) := by decide +kernel
theorem d_X_shifted_33 : decode b_X_shifted 33 = .ok (.getfield 16, 3) := by decide +kernel
theorem d_X_shifted_36 : decode b_X_shifted 36 = .ok (.bipush 8, 2) := by decide +kernel
theorem d_X_shifted_38 : decode b_X_shifted 38 = .ok (.iload_n 2, 1) := by decide +kernel
theorem d_X_shifted_39 : decode b_X_shifted 39 = .ok (.iconst 1, 1) := by decide +kernel
theorem d_X_shifted_40 : decode b_X_shifted 40 = .ok (.iand, 1) := by decide +kernel
theorem d_X_shifted_41 : decode b_X_shifted 41 = .ok (.iastore, 1) := by decide +kernel
theorem d_X_shifted_42 : decode b_X_shifted 42 = .ok (.iload_n 1, 1) := by decide +kernel
theorem d_X_shifted_43 : decode b_X_shifted 43 = .ok (.iconst 2, 1) := by decide +kernel
theorem d_X_shifted_44 : decode b_X_shifted 44 = .ok (.if_icmp .ge 22, 3) := by decide +kernel
theorem d_X_shifted_47 : decode b_X_shifted 47 = .ok (.iconst 2, 1) := by decide +kernel
theorem d_X_shifted_48 : decode b_X_shifted 48 = .ok (.iload_n 2, 1) := by decide +kernel
theorem d_X_shifted_49 : decode b_X_shifted 49 = .ok (.imul, 1) := by decide +kernel
theorem d_X_shifted_50 : decode b_X_shifted 50 = .ok (.iload_n 1, 1) := by decide +kernel
theorem d_X_shifted_51 : decode b_X_shifted 51 = .ok (.iconst 1, 1) := by decide +kernel
theorem d_X_shifted_52 : decode b_X_shifted 52 = .ok (.if_icmp .ne 7, 3) := by decide +kernel
theorem d_X_shifted_55 : decode b_X_shifted 55 = .ok (.iload_n 3, 1) := by decide +kernel
theorem d_X_shifted_56 : decode b_X_shifted 56 = .ok (.goto 4, 3) := by decide +kernel
theorem d_X_shifted_59 : decode b_X_shifted 59 = .ok (.iconst 0, 1) := by decide +kernel
theorem d_X_shifted_60 : decode b_X_shifted 60 = .ok (.iadd, 1) := by decide +kernel
theorem d_X_shifted_61 : decode b_X_shifted 61 = .ok (.sipush 255, 3) := by decide +kernel
theorem d_X_shifted_64 : decode b_X_shifted 64 = .ok (.iand, 1) := by decide +kernel
theorem d_X_shifted_65 : decode b_X_shifted 65 = .ok (.ireturn, 1) := by decide +kernel
theorem d_X_shifted_66 : decode b_X_shifted 66 = .ok (.iload_n 1, 1) := by decide +kernel
theorem d_X_shifted_67 : decode b_X_shifted 67 = .ok (.iconst 4, 1) := by decide +kernel
theorem d_X_shifted_68 : decode b_X_shifted 68 = .ok (.if_icmp .ge 22, 3) := by decide +kernel
theorem d_X_shifted_71 : decode b_X_shifted 71 = .ok (.iload_n 2, 1) := by decide +kernel
theorem d_X_shifted_72 : decode b_X_shifted 72 = .ok (.iconst 2, 1) := by decide +kernel
theorem d_X_shifted_73 : decode b_X_shifted 73 = .ok (.idiv, 1) := by decide +kernel
theorem d_X_shifted_74 : decode b_X_shifted 74 = .ok (.iload_n 1, 1) := by decide +kernel
theorem d_X_shifted_75 : decode b_X_shifted 75 = .ok (.iconst 3, 1) := by decide +kernel
theorem d_X_shifted_76 : decode b_X_shifted 76 = .ok (.if_icmp .ne 11, 3) := by decide +kernel
theorem d_X_shifted_79 : decode b_X_shifted 79 = .ok (.sipush 128, 3) := by decide +kernel
theorem d_X_shifted_82 : decode b_X_shifted 82 = .ok (.iload_n 3, 1) := by decide +kernel
theorem d_X_shifted_83 : decode b_X_shifted 83 = .ok (.imul, 1) := by decide +kernel
theorem d_X_shifted_84 : decode b_X_shifted 84 = .ok (.goto 4, 3) := by decide +kernel
theorem d_X_shifted_87 : decode b_X_shifted 87 = .ok (.iconst 0, 1) := by decide +kernel
theorem d_X_shifted_88 : decode b_X_shifted 88 = .ok (.iadd, 1) := by decide +kernel
theorem d_X_shifted_89 : decode b_X_shifted 89 = .ok (.ireturn, 1) := by decide +kernel
theorem d_X_shifted_90 : decode b_X_shifted 90 = .ok (.iload_n 2, 1) := by decide +kernel
theorem d_X_shifted_91 : decode b_X_shifted 91 = .ok (.iload_n 1, 1) := by decide +kernel
theorem d_X_shifted_92 : decode b_X_shifted 92 = .ok (.bipush 6, 2) := by decide +kernel
theorem d_X_shifted_94 : decode b_X_shifted 94 = .ok (.if_icmp .ne 9, 3) := by decide +kernel
theorem d_X_shifted_97 : decode b_X_shifted 97 = .ok (.sipush 255, 3) := by decide +kernel
theorem d_X_shifted_100 : decode b_X_shifted 100 = .ok (.goto 4, 3) := by decide +kernel
theorem d_X_shifted_103 : decode b_X_shifted 103 = .ok (.iconst 1, 1) := by decide +kernel
theorem d_X_shifted_104 : decode b_X_shifted 104 = .ok (.iadd, 1) := by decide +kernel
theorem d_X_shifted_105 : decode b_X_shifted 105 = .ok (.sipush 255, 3) := by decide +kernel
theorem d_X_shifted_108 : decode b_X_shifted 108 = .ok (.iand, 1) := by decide +kernel
theorem d_X_shifted_109 : decode b_X_shifted 109 = .ok (.ireturn, 1) := by decide +kernel
theorem d_X_pull_0 : decode b_X_pull 0 = .ok (.aload_n 0, 1) := by decide +kernel
theorem d_X_pull_1 : decode b_X_pull 1 = .ok (.getfield 16, 3) := by decide +kernel
theorem d_X_pull_4 : decode b_X_pull 4 = .ok (.iconst 3, 1) := by decide +kernel
theorem d_X_pull_5 : decode b_X_pull 5 = .ok (.aload_n 0, 1) := by decide +kernel
theorem d_X_pull_6 : decode b_X_pull 6 = .ok (.getfield 16, 3) := by decide +kernel
theorem d_X_pull_9 : decode b_X_pull 9 = .ok (.iconst 3, 1) := by decide +kernel
theorem d_X_pull_10 : decode b_X_pull 10 = .ok (.iaload, 1) := by decide +kernel
theorem d_X_pull_11 : decode b_X_pull 11 = .ok (.iconst 1, 1) := by decide +kernel
theorem d_X_pull_12 : decode b_X_pull 12 = .ok (.iadd, 1) := by decide +kernel
theorem d_X_pull_13 : decode b_X_pull 13 = .ok (.sipush 255, 3) := by decide +kernel
theorem d_X_pull_16 : decode b_X_pull 16 = .ok (.iand, 1) := by decide +kernel
theorem d_X_pull_17 : decode b_X_pull 17 = .ok (.iastore, 1) := by decide +kernel
theorem d_X_pull_18 : decode b_X_pull 18 = .ok (.aload_n 0, 1) := by decide +kernel
theorem d_X_pull_19 : decode b_X_pull 19 = .ok (.sipush 256, 3) := by decide +kernel
theorem d_X_pull_22 : decode b_X_pull 22 = .ok (.aload_n 0, 1) := by decide +kernel
theorem d_X_pull_23 : decode b_X_pull 23 = .ok (.getfield 16, 3) := by decide +kernel
theorem d_X_pull_26 : decode b_X_pull 26 = .ok (.iconst 3, 1) := by decide +kernel
theorem d_X_pull_27 : decode b_X_pull 27 = .ok (.iaload, 1) := by decide +kernel
theorem d_X_pull_28 : decode b_X_pull 28 = .ok (.iadd, 1) := by decide +kernel
theorem d_X_pull_29 : decode b_X_pull 29 = .ok (.invokevirtual 43, 3) := by decide +kernel
theorem d_X_pull_32 : decode b_X_pull 32 = .ok (.ireturn, 1) := by decide +kernel
theorem d_X_fetch_0 : decode b_X_fetch 0 = .ok (.aload_n 0, 1) := by decide +kernel
theorem d_X_fetch_1 : decode b_X_fetch 1 = .ok (.aload_n 0, 1) := by decide +kernel
theorem d_X_fetch_2 : decode b_X_fetch 2 = .ok (.getfield 16, 3) := by decide +kernel
theorem d_X_fetch_5 : decode b_X_fetch 5 = .ok (.iconst 4, 1) := by decide +kernel
theorem d_X_fetch_6 : decode b_X_fetch 6 = .ok (.iaload, 1) := by decide +kernel
theorem d_X_fetch_7 : decode b_X_fetch 7 = .ok (.invokevirtual 43, 3) := by decide +kernel
theorem d_X_fetch_10 : decode b_X_fetch 10 = .ok (.istore_n 1, 1) := by decide +kernel
theorem d_X_fetch_11 : decode b_X_fetch 11 = .ok (.aload_n 0, 1) := by decide +kernel
theorem d_X_fetch_12 : decode b_X_fetch 12 = .ok (.getfield 16, 3) := by decide +kernel
theorem d_X_fetch_15 : decode b_X_fetch 15 = .ok (.iconst 4, 1) := by decide +kernel
theorem d_X_fetch_16 : decode b_X_fetch 16 = .ok (.aload_n 0, 1) := by decide +kernel
theorem d_X_fetch_17 : decode b_X_fetch 17 = .ok (.getfield 16, 3) := by decide +kernel
theorem d_X_fetch_20 : decode b_X_fetch 20 = .ok (.iconst 4, 1) := by decide +kernel
theorem d_X_fetch_21 : decode b_X_fetch 21 = .ok (.iaload, 1) := by decide +kernel
theorem d_X_fetch_22 : decode b_X_fetch 22 = .ok (.iconst 1, 1) := by decide +kernel
theorem d_X_fetch_23 : decode b_X_fetch 23 = .ok (.iadd, 1) := by decide +kernel
theorem d_X_fetch_24 : decode b_X_fetch 24 = .ok (.sipush 1023, 3) := by decide +kernel
theorem d_X_fetch_27 : decode b_X_fetch 27 = .ok (.iand, 1) := by decide +kernel
theorem d_X_fetch_28 : decode b_X_fetch 28 = .ok (.iastore, 1) := by decide +kernel
theorem d_X_fetch_29 : decode b_X_fetch 29 = .ok (.iload_n 1, 1) := by decide +kernel
theorem d_X_fetch_30 : decode b_X_fetch 30 = .ok (.ireturn, 1) := by decide +kernel
theorem d_X_one_0 : decode b_X_one 0 = .ok (.aload_n 0, 1) := by decide +kernel
theorem d_X_one_1 : decode b_X_one 1 = .ok (.aload_n 0, 1) := by decide +kernel
theorem d_X_one_2 : decode b_X_one 2 = .ok (.invokevirtual 47, 3) := by decide +kernel
theorem d_X_one_5 : decode b_X_one 5 = .ok (.putfield 51, 3) := by decide +kernel
theorem d_X_one_8 : decode b_X_one 8 = .ok (.return_, 1) := by decide +kernel
theorem d_X_two_0 : decode b_X_two 0 = .ok (.aload_n 0, 1) := by decide +kernel
theorem d_X_two_1 : decode b_X_two 1 = .ok (.aload_n 0, 1) := by decide +kernel
theorem d_X_two_2 : decode b_X_two 2 = .ok (.invokevirtual 47, 3) := by decide +kernel
theorem d_X_two_5 : decode b_X_two 5 = .ok (.putfield 51, 3) := by decide +kernel
theorem d_X_two_8 : decode b_X_two 8 = .ok (.aload_n 0, 1) := by decide +kernel
theorem d_X_two_9 : decode b_X_two 9 = .ok (.aload_n 0, 1) := by decide +kernel
theorem d_X_two_10 : decode b_X_two 10 = .ok (.getfield 51, 3) := by decide +kernel
theorem d_X_two_13 : decode b_X_two 13 = .ok (.sipush 256, 3) := by decide +kernel
theorem d_X_two_16 : decode b_X_two 16 = .ok (.aload_n 0, 1) := by decide +kernel
theorem d_X_two_17 : decode b_X_two 17 = .ok (.invokevirtual 47, 3) := by decide +kernel
theorem d_X_two_20 : decode b_X_two 20 = .ok (.imul, 1) := by decide +kernel
theorem d_X_two_21 : decode b_X_two 21 = .ok (.iadd, 1) := by decide +kernel
theorem d_X_two_22 : decode b_X_two 22 = .ok (.putfield 54, 3) := by decide +kernel
theorem d_X_two_25 : decode b_X_two 25 = .ok (.return_, 1) := by decide +kernel
theorem d_X_pair_0 : decode b_X_pair 0 = .ok (.aload_n 0, 1) := by decide +kernel
theorem d_X_pair_1 : decode b_X_pair 1 = .ok (.iload_n 1, 1) := by decide +kernel
theorem d_X_pair_2 : decode b_X_pair 2 = .ok (.sipush 255, 3) := by decide +kernel
theorem d_X_pair_5 : decode b_X_pair 5 = .ok (.iand, 1) := by decide +kernel
theorem d_X_pair_6 : decode b_X_pair 6 = .ok (.invokevirtual 43, 3) := by decide +kernel
theorem d_X_pair_9 : decode b_X_pair 9 = .ok (.sipush 256, 3) := by decide +kernel
theorem d_X_pair_12 : decode b_X_pair 12 = .ok (.aload_n 0, 1) := by decide +kernel
theorem d_X_pair_13 : decode b_X_pair 13 = .ok (.iload_n 1, 1) := by decide +kernel
theorem d_X_pair_14 : decode b_X_pair 14 = .ok (.iconst 1, 1) := by decide +kernel
theorem d_X_pair_15 : decode b_X_pair 15 = .ok (.iadd, 1) := by decide +kernel
theorem d_X_pair_16 : decode b_X_pair 16 = .ok (.sipush 255, 3) := by decide +kernel
theorem d_X_pair_19 : decode b_X_pair 19 = .ok (.iand, 1) := by decide +kernel
theorem d_X_pair_20 : decode b_X_pair 20 = .ok (.invokevirtual 43, 3) := by decide +kernel
theorem d_X_pair_23 : decode b_X_pair 23 = .ok (.imul, 1) := by decide +kernel
theorem d_X_pair_24 : decode b_X_pair 24 = .ok (.iadd, 1) := by decide +kernel
theorem d_X_pair_25 : decode b_X_pair 25 = .ok (.ireturn, 1) := by decide +kernel
theorem d_X_address_0 : decode b_X_address 0 = .ok (.iload_n 1, 1) := by decide +kernel
theorem d_X_address_1 : decode b_X_address 1 = .ok (.bipush 9, 2) := by decide +kernel
theorem d_X_address_3 : decode b_X_address 3 = .ok (.if_icmp .ne 5, 3) := by decide +kernel
theorem d_X_address_6 : decode b_X_address 6 = .ok (.iconst 0, 1) := by decide +kernel
theorem d_X_address_7 : decode b_X_address 7 = .ok (.ireturn, 1) := by decide +kernel
theorem d_X_address_8 : decode b_X_address 8 = .ok (.iload_n 1, 1) := by decide +kernel
theorem d_X_address_9 : decode b_X_address 9 = .ok (.iconst 4, 1) := by decide +kernel
theorem d_X_address_10 : decode b_X_address 10 = .ok (.if_icmp .lt 16, 3) := by decide +kernel
theorem d_X_address_13 : decode b_X_address 13 = .ok (.iload_n 1, 1) := by decide +kernel
theorem d_X_address_14 : decode b_X_address 14 = .ok (.bipush 6, 2) := by decide +kernel
theorem d_X_address_16 : decode b_X_address 16 = .ok (.if_icmp .gt 10, 3) := by decide +kernel
theorem d_X_address_19 : decode b_X_address 19 = .ok (.aload_n 0, 1) := by decide +kernel
theorem d_X_address_20 : decode b_X_address 20 = .ok (.invokevirtual 57, 3) := by decide +kernel
theorem d_X_address_23 : decode b_X_address 23 = .ok (.goto 7, 3) := by decide +kernel
theorem d_X_address_26 : decode b_X_address 26 = .ok (.aload_n 0, 1) := by decide +kernel
theorem d_X_address_27 : decode b_X_address 27 = .ok (.invokevirtual 60, 3) := by decide +kernel
theorem d_X_address_30 : decode b_X_address 30 = .ok (.iload_n 1, 1) := by decide +kernel
theorem d_X_address_31 : decode b_X_address 31 = .ok (.iconst 1, 1) := by decide +kernel
theorem d_X_address_32 : decode b_X_address 32 = .ok (.if_icmp .ne 8, 3) := by decide +kernel
theorem d_X_address_35 : decode b_X_address 35 = .ok (.aload_n 0, 1) := by decide +kernel
theorem d_X_address_36 : decode b_X_address 36 = .ok (.getfield 51, 3) := by decide +kernel
theorem d_X_address_39 : decode b_X_address 39 = .ok (.ireturn, 1) := by decide +kernel
theorem d_X_address_40 : decode b_X_address 40 = .ok (.iload_n 1, 1) := by decide +kernel
theorem d_X_address_41 : decode b_X_address 41 = .ok (.iconst 2, 1) := by decide +kernel
theorem d_X_address_42 : decode b_X_address 42 = .ok (.if_icmp .ne 19, 3) := by decide +kernel
theorem d_X_address_45 : decode b_X_address 45 = .ok (.aload_n 0, 1) := by decide +kernel
theorem d_X_address_46 : decode b_X_address 46 = .ok (.getfield 51, 3) := by decide +kernel
theorem d_X_address_49 : decode b_X_address 49 = .ok (.aload_n 0, 1) := by decide +kernel
theorem d_X_address_50 : decode b_X_address 50 = .ok (.getfield 16, 3) := by decide +kernel
theorem d_X_address_53 : decode b_X_address 53 = .ok (.iconst 1, 1) := by decide +kernel
theorem d_X_address_54 : decode b_X_address 54 = .ok (.iaload, 1) := by decide +kernel
theorem d_X_address_55 : decode b_X_address 55 = .ok (.iadd, 1) := by decide +kernel
theorem d_X_address_56 : decode b_X_address 56 = .ok (.sipush 255, 3) := by decide +kernel
theorem d_X_address_59 : decode b_X_address 59 = .ok (.iand, 1) := by decide +kernel
theorem d_X_address_60 : decode b_X_address 60 = .ok (.ireturn, 1) := by decide +kernel
theorem d_X_address_61 : decode b_X_address 61 = .ok (.iload_n 1, 1) := by decide +kernel
theorem d_X_address_62 : decode b_X_address 62 = .ok (.iconst 3, 1) := by decide +kernel
theorem d_X_address_63 : decode b_X_address 63 = .ok (.if_icmp .ne 19, 3) := by decide +kernel
theorem d_X_address_66 : decode b_X_address 66 = .ok (.aload_n 0, 1) := by decide +kernel
theorem d_X_address_67 : decode b_X_address 67 = .ok (.getfield 51, 3) := by decide +kernel
theorem d_X_address_70 : decode b_X_address 70 = .ok (.aload_n 0, 1) := by decide +kernel
theorem d_X_address_71 : decode b_X_address 71 = .ok (.getfield 16, 3) := by decide +kernel
theorem d_X_address_74 : decode b_X_address 74 = .ok (.iconst 2, 1) := by decide +kernel
theorem d_X_address_75 : decode b_X_address 75 = .ok (.iaload, 1) := by decide +kernel
theorem d_X_address_76 : decode b_X_address 76 = .ok (.iadd, 1) := by decide +kernel
theorem d_X_address_77 : decode b_X_address 77 = .ok (.sipush 255, 3) := by decide +kernel
theorem d_X_address_80 : decode b_X_address 80 = .ok (.iand, 1) := by decide +kernel
theorem d_X_address_81 : decode b_X_address 81 = .ok (.ireturn, 1) := by decide +kernel
theorem d_X_address_82 : decode b_X_address 82 = .ok (.iload_n 1, 1) := by decide +kernel
theorem d_X_address_83 : decode b_X_address 83 = .ok (.iconst 4, 1) := by decide +kernel
theorem d_X_address_84 : decode b_X_address 84 = .ok (.if_icmp .ne 8, 3) := by decide +kernel
theorem d_X_address_87 : decode b_X_address 87 = .ok (.aload_n 0, 1) := by decide +kernel
theorem d_X_address_88 : decode b_X_address 88 = .ok (.getfield 54, 3) := by decide +kernel
theorem d_X_address_91 : decode b_X_address 91 = .ok (.ireturn, 1) := by decide +kernel
theorem d_X_address_92 : decode b_X_address 92 = .ok (.iload_n 1, 1) := by decide +kernel
theorem d_X_address_93 : decode b_X_address 93 = .ok (.iconst 5, 1) := by decide +kernel
theorem d_X_address_94 : decode b_X_address 94 = .ok (.if_icmp .ne 15, 3) := by decide +kernel
theorem d_X_address_97 : decode b_X_address 97 = .ok (.aload_n 0, 1) := by decide +kernel
theorem d_X_address_98 : decode b_X_address 98 = .ok (.getfield 54, 3) := by decide +kernel
theorem d_X_address_101 : decode b_X_address 101 = .ok (.aload_n 0, 1) := by decide +kernel
theorem d_X_address_102 : decode b_X_address 102 = .ok (.getfield 16, 3) := by decide +kernel
theorem d_X_address_105 : decode b_X_address 105 = .ok (.iconst 1, 1) := by decide +kernel
theorem d_X_address_106 : decode b_X_address 106 = .ok (.iaload, 1) := by decide +kernel
theorem d_X_address_107 : decode b_X_address 107 = .ok (.iadd, 1) := by decide +kernel
theorem d_X_address_108 : decode b_X_address 108 = .ok (.ireturn, 1) := by decide +kernel
theorem d_X_address_109 : decode b_X_address 109 = .ok (.iload_n 1, 1) := by decide +kernel
theorem d_X_address_110 : decode b_X_address 110 = .ok (.bipush 6, 2) := by decide +kernel
theorem d_X_address_112 : decode b_X_address 112 = .ok (.if_icmp .ne 15, 3) := by decide +kernel
theorem d_X_address_115 : decode b_X_address 115 = .ok (.aload_n 0, 1) := by decide +kernel
theorem d_X_address_116 : decode b_X_address 116 = .ok (.getfield 54, 3) := by decide +kernel
theorem d_X_address_119 : decode b_X_address 119 = .ok (.aload_n 0, 1) := by decide +kernel
theorem d_X_address_120 : decode b_X_address 120 = .ok (.getfield 16, 3) := by decide +kernel
theorem d_X_address_123 : decode b_X_address 123 = .ok (.iconst 2, 1) := by decide +kernel
theorem d_X_address_124 : decode b_X_address 124 = .ok (.iaload, 1) := by decide +kernel
theorem d_X_address_125 : decode b_X_address 125 = .ok (.iadd, 1) := by decide +kernel
theorem d_X_address_126 : decode b_X_address 126 = .ok (.ireturn, 1) := by decide +kernel
theorem d_X_address_127 : decode b_X_address 127 = .ok (.iload_n 1, 1) := by decide +kernel
theorem d_X_address_128 : decode b_X_address 128 = .ok (.bipush 7, 2) := by decide +kernel
theorem d_X_address_130 : decode b_X_address 130 = .ok (.if_icmp .ne 19, 3) := by decide +kernel
theorem d_X_address_133 : decode b_X_address 133 = .ok (.aload_n 0, 1) := by decide +kernel
theorem d_X_address_134 : decode b_X_address 134 = .ok (.aload_n 0, 1) := by decide +kernel
theorem d_X_address_135 : decode b_X_address 135 = .ok (.getfield 51, 3) := by decide +kernel
theorem d_X_address_138 : decode b_X_address 138 = .ok (.aload_n 0, 1) := by decide +kernel
theorem d_X_address_139 : decode b_X_address 139 = .ok (.getfield 16, 3) := by decide +kernel
theorem d_X_address_142 : decode b_X_address 142 = .ok (.iconst 1, 1) := by decide +kernel
theorem d_X_address_143 : decode b_X_address 143 = .ok (.iaload, 1) := by decide +kernel
theorem d_X_address_144 : decode b_X_address 144 = .ok (.iadd, 1) := by decide +kernel
theorem d_X_address_145 : decode b_X_address 145 = .ok (.invokevirtual 63, 3) := by decide +kernel
theorem d_X_address_148 : decode b_X_address 148 = .ok (.ireturn, 1) := by decide +kernel
theorem d_X_address_149 : decode b_X_address 149 = .ok (.iload_n 1, 1) := by decide +kernel
theorem d_X_address_150 : decode b_X_address 150 = .ok (.bipush 8, 2) := by decide +kernel
theorem d_X_address_152 : decode b_X_address 152 = .ok (.if_icmp .ne 21, 3) := by decide +kernel
theorem d_X_address_155 : decode b_X_address 155 = .ok (.aload_n 0, 1) := by decide +kernel
theorem d_X_address_156 : decode b_X_address 156 = .ok (.aload_n 0, 1) := by decide +kernel
theorem d_X_address_157 : decode b_X_address 157 = .ok (.getfield 51, 3) := by decide +kernel
theorem d_X_address_160 : decode b_X_address 160 = .ok (.invokevirtual 63, 3) := by decide +kernel
theorem d_X_address_163 : decode b_X_address 163 = .ok (.aload_n 0, 1) := by decide +kernel
theorem d_X_address_164 : decode b_X_address 164 = .ok (.getfield 16, 3) := by decide +kernel
theorem d_X_address_167 : decode b_X_address 167 = .ok (.iconst 2, 1) := by decide +kernel
theorem d_X_address_168 : decode b_X_address 168 = .ok (.iaload, 1) := by decide +kernel
theorem d_X_address_169 : decode b_X_address 169 = .ok (.iadd, 1) := by decide +kernel
theorem d_X_address_170 : decode b_X_address 170 = .ok (.goto 4, 3) := by decide +kernel
theorem d_X_address_173 : decode b_X_address 173 = .ok (.iconst 0, 1) := by decide +kernel
theorem d_X_address_174 : decode b_X_address 174 = .ok (.ireturn, 1) := by decide +kernel
theorem d_X_operand_0 : decode b_X_operand 0 = .ok (.iload_n 1, 1) := by decide +kernel
theorem d_X_operand_1 : decode b_X_operand 1 = .ok (.ifCond .ne 10, 3) := by decide +kernel
theorem d_X_operand_4 : decode b_X_operand 4 = .ok (.aload_n 0, 1) := by decide +kernel
theorem d_X_operand_5 : decode b_X_operand 5 = .ok (.getfield 51, 3) := by decide +kernel
theorem d_X_operand_8 : decode b_X_operand 8 = .ok (.goto 23, 3) := by decide +kernel
theorem d_X_operand_11 : decode b_X_operand 11 = .ok (.iload_n 1, 1) := by decide +kernel
theorem d_X_operand_12 : decode b_X_operand 12 = .ok (.bipush 9, 2) := by decide +kernel
theorem d_X_operand_14 : decode b_X_operand 14 = .ok (.if_icmp .ne 12, 3) := by decide +kernel
theorem d_X_operand_17 : decode b_X_operand 17 = .ok (.aload_n 0, 1) := by decide +kernel
theorem d_X_operand_18 : decode b_X_operand 18 = .ok (.getfield 16, 3) := by decide +kernel
theorem d_X_operand_21 : decode b_X_operand 21 = .ok (.iconst 0, 1) := by decide +kernel
theorem d_X_operand_22 : decode b_X_operand 22 = .ok (.iaload, 1) := by decide +kernel
theorem d_X_operand_23 : decode b_X_operand 23 = .ok (.goto 8, 3) := by decide +kernel
theorem d_X_operand_26 : decode b_X_operand 26 = .ok (.aload_n 0, 1) := by decide +kernel
theorem d_X_operand_27 : decode b_X_operand 27 = .ok (.iload_n 2, 1) := by decide +kernel
theorem d_X_operand_28 : decode b_X_operand 28 = .ok (.invokevirtual 43, 3) := by decide +kernel
theorem d_X_operand_31 : decode b_X_operand 31 = .ok (.ireturn, 1) := by decide +kernel
theorem d_X_branch_0 : decode b_X_branch 0 = .ok (.aload_n 0, 1) := by decide +kernel
theorem d_X_branch_1 : decode b_X_branch 1 = .ok (.invokevirtual 60, 3) := by decide +kernel
theorem d_X_branch_4 : decode b_X_branch 4 = .ok (.iload_n 1, 1) := by decide +kernel
theorem d_X_branch_5 : decode b_X_branch 5 = .ok (.iconst 2, 1) := by decide +kernel
theorem d_X_branch_6 : decode b_X_branch 6 = .ok (.if_icmp .ge 12, 3) := by decide +kernel
theorem d_X_branch_9 : decode b_X_branch 9 = .ok (.aload_n 0, 1) := by decide +kernel
theorem d_X_branch_10 : decode b_X_branch 10 = .ok (.getfield 16, 3) := by decide +kernel
theorem d_X_branch_13 : decode b_X_branch 13 = .ok (.iconst 5, 1) := by decide +kernel
theorem d_X_branch_14 : decode b_X_branch 14 = .ok (.iaload, 1) := by decide +kernel
theorem d_X_branch_15 : decode b_X_branch 15 = .ok (.goto 41, 3) := by decide +kernel
theorem d_X_branch_18 : decode b_X_branch 18 = .ok (.iload_n 1, 1) := by decide +kernel
theorem d_X_branch_19 : decode b_X_branch 19 = .ok (.iconst 4, 1) := by decide +kernel
theorem d_X_branch_20 : decode b_X_branch 20 = .ok (.if_icmp .ge 13, 3) := by decide +kernel
theorem d_X_branch_23 : decode b_X_branch 23 = .ok (.aload_n 0, 1) := by decide +kernel
theorem d_X_branch_24 : decode b_X_branch 24 = .ok (.getfield 16, 3) := by decide +kernel
theorem d_X_branch_27 : decode b_X_branch 27 = .ok (.bipush 6, 2) := by decide +kernel
theorem d_X_branch_29 : decode b_X_branch 29 = .ok (.iaload, 1) := by decide +kernel
theorem d_X_branch_30 : decode b_X_branch 30 = .ok (.goto 26, 3) := by decide +kernel
theorem d_X_branch_33 : decode b_X_branch 33 = .ok (.iload_n 1, 1) := by decide +kernel
theorem d_X_branch_34 : decode b_X_branch 34 = .ok (.bipush 6, 2) := by decide +kernel
theorem d_X_branch_36 : decode b_X_branch 36 = .ok (.if_icmp .ge 13, 3) := by decide +kernel
theorem d_X_branch_39 : decode b_X_branch 39 = .ok (.aload_n 0, 1) := by decide +kernel
theorem d_X_branch_40 : decode b_X_branch 40 = .ok (.getfield 16, 3) := by decide +kernel
theorem d_X_branch_43 : decode b_X_branch 43 = .ok (.bipush 8, 2) := by decide +kernel
theorem d_X_branch_45 : decode b_X_branch 45 = .ok (.iaload, 1) := by decide +kernel
theorem d_X_branch_46 : decode b_X_branch 46 = .ok (.goto 10, 3) := by decide +kernel
theorem d_X_branch_49 : decode b_X_branch 49 = .ok (.aload_n 0, 1) := by decide +kernel
theorem d_X_branch_50 : decode b_X_branch 50 = .ok (.getfield 16, 3) := by decide +kernel
theorem d_X_branch_53 : decode b_X_branch 53 = .ok (.bipush 7, 2) := by decide +kernel
theorem d_X_branch_55 : decode b_X_branch 55 = .ok (.iaload, 1) := by decide +kernel
theorem d_X_branch_56 : decode b_X_branch 56 = .ok (.istore_n 2, 1) := by decide +kernel
theorem d_X_branch_57 : decode b_X_branch 57 = .ok (.iload_n 2, 1) := by decide +kernel
theorem d_X_branch_58 : decode b_X_branch 58 = .ok (.iload_n 1, 1) := by decide +kernel
theorem d_X_branch_59 : decode b_X_branch 59 = .ok (.iconst 2, 1) := by decide +kernel
theorem d_X_branch_60 : decode b_X_branch 60 = .ok (.irem, 1) := by decide +kernel
theorem d_X_branch_61 : decode b_X_branch 61 = .ok (.if_icmp .ne 45, 3) := by decide +kernel
theorem d_X_branch_64 : decode b_X_branch 64 = .ok (.aload_n 0, 1) := by decide +kernel
theorem d_X_branch_65 : decode b_X_branch 65 = .ok (.getfield 16, 3) := by decide +kernel
theorem d_X_branch_68 : decode b_X_branch 68 = .ok (.iconst 4, 1) := by decide +kernel
theorem d_X_branch_69 : decode b_X_branch 69 = .ok (.aload_n 0, 1) := by decide +kernel
theorem d_X_branch_70 : decode b_X_branch 70 = .ok (.getfield 16, 3) := by decide +kernel
theorem d_X_branch_73 : decode b_X_branch 73 = .ok (.iconst 4, 1) := by decide +kernel
theorem d_X_branch_74 : decode b_X_branch 74 = .ok (.iaload, 1) := by decide +kernel
theorem d_X_branch_75 : decode b_X_branch 75 = .ok (.aload_n 0, 1) := by decide +kernel
theorem d_X_branch_76 : decode b_X_branch 76 = .ok (.getfield 51, 3) := by decide +kernel
theorem d_X_branch_79 : decode b_X_branch 79 = .ok (.sipush 128, 3) := by decide +kernel
theorem d_X_branch_82 : decode b_X_branch 82 = .ok (.if_icmp .ge 10, 3) := by decide +kernel
theorem d_X_branch_85 : decode b_X_branch 85 = .ok (.aload_n 0, 1) := by decide +kernel
theorem d_X_branch_86 : decode b_X_branch 86 = .ok (.getfield 51, 3) := by decide +kernel
theorem d_X_branch_89 : decode b_X_branch 89 = .ok (.goto 11, 3) := by decide +kernel
theorem d_X_branch_92 : decode b_X_branch 92 = .ok (.aload_n 0, 1) := by decide +kernel
theorem d_X_branch_93 : decode b_X_branch 93 = .ok (.getfield 51, 3) := by decide +kernel
theorem d_X_branch_96 : decode b_X_branch 96 = .ok (.sipush 256, 3) := by decide +kernel
theorem d_X_branch_99 : decode b_X_branch 99 = .ok (.isub, 1) := by decide +kernel
theorem d_X_branch_100 : decode b_X_branch 100 = .ok (.iadd, 1) := by decide +kernel
theorem d_X_branch_101 : decode b_X_branch 101 = .ok (.sipush 1023, 3) := by decide +kernel
theorem d_X_branch_104 : decode b_X_branch 104 = .ok (.iand, 1) := by decide +kernel
theorem d_X_branch_105 : decode b_X_branch 105 = .ok (.iastore, 1) := by decide +kernel
theorem d_X_branch_106 : decode b_X_branch 106 = .ok (.return_, 1) := by decide +kernel
theorem d_X_write_0 : decode b_X_write 0 = .ok (.iload_n 1, 1) := by decide +kernel
theorem d_X_write_1 : decode b_X_write 1 = .ok (.sipush 1023, 3) := by decide +kernel
theorem d_X_write_4 : decode b_X_write 4 = .ok (.iand, 1) := by decide +kernel
theorem d_X_write_5 : decode b_X_write 5 = .ok (.istore_n 3, 1) := by decide +kernel
theorem d_X_write_6 : decode b_X_write 6 = .ok (.aload_n 0, 1) := by decide +kernel
theorem d_X_write_7 : decode b_X_write 7 = .ok (.getfield 32, 3) := by decide +kernel
theorem d_X_write_10 : decode b_X_write 10 = .ok (.ifCond .eq 4, 3) := by decide +kernel
theorem d_X_write_13 : decode b_X_write 13 = .ok (.return_, 1) := by decide +kernel
theorem d_X_write_14 : decode b_X_write 14 = .ok (.iload_n 3, 1) := by decide +kernel
theorem d_X_write_15 : decode b_X_write 15 = .ok (.sipush 1008, 3) := by decide +kernel
theorem d_X_write_18 : decode b_X_write 18 = .ok (.if_icmp .ge 32, 3) := by decide +kernel
theorem d_X_write_21 : decode b_X_write 21 = .ok (.aload_n 0, 1) := by decide +kernel
theorem d_X_write_22 : decode b_X_write 22 = .ok (.getfield 35, 3) := by decide +kernel
theorem d_X_write_25 : decode b_X_write 25 = .ok (.ifCond .eq 18, 3) := by decide +kernel
theorem d_X_write_28 : decode b_X_write 28 = .ok (.iload_n 3, 1) := by decide +kernel
theorem d_X_write_29 : decode b_X_write 29 = .ok (.sipush 960, 3) := by decide +kernel
theorem d_X_write_32 : decode b_X_write 32 = .ok (.if_icmp .lt 11, 3) := by decide +kernel
theorem d_X_write_35 : decode b_X_write 35 = .ok (.aload_n 0, 1) := by decide +kernel
theorem d_X_write_36 : decode b_X_write 36 = .ok (.iconst 2, 1) := by decide +kernel
theorem d_X_write_37 : decode b_X_write 37 = .ok (.putfield 32, 3) := by decide +kernel
theorem d_X_write_40 : decode b_X_write 40 = .ok (.goto 10, 3) := by decide +kernel
theorem d_X_write_43 : decode b_X_write 43 = .ok (.aload_n 0, 1) := by decide +kernel
theorem d_X_write_44 : decode b_X_write 44 = .ok (.getfield 7, 3) := by decide +kernel
theorem d_X_write_47 : decode b_X_write 47 = .ok (.iload_n 3, 1) := by decide +kernel
theorem d_X_write_48 : decode b_X_write 48 = .ok (.iload_n 2, 1) := by decide +kernel
theorem d_X_write_49 : decode b_X_write 49 = .ok (.iastore, 1) := by decide +kernel
theorem d_X_write_50 : decode b_X_write 50 = .ok (.iload_n 3, 1) := by decide +kernel
theorem d_X_write_51 : decode b_X_write 51 = .ok (.sipush 1010, 3) := by decide +kernel
theorem d_X_write_54 : decode b_X_write 54 = .ok (.if_icmp .ne 22, 3) := by decide +kernel
theorem d_X_write_57 : decode b_X_write 57 = .ok (.iload_n 2, 1) := by decide +kernel
theorem d_X_write_58 : decode b_X_write 58 = .ok (.bipush 7, 2) := by decide +kernel
theorem d_X_write_60 : decode b_X_write 60 = .ok (.if_icmp .le 11, 3) := by decide +kernel
theorem d_X_write_63 : decode b_X_write 63 = .ok (.aload_n 0, 1) := by decide +kernel
theorem d_X_write_64 : decode b_X_write 64 = .ok (.iconst 3, 1) := by decide +kernel
theorem d_X_write_65 : decode b_X_write 65 = .ok (.putfield 32, 3) := by decide +kernel
theorem d_X_write_68 : decode b_X_write 68 = .ok (.goto 8, 3) := by decide +kernel
theorem d_X_write_71 : decode b_X_write 71 = .ok (.aload_n 0, 1) := by decide +kernel
theorem d_X_write_72 : decode b_X_write 72 = .ok (.iload_n 2, 1) := by decide +kernel
theorem d_X_write_73 : decode b_X_write 73 = .ok (.putfield 26, 3) := by decide +kernel
theorem d_X_write_76 : decode b_X_write 76 = .ok (.iconst 0, 1) := by decide +kernel
theorem d_X_write_77 : decode b_X_write 77 = .ok (.istore 4, 2) := by decide +kernel
theorem d_X_write_79 : decode b_X_write 79 = .ok (.iload 4, 2) := by decide +kernel
theorem d_X_write_81 : decode b_X_write 81 = .ok (.bipush 32, 2) := by decide +kernel
theorem d_X_write_83 : decode b_X_write 83 = .ok (.if_icmp .ge 85, 3) := by decide +kernel
theorem d_X_write_86 : decode b_X_write 86 = .ok (.iload_n 3, 1) := by decide +kernel
theorem d_X_write_87 : decode b_X_write 87 = .ok (.sipush 1011, 3) := by decide +kernel
theorem d_X_write_90 : decode b_X_write 90 = .ok (.if_icmp .eq 10, 3) := by decide +kernel
theorem d_X_write_93 : decode b_X_write 93 = .ok (.iload_n 3, 1) := by decide +kernel
theorem d_X_write_94 : decode b_X_write 94 = .ok (.sipush 1012, 3) := by decide +kernel
theorem d_X_write_97 : decode b_X_write 97 = .ok (.if_icmp .ne 71, 3) := by decide +kernel
theorem d_X_write_100 : decode b_X_write 100 = .ok (.iload_n 3, 1) := by decide +kernel
theorem d_X_write_101 : decode b_X_write 101 = .ok (.sipush 1011, 3) := by decide +kernel
theorem d_X_write_104 : decode b_X_write 104 = .ok (.if_icmp .ne 32, 3) := by decide +kernel
theorem d_X_write_107 : decode b_X_write 107 = .ok (.aload_n 0, 1) := by decide +kernel
theorem d_X_write_108 : decode b_X_write 108 = .ok (.getfield 7, 3) := by decide +kernel
theorem d_X_write_111 : decode b_X_write 111 = .ok (.sipush 768, 3) := by decide +kernel
theorem d_X_write_114 : decode b_X_write 114 = .ok (.iload 4, 2) := by decide +kernel
theorem d_X_write_116 : decode b_X_write 116 = .ok (.iadd, 1) := by decide +kernel
theorem d_X_write_117 : decode b_X_write 117 = .ok (.aload_n 0, 1) := by decide +kernel
theorem d_X_write_118 : decode b_X_write 118 = .ok (.getfield 13, 3) := by decide +kernel
theorem d_X_write_121 : decode b_X_write 121 = .ok (.bipush 32, 2) := by decide +kernel
theorem d_X_write_123 : decode b_X_write 123 = .ok (.aload_n 0, 1) := by decide +kernel
theorem d_X_write_124 : decode b_X_write 124 = .ok (.getfield 26, 3) := by decide +kernel
theorem d_X_write_127 : decode b_X_write 127 = .ok (.imul, 1) := by decide +kernel
theorem d_X_write_128 : decode b_X_write 128 = .ok (.iload 4, 2) := by decide +kernel
theorem d_X_write_130 : decode b_X_write 130 = .ok (.iadd, 1) := by decide +kernel
theorem d_X_write_131 : decode b_X_write 131 = .ok (.iaload, 1) := by decide +kernel
theorem d_X_write_132 : decode b_X_write 132 = .ok (.iastore, 1) := by decide +kernel
theorem d_X_write_133 : decode b_X_write 133 = .ok (.goto 29, 3) := by decide +kernel
theorem d_X_write_136 : decode b_X_write 136 = .ok (.aload_n 0, 1) := by decide +kernel
theorem d_X_write_137 : decode b_X_write 137 = .ok (.getfield 13, 3) := by decide +kernel
theorem d_X_write_140 : decode b_X_write 140 = .ok (.bipush 32, 2) := by decide +kernel
theorem d_X_write_142 : decode b_X_write 142 = .ok (.aload_n 0, 1) := by decide +kernel
theorem d_X_write_143 : decode b_X_write 143 = .ok (.getfield 26, 3) := by decide +kernel
theorem d_X_write_146 : decode b_X_write 146 = .ok (.imul, 1) := by decide +kernel
theorem d_X_write_147 : decode b_X_write 147 = .ok (.iload 4, 2) := by decide +kernel
theorem d_X_write_149 : decode b_X_write 149 = .ok (.iadd, 1) := by decide +kernel
theorem d_X_write_150 : decode b_X_write 150 = .ok (.aload_n 0, 1) := by decide +kernel
theorem d_X_write_151 : decode b_X_write 151 = .ok (.getfield 7, 3) := by decide +kernel
theorem d_X_write_154 : decode b_X_write 154 = .ok (.sipush 768, 3) := by decide +kernel
theorem d_X_write_157 : decode b_X_write 157 = .ok (.iload 4, 2) := by decide +kernel
theorem d_X_write_159 : decode b_X_write 159 = .ok (.iadd, 1) := by decide +kernel
theorem d_X_write_160 : decode b_X_write 160 = .ok (.iaload, 1) := by decide +kernel
theorem d_X_write_161 : decode b_X_write 161 = .ok (.iastore, 1) := by decide +kernel
theorem d_X_write_162 : decode b_X_write 162 = .ok (.iinc 4 1, 3) := by decide +kernel
theorem d_X_write_165 : decode b_X_write 165 = .ok (.goto (-86), 3) := by decide +kernel
theorem d_X_write_168 : decode b_X_write 168 = .ok (.return_, 1) := by decide +kernel
theorem d_X_push_0 : decode b_X_push 0 = .ok (.aload_n 0, 1) := by decide +kernel
theorem d_X_push_1 : decode b_X_push 1 = .ok (.sipush 256, 3) := by decide +kernel
theorem d_X_push_4 : decode b_X_push 4 = .ok (.aload_n 0, 1) := by decide +kernel
theorem d_X_push_5 : decode b_X_push 5 = .ok (.getfield 16, 3) := by decide +kernel
theorem d_X_push_8 : decode b_X_push 8 = .ok (.iconst 3, 1) := by decide +kernel
theorem d_X_push_9 : decode b_X_push 9 = .ok (.iaload, 1) := by decide +kernel
theorem d_X_push_10 : decode b_X_push 10 = .ok (.iadd, 1) := by decide +kernel
theorem d_X_push_11 : decode b_X_push 11 = .ok (.iload_n 1, 1) := by decide +kernel
theorem d_X_push_12 : decode b_X_push 12 = .ok (.invokevirtual 39, 3) := by decide +kernel
theorem d_X_push_15 : decode b_X_push 15 = .ok (.aload_n 0, 1) := by decide +kernel
theorem d_X_push_16 : decode b_X_push 16 = .ok (.getfield 16, 3) := by decide +kernel
theorem d_X_push_19 : decode b_X_push 19 = .ok (.iconst 3, 1) := by decide +kernel
theorem d_X_push_20 : decode b_X_push 20 = .ok (.aload_n 0, 1) := by decide +kernel
theorem d_X_push_21 : decode b_X_push 21 = .ok (.getfield 16, 3) := by decide +kernel
theorem d_X_push_24 : decode b_X_push 24 = .ok (.iconst 3, 1) := by decide +kernel
theorem d_X_push_25 : decode b_X_push 25 = .ok (.iaload, 1) := by decide +kernel
theorem d_X_push_26 : decode b_X_push 26 = .ok (.iconst 1, 1) := by decide +kernel
theorem d_X_push_27 : decode b_X_push 27 = .ok (.isub, 1) := by decide +kernel
theorem d_X_push_28 : decode b_X_push 28 = .ok (.sipush 255, 3) := by decide +kernel
theorem d_X_push_31 : decode b_X_push 31 = .ok (.iand, 1) := by decide +kernel
theorem d_X_push_32 : decode b_X_push 32 = .ok (.iastore, 1) := by decide +kernel
theorem d_X_push_33 : decode b_X_push 33 = .ok (.return_, 1) := by decide +kernel
theorem d_X_sums_0 : decode b_X_sums 0 = .ok (.iload_n 1, 1) := by decide +kernel
theorem d_X_sums_1 : decode b_X_sums 1 = .ok (.iconst 4, 1) := by decide +kernel
theorem d_X_sums_2 : decode b_X_sums 2 = .ok (.if_icmp .ne 14, 3) := by decide +kernel
theorem d_X_sums_5 : decode b_X_sums 5 = .ok (.iload_n 2, 1) := by decide +kernel
theorem d_X_sums_6 : decode b_X_sums 6 = .ok (.iconst 2, 1) := by decide +kernel
theorem d_X_sums_7 : decode b_X_sums 7 = .ok (.if_icmp .ne 9, 3) := by decide +kernel
theorem d_X_sums_10 : decode b_X_sums 10 = .ok (.aload_n 0, 1) := by decide +kernel
theorem d_X_sums_11 : decode b_X_sums 11 = .ok (.iconst 4, 1) := by decide +kernel
theorem d_X_sums_12 : decode b_X_sums 12 = .ok (.putfield 32, 3) := by decide +kernel
theorem d_X_sums_15 : decode b_X_sums 15 = .ok (.return_, 1) := by decide +kernel
theorem d_X_sums_16 : decode b_X_sums 16 = .ok (.iload_n 2, 1) := by decide +kernel
theorem d_X_sums_17 : decode b_X_sums 17 = .ok (.invokestatic 74, 3) := by decide +kernel
theorem d_X_sums_20 : decode b_X_sums 20 = .ok (.istore_n 3, 1) := by decide +kernel
theorem d_X_sums_21 : decode b_X_sums 21 = .ok (.aload_n 0, 1) := by decide +kernel
theorem d_X_sums_22 : decode b_X_sums 22 = .ok (.iload_n 3, 1) := by decide +kernel
theorem d_X_sums_23 : decode b_X_sums 23 = .ok (.invokevirtual 77, 3) := by decide +kernel
theorem d_X_sums_26 : decode b_X_sums 26 = .ok (.istore 4, 2) := by decide +kernel
theorem d_X_sums_28 : decode b_X_sums 28 = .ok (.iload_n 1, 1) := by decide +kernel
theorem d_X_sums_29 : decode b_X_sums 29 = .ok (.iconst 4, 1) := by decide +kernel
theorem d_X_sums_30 : decode b_X_sums 30 = .ok (.if_icmp .ne 16, 3) := by decide +kernel
theorem d_X_sums_33 : decode b_X_sums 33 = .ok (.aload_n 0, 1) := by decide +kernel
theorem d_X_sums_34 : decode b_X_sums 34 = .ok (.iload 4, 2) := by decide +kernel
theorem d_X_sums_36 : decode b_X_sums 36 = .ok (.aload_n 0, 1) := by decide +kernel
theorem d_X_sums_37 : decode b_X_sums 37 = .ok (.getfield 16, 3) := by decide +kernel
theorem d_X_sums_40 : decode b_X_sums 40 = .ok (.iconst 0, 1) := by decide +kernel
theorem d_X_sums_41 : decode b_X_sums 41 = .ok (.iaload, 1) := by decide +kernel
theorem d_X_sums_42 : decode b_X_sums 42 = .ok (.invokevirtual 39, 3) := by decide +kernel
theorem d_X_sums_45 : decode b_X_sums 45 = .ok (.return_, 1) := by decide +kernel
theorem d_X_sums_46 : decode b_X_sums 46 = .ok (.aload_n 0, 1) := by decide +kernel
theorem d_X_sums_47 : decode b_X_sums 47 = .ok (.iload_n 3, 1) := by decide +kernel
theorem d_X_sums_48 : decode b_X_sums 48 = .ok (.iload 4, 2) := by decide +kernel
theorem d_X_sums_50 : decode b_X_sums 50 = .ok (.invokevirtual 80, 3) := by decide +kernel
theorem d_X_sums_53 : decode b_X_sums 53 = .ok (.istore 5, 2) := by decide +kernel
theorem d_X_sums_55 : decode b_X_sums 55 = .ok (.iload_n 1, 1) := by decide +kernel
theorem d_X_sums_56 : decode b_X_sums 56 = .ok (.ifCond .ne 21, 3) := by decide +kernel
theorem d_X_sums_59 : decode b_X_sums 59 = .ok (.aload_n 0, 1) := by decide +kernel
theorem d_X_sums_60 : decode b_X_sums 60 = .ok (.iconst 0, 1) := by decide +kernel
theorem d_X_sums_61 : decode b_X_sums 61 = .ok (.aload_n 0, 1) := by decide +kernel
theorem d_X_sums_62 : decode b_X_sums 62 = .ok (.getfield 16, 3) := by decide +kernel
theorem d_X_sums_65 : decode b_X_sums 65 = .ok (.iconst 0, 1) := by decide +kernel
theorem d_X_sums_66 : decode b_X_sums 66 = .ok (.iaload, 1) := by decide +kernel
theorem d_X_sums_67 : decode b_X_sums 67 = .ok (.iload 5, 2) := by decide +kernel
theorem d_X_sums_69 : decode b_X_sums 69 = .ok (.ior, 1) := by decide +kernel
theorem d_X_sums_70 : decode b_X_sums 70 = .ok (.iconst 1, 1) := by decide +kernel
theorem d_X_sums_71 : decode b_X_sums 71 = .ok (.invokevirtual 70, 3) := by decide +kernel
theorem d_X_sums_74 : decode b_X_sums 74 = .ok (.goto 110, 3) := by decide +kernel
theorem d_X_sums_77 : decode b_X_sums 77 = .ok (.iload_n 1, 1) := by decide +kernel
theorem d_X_sums_78 : decode b_X_sums 78 = .ok (.iconst 1, 1) := by decide +kernel
theorem d_X_sums_79 : decode b_X_sums 79 = .ok (.if_icmp .ne 21, 3) := by decide +kernel
theorem d_X_sums_82 : decode b_X_sums 82 = .ok (.aload_n 0, 1) := by decide +kernel
theorem d_X_sums_83 : decode b_X_sums 83 = .ok (.iconst 0, 1) := by decide +kernel
theorem d_X_sums_84 : decode b_X_sums 84 = .ok (.aload_n 0, 1) := by decide +kernel
theorem d_X_sums_85 : decode b_X_sums 85 = .ok (.getfield 16, 3) := by decide +kernel
theorem d_X_sums_88 : decode b_X_sums 88 = .ok (.iconst 0, 1) := by decide +kernel
theorem d_X_sums_89 : decode b_X_sums 89 = .ok (.iaload, 1) := by decide +kernel
theorem d_X_sums_90 : decode b_X_sums 90 = .ok (.iload 5, 2) := by decide +kernel
theorem d_X_sums_92 : decode b_X_sums 92 = .ok (.iand, 1) := by decide +kernel
theorem d_X_sums_93 : decode b_X_sums 93 = .ok (.iconst 1, 1) := by decide +kernel
theorem d_X_sums_94 : decode b_X_sums 94 = .ok (.invokevirtual 70, 3) := by decide +kernel
theorem d_X_sums_97 : decode b_X_sums 97 = .ok (.goto 87, 3) := by decide +kernel
theorem d_X_sums_100 : decode b_X_sums 100 = .ok (.iload_n 1, 1) := by decide +kernel
theorem d_X_sums_101 : decode b_X_sums 101 = .ok (.iconst 2, 1) := by decide +kernel
theorem d_X_sums_102 : decode b_X_sums 102 = .ok (.if_icmp .ne 21, 3) := by decide +kernel
theorem d_X_sums_105 : decode b_X_sums 105 = .ok (.aload_n 0, 1) := by decide +kernel
theorem d_X_sums_106 : decode b_X_sums 106 = .ok (.iconst 0, 1) := by decide +kernel
theorem d_X_sums_107 : decode b_X_sums 107 = .ok (.aload_n 0, 1) := by decide +kernel
theorem d_X_sums_108 : decode b_X_sums 108 = .ok (.getfield 16, 3) := by decide +kernel
theorem d_X_sums_111 : decode b_X_sums 111 = .ok (.iconst 0, 1) := by decide +kernel
theorem d_X_sums_112 : decode b_X_sums 112 = .ok (.iaload, 1) := by decide +kernel
theorem d_X_sums_113 : decode b_X_sums 113 = .ok (.iload 5, 2) := by decide +kernel
theorem d_X_sums_115 : decode b_X_sums 115 = .ok (.ixor, 1) := by decide +kernel
theorem d_X_sums_116 : decode b_X_sums 116 = .ok (.iconst 1, 1) := by decide +kernel
theorem d_X_sums_117 : decode b_X_sums 117 = .ok (.invokevirtual 70, 3) := by decide +kernel
theorem d_X_sums_120 : decode b_X_sums 120 = .ok (.goto 64, 3) := by decide +kernel
theorem d_X_sums_123 : decode b_X_sums 123 = .ok (.iload_n 1, 1) := by decide +kernel
theorem d_X_sums_124 : decode b_X_sums 124 = .ok (.iconst 3, 1) := by decide +kernel
theorem d_X_sums_125 : decode b_X_sums 125 = .ok (.if_icmp .ne 12, 3) := by decide +kernel
theorem d_X_sums_128 : decode b_X_sums 128 = .ok (.aload_n 0, 1) := by decide +kernel
theorem d_X_sums_129 : decode b_X_sums 129 = .ok (.iload 5, 2) := by decide +kernel
theorem d_X_sums_131 : decode b_X_sums 131 = .ok (.invokevirtual 84, 3) := by decide +kernel
theorem d_X_sums_134 : decode b_X_sums 134 = .ok (.goto 50, 3) := by decide +kernel
theorem d_X_sums_137 : decode b_X_sums 137 = .ok (.iload_n 1, 1) := by decide +kernel
theorem d_X_sums_138 : decode b_X_sums 138 = .ok (.iconst 5, 1) := by decide +kernel
theorem d_X_sums_139 : decode b_X_sums 139 = .ok (.if_icmp .ne 14, 3) := by decide +kernel
theorem d_X_sums_142 : decode b_X_sums 142 = .ok (.aload_n 0, 1) := by decide +kernel
theorem d_X_sums_143 : decode b_X_sums 143 = .ok (.iconst 0, 1) := by decide +kernel
theorem d_X_sums_144 : decode b_X_sums 144 = .ok (.iload 5, 2) := by decide +kernel
theorem d_X_sums_146 : decode b_X_sums 146 = .ok (.iconst 1, 1) := by decide +kernel
theorem d_X_sums_147 : decode b_X_sums 147 = .ok (.invokevirtual 70, 3) := by decide +kernel
theorem d_X_sums_150 : decode b_X_sums 150 = .ok (.goto 34, 3) := by decide +kernel
theorem d_X_sums_153 : decode b_X_sums 153 = .ok (.iload_n 1, 1) := by decide +kernel
theorem d_X_sums_154 : decode b_X_sums 154 = .ok (.bipush 6, 2) := by decide +kernel
theorem d_X_sums_156 : decode b_X_sums 156 = .ok (.if_icmp .ne 18, 3) := by decide +kernel
theorem d_X_sums_159 : decode b_X_sums 159 = .ok (.aload_n 0, 1) := by decide +kernel
theorem d_X_sums_160 : decode b_X_sums 160 = .ok (.aload_n 0, 1) := by decide +kernel
theorem d_X_sums_161 : decode b_X_sums 161 = .ok (.getfield 16, 3) := by decide +kernel
theorem d_X_sums_164 : decode b_X_sums 164 = .ok (.iconst 0, 1) := by decide +kernel
theorem d_X_sums_165 : decode b_X_sums 165 = .ok (.iaload, 1) := by decide +kernel
theorem d_X_sums_166 : decode b_X_sums 166 = .ok (.iload 5, 2) := by decide +kernel
theorem d_X_sums_168 : decode b_X_sums 168 = .ok (.invokevirtual 87, 3) := by decide +kernel
theorem d_X_sums_171 : decode b_X_sums 171 = .ok (.goto 13, 3) := by decide +kernel
theorem d_X_sums_174 : decode b_X_sums 174 = .ok (.aload_n 0, 1) := by decide +kernel
theorem d_X_sums_175 : decode b_X_sums 175 = .ok (.sipush 255, 3) := by decide +kernel
theorem d_X_sums_178 : decode b_X_sums 178 = .ok (.iload 5, 2) := by decide +kernel
theorem d_X_sums_180 : decode b_X_sums 180 = .ok (.isub, 1) := by decide +kernel
theorem d_X_sums_181 : decode b_X_sums 181 = .ok (.invokevirtual 84, 3) := by decide +kernel
theorem d_X_sums_184 : decode b_X_sums 184 = .ok (.return_, 1) := by decide +kernel
theorem d_X_changes_0 : decode b_X_changes 0 = .ok (.iload_n 2, 1) := by decide +kernel
theorem d_X_changes_1 : decode b_X_changes 1 = .ok (.iconst 2, 1) := by decide +kernel
theorem d_X_changes_2 : decode b_X_changes 2 = .ok (.if_icmp .ne 30, 3) := by decide +kernel
theorem d_X_changes_5 : decode b_X_changes 5 = .ok (.iload_n 1, 1) := by decide +kernel
theorem d_X_changes_6 : decode b_X_changes 6 = .ok (.bipush 6, 2) := by decide +kernel
theorem d_X_changes_8 : decode b_X_changes 8 = .ok (.if_icmp .lt 24, 3) := by decide +kernel
theorem d_X_changes_11 : decode b_X_changes 11 = .ok (.iload_n 1, 1) := by decide +kernel
theorem d_X_changes_12 : decode b_X_changes 12 = .ok (.bipush 6, 2) := by decide +kernel
theorem d_X_changes_14 : decode b_X_changes 14 = .ok (.if_icmp .ne 17, 3) := by decide +kernel
theorem d_X_changes_17 : decode b_X_changes 17 = .ok (.aload_n 0, 1) := by decide +kernel
theorem d_X_changes_18 : decode b_X_changes 18 = .ok (.iconst 1, 1) := by decide +kernel
theorem d_X_changes_19 : decode b_X_changes 19 = .ok (.aload_n 0, 1) := by decide +kernel
theorem d_X_changes_20 : decode b_X_changes 20 = .ok (.getfield 16, 3) := by decide +kernel
theorem d_X_changes_23 : decode b_X_changes 23 = .ok (.iconst 1, 1) := by decide +kernel
theorem d_X_changes_24 : decode b_X_changes 24 = .ok (.iaload, 1) := by decide +kernel
theorem d_X_changes_25 : decode b_X_changes 25 = .ok (.iconst 1, 1) := by decide +kernel
theorem d_X_changes_26 : decode b_X_changes 26 = .ok (.isub, 1) := by decide +kernel
theorem d_X_changes_27 : decode b_X_changes 27 = .ok (.iconst 1, 1) := by decide +kernel
theorem d_X_changes_28 : decode b_X_changes 28 = .ok (.invokevirtual 70, 3) := by decide +kernel
theorem d_X_changes_31 : decode b_X_changes 31 = .ok (.return_, 1) := by decide +kernel
theorem d_X_changes_32 : decode b_X_changes 32 = .ok (.iload_n 2, 1) := by decide +kernel
theorem d_X_changes_33 : decode b_X_changes 33 = .ok (.iconst 1, 1) := by decide +kernel
theorem d_X_changes_34 : decode b_X_changes 34 = .ok (.if_icmp .ne 7, 3) := by decide +kernel
theorem d_X_changes_37 : decode b_X_changes 37 = .ok (.iconst 1, 1) := by decide +kernel
theorem d_X_changes_38 : decode b_X_changes 38 = .ok (.goto 42, 3) := by decide +kernel
theorem d_X_changes_41 : decode b_X_changes 41 = .ok (.iload_n 2, 1) := by decide +kernel
theorem d_X_changes_42 : decode b_X_changes 42 = .ok (.iconst 2, 1) := by decide +kernel
theorem d_X_changes_43 : decode b_X_changes 43 = .ok (.if_icmp .ne 8, 3) := by decide +kernel
theorem d_X_changes_46 : decode b_X_changes 46 = .ok (.bipush 9, 2) := by decide +kernel
theorem d_X_changes_48 : decode b_X_changes 48 = .ok (.goto 32, 3) := by decide +kernel
theorem d_X_changes_51 : decode b_X_changes 51 = .ok (.iload_n 2, 1) := by decide +kernel
theorem d_X_changes_52 : decode b_X_changes 52 = .ok (.iconst 3, 1) := by decide +kernel
theorem d_X_changes_53 : decode b_X_changes 53 = .ok (.if_icmp .ne 7, 3) := by decide +kernel
theorem d_X_changes_56 : decode b_X_changes 56 = .ok (.iconst 4, 1) := by decide +kernel
theorem d_X_changes_57 : decode b_X_changes 57 = .ok (.goto 23, 3) := by decide +kernel
theorem d_X_changes_60 : decode b_X_changes 60 = .ok (.iload_n 2, 1) := by decide +kernel
theorem d_X_changes_61 : decode b_X_changes 61 = .ok (.iconst 5, 1) := by decide +kernel
theorem d_X_changes_62 : decode b_X_changes 62 = .ok (.if_icmp .ne 7, 3) := by decide +kernel
theorem d_X_changes_65 : decode b_X_changes 65 = .ok (.iconst 2, 1) := by decide +kernel
theorem d_X_changes_66 : decode b_X_changes 66 = .ok (.goto 14, 3) := by decide +kernel
theorem d_X_changes_69 : decode b_X_changes 69 = .ok (.iload_n 2, 1) := by decide +kernel
theorem d_X_changes_70 : decode b_X_changes 70 = .ok (.bipush 7, 2) := by decide +kernel
theorem d_X_changes_72 : decode b_X_changes 72 = .ok (.if_icmp .ne 7, 3) := by decide +kernel
theorem d_X_changes_75 : decode b_X_changes 75 = .ok (.iconst 5, 1) := by decide +kernel
theorem d_X_changes_76 : decode b_X_changes 76 = .ok (.goto 4, 3) := by decide +kernel
theorem d_X_changes_79 : decode b_X_changes 79 = .ok (.iconst (-1), 1) := by decide +kernel
theorem d_X_changes_80 : decode b_X_changes 80 = .ok (.istore_n 3, 1) := by decide +kernel
theorem d_X_changes_81 : decode b_X_changes 81 = .ok (.iload_n 3, 1) := by decide +kernel
theorem d_X_changes_82 : decode b_X_changes 82 = .ok (.ifCond .ge 9, 3) := by decide +kernel
theorem d_X_changes_85 : decode b_X_changes 85 = .ok (.aload_n 0, 1) := by decide +kernel
theorem d_X_changes_86 : decode b_X_changes 86 = .ok (.iconst 4, 1) := by decide +kernel
theorem d_X_changes_87 : decode b_X_changes 87 = .ok (.putfield 32, 3) := by decide +kernel
theorem d_X_changes_90 : decode b_X_changes 90 = .ok (.return_, 1) := by decide +kernel
theorem d_X_changes_91 : decode b_X_changes 91 = .ok (.aload_n 0, 1) := by decide +kernel
theorem d_X_changes_92 : decode b_X_changes 92 = .ok (.iload_n 3, 1) := by decide +kernel
theorem d_X_changes_93 : decode b_X_changes 93 = .ok (.invokevirtual 77, 3) := by decide +kernel
theorem d_X_changes_96 : decode b_X_changes 96 = .ok (.istore 4, 2) := by decide +kernel
theorem d_X_changes_98 : decode b_X_changes 98 = .ok (.aload_n 0, 1) := by decide +kernel
theorem d_X_changes_99 : decode b_X_changes 99 = .ok (.iload_n 1, 1) := by decide +kernel
theorem d_X_changes_100 : decode b_X_changes 100 = .ok (.aload_n 0, 1) := by decide +kernel
theorem d_X_changes_101 : decode b_X_changes 101 = .ok (.iload_n 3, 1) := by decide +kernel
theorem d_X_changes_102 : decode b_X_changes 102 = .ok (.iload 4, 2) := by decide +kernel
theorem d_X_changes_104 : decode b_X_changes 104 = .ok (.invokevirtual 80, 3) := by decide +kernel
theorem d_X_changes_107 : decode b_X_changes 107 = .ok (.invokevirtual 90, 3) := by decide +kernel
theorem d_X_changes_110 : decode b_X_changes 110 = .ok (.istore 5, 2) := by decide +kernel
theorem d_X_changes_112 : decode b_X_changes 112 = .ok (.iload_n 3, 1) := by decide +kernel
theorem d_X_changes_113 : decode b_X_changes 113 = .ok (.bipush 9, 2) := by decide +kernel
theorem d_X_changes_115 : decode b_X_changes 115 = .ok (.if_icmp .ne 14, 3) := by decide +kernel
theorem d_X_changes_118 : decode b_X_changes 118 = .ok (.aload_n 0, 1) := by decide +kernel
theorem d_X_changes_119 : decode b_X_changes 119 = .ok (.getfield 16, 3) := by decide +kernel
theorem d_X_changes_122 : decode b_X_changes 122 = .ok (.iconst 0, 1) := by decide +kernel
theorem d_X_changes_123 : decode b_X_changes 123 = .ok (.iload 5, 2) := by decide +kernel
theorem d_X_changes_125 : decode b_X_changes 125 = .ok (.iastore, 1) := by decide +kernel
theorem d_X_changes_126 : decode b_X_changes 126 = .ok (.goto 11, 3) := by decide +kernel
theorem d_X_changes_129 : decode b_X_changes 129 = .ok (.aload_n 0, 1) := by decide +kernel
theorem d_X_changes_130 : decode b_X_changes 130 = .ok (.iload 4, 2) := by decide +kernel
theorem d_X_changes_132 : decode b_X_changes 132 = .ok (.iload 5, 2) := by decide +kernel
theorem d_X_changes_134 : decode b_X_changes 134 = .ok (.invokevirtual 39, 3) := by decide +kernel
theorem d_X_changes_137 : decode b_X_changes 137 = .ok (.aload_n 0, 1) := by decide +kernel
theorem d_X_changes_138 : decode b_X_changes 138 = .ok (.iload 5, 2) := by decide +kernel
theorem d_X_changes_140 : decode b_X_changes 140 = .ok (.invokevirtual 66, 3) := by decide +kernel
theorem d_X_changes_143 : decode b_X_changes 143 = .ok (.return_, 1) := by decide +kernel
theorem d_X_moves_0 : decode b_X_moves 0 = .ok (.iload_n 2, 1) := by decide +kernel
theorem d_X_moves_1 : decode b_X_moves 1 = .ok (.iconst 2, 1) := by decide +kernel
theorem d_X_moves_2 : decode b_X_moves 2 = .ok (.if_icmp .ne 38, 3) := by decide +kernel
theorem d_X_moves_5 : decode b_X_moves 5 = .ok (.iload_n 1, 1) := by decide +kernel
theorem d_X_moves_6 : decode b_X_moves 6 = .ok (.iconst 4, 1) := by decide +kernel
theorem d_X_moves_7 : decode b_X_moves 7 = .ok (.if_icmp .ne 18, 3) := by decide +kernel
theorem d_X_moves_10 : decode b_X_moves 10 = .ok (.aload_n 0, 1) := by decide +kernel
theorem d_X_moves_11 : decode b_X_moves 11 = .ok (.iconst 0, 1) := by decide +kernel
theorem d_X_moves_12 : decode b_X_moves 12 = .ok (.aload_n 0, 1) := by decide +kernel
theorem d_X_moves_13 : decode b_X_moves 13 = .ok (.getfield 16, 3) := by decide +kernel
theorem d_X_moves_16 : decode b_X_moves 16 = .ok (.iconst 1, 1) := by decide +kernel
theorem d_X_moves_17 : decode b_X_moves 17 = .ok (.iaload, 1) := by decide +kernel
theorem d_X_moves_18 : decode b_X_moves 18 = .ok (.iconst 1, 1) := by decide +kernel
theorem d_X_moves_19 : decode b_X_moves 19 = .ok (.invokevirtual 70, 3) := by decide +kernel
theorem d_X_moves_22 : decode b_X_moves 22 = .ok (.goto 172, 3) := by decide +kernel
theorem d_X_moves_25 : decode b_X_moves 25 = .ok (.aload_n 0, 1) := by decide +kernel
theorem d_X_moves_26 : decode b_X_moves 26 = .ok (.iconst 1, 1) := by decide +kernel
theorem d_X_moves_27 : decode b_X_moves 27 = .ok (.aload_n 0, 1) := by decide +kernel
theorem d_X_moves_28 : decode b_X_moves 28 = .ok (.getfield 16, 3) := by decide +kernel
theorem d_X_moves_31 : decode b_X_moves 31 = .ok (.iconst 0, 1) := by decide +kernel
theorem d_X_moves_32 : decode b_X_moves 32 = .ok (.iaload, 1) := by decide +kernel
theorem d_X_moves_33 : decode b_X_moves 33 = .ok (.iconst 1, 1) := by decide +kernel
theorem d_X_moves_34 : decode b_X_moves 34 = .ok (.invokevirtual 70, 3) := by decide +kernel
theorem d_X_moves_37 : decode b_X_moves 37 = .ok (.goto 157, 3) := by decide +kernel
theorem d_X_moves_40 : decode b_X_moves 40 = .ok (.iload_n 2, 1) := by decide +kernel
theorem d_X_moves_41 : decode b_X_moves 41 = .ok (.bipush 6, 2) := by decide +kernel
theorem d_X_moves_43 : decode b_X_moves 43 = .ok (.if_icmp .ne 38, 3) := by decide +kernel
theorem d_X_moves_46 : decode b_X_moves 46 = .ok (.iload_n 1, 1) := by decide +kernel
theorem d_X_moves_47 : decode b_X_moves 47 = .ok (.iconst 4, 1) := by decide +kernel
theorem d_X_moves_48 : decode b_X_moves 48 = .ok (.if_icmp .ne 18, 3) := by decide +kernel
theorem d_X_moves_51 : decode b_X_moves 51 = .ok (.aload_n 0, 1) := by decide +kernel
theorem d_X_moves_52 : decode b_X_moves 52 = .ok (.iconst 3, 1) := by decide +kernel
theorem d_X_moves_53 : decode b_X_moves 53 = .ok (.aload_n 0, 1) := by decide +kernel
theorem d_X_moves_54 : decode b_X_moves 54 = .ok (.getfield 16, 3) := by decide +kernel
theorem d_X_moves_57 : decode b_X_moves 57 = .ok (.iconst 1, 1) := by decide +kernel
theorem d_X_moves_58 : decode b_X_moves 58 = .ok (.iaload, 1) := by decide +kernel
theorem d_X_moves_59 : decode b_X_moves 59 = .ok (.iconst 0, 1) := by decide +kernel
theorem d_X_moves_60 : decode b_X_moves 60 = .ok (.invokevirtual 70, 3) := by decide +kernel
theorem d_X_moves_63 : decode b_X_moves 63 = .ok (.goto 131, 3) := by decide +kernel
theorem d_X_moves_66 : decode b_X_moves 66 = .ok (.aload_n 0, 1) := by decide +kernel
theorem d_X_moves_67 : decode b_X_moves 67 = .ok (.iconst 1, 1) := by decide +kernel
theorem d_X_moves_68 : decode b_X_moves 68 = .ok (.aload_n 0, 1) := by decide +kernel
theorem d_X_moves_69 : decode b_X_moves 69 = .ok (.getfield 16, 3) := by decide +kernel
theorem d_X_moves_72 : decode b_X_moves 72 = .ok (.iconst 3, 1) := by decide +kernel
theorem d_X_moves_73 : decode b_X_moves 73 = .ok (.iaload, 1) := by decide +kernel
theorem d_X_moves_74 : decode b_X_moves 74 = .ok (.iconst 1, 1) := by decide +kernel
theorem d_X_moves_75 : decode b_X_moves 75 = .ok (.invokevirtual 70, 3) := by decide +kernel
theorem d_X_moves_78 : decode b_X_moves 78 = .ok (.goto 116, 3) := by decide +kernel
theorem d_X_moves_81 : decode b_X_moves 81 = .ok (.iload_n 2, 1) := by decide +kernel
theorem d_X_moves_82 : decode b_X_moves 82 = .ok (.ifCond .ne 7, 3) := by decide +kernel
theorem d_X_moves_85 : decode b_X_moves 85 = .ok (.iconst 0, 1) := by decide +kernel
theorem d_X_moves_86 : decode b_X_moves 86 = .ok (.goto 42, 3) := by decide +kernel
theorem d_X_moves_89 : decode b_X_moves 89 = .ok (.iload_n 2, 1) := by decide +kernel
theorem d_X_moves_90 : decode b_X_moves 90 = .ok (.iconst 1, 1) := by decide +kernel
theorem d_X_moves_91 : decode b_X_moves 91 = .ok (.if_icmp .ne 7, 3) := by decide +kernel
theorem d_X_moves_94 : decode b_X_moves 94 = .ok (.iconst 1, 1) := by decide +kernel
theorem d_X_moves_95 : decode b_X_moves 95 = .ok (.goto 33, 3) := by decide +kernel
theorem d_X_moves_98 : decode b_X_moves 98 = .ok (.iload_n 2, 1) := by decide +kernel
theorem d_X_moves_99 : decode b_X_moves 99 = .ok (.iconst 3, 1) := by decide +kernel
theorem d_X_moves_100 : decode b_X_moves 100 = .ok (.if_icmp .ne 7, 3) := by decide +kernel
theorem d_X_moves_103 : decode b_X_moves 103 = .ok (.iconst 4, 1) := by decide +kernel
theorem d_X_moves_104 : decode b_X_moves 104 = .ok (.goto 24, 3) := by decide +kernel
theorem d_X_moves_107 : decode b_X_moves 107 = .ok (.iload_n 2, 1) := by decide +kernel
theorem d_X_moves_108 : decode b_X_moves 108 = .ok (.iconst 5, 1) := by decide +kernel
theorem d_X_moves_109 : decode b_X_moves 109 = .ok (.if_icmp .ne 7, 3) := by decide +kernel
theorem d_X_moves_112 : decode b_X_moves 112 = .ok (.iconst 3, 1) := by decide +kernel
theorem d_X_moves_113 : decode b_X_moves 113 = .ok (.goto 15, 3) := by decide +kernel
theorem d_X_moves_116 : decode b_X_moves 116 = .ok (.iload_n 2, 1) := by decide +kernel
theorem d_X_moves_117 : decode b_X_moves 117 = .ok (.bipush 7, 2) := by decide +kernel
theorem d_X_moves_119 : decode b_X_moves 119 = .ok (.if_icmp .ne 8, 3) := by decide +kernel
theorem d_X_moves_122 : decode b_X_moves 122 = .ok (.bipush 6, 2) := by decide +kernel
theorem d_X_moves_124 : decode b_X_moves 124 = .ok (.goto 4, 3) := by decide +kernel
theorem d_X_moves_127 : decode b_X_moves 127 = .ok (.iconst (-1), 1) := by decide +kernel
theorem d_X_moves_128 : decode b_X_moves 128 = .ok (.istore_n 3, 1) := by decide +kernel
theorem d_X_moves_129 : decode b_X_moves 129 = .ok (.iload_n 3, 1) := by decide +kernel
theorem d_X_moves_130 : decode b_X_moves 130 = .ok (.ifCond .lt 18, 3) := by decide +kernel
theorem d_X_moves_133 : decode b_X_moves 133 = .ok (.iload_n 1, 1) := by decide +kernel
theorem d_X_moves_134 : decode b_X_moves 134 = .ok (.iconst 4, 1) := by decide +kernel
theorem d_X_moves_135 : decode b_X_moves 135 = .ok (.if_icmp .ne 19, 3) := by decide +kernel
theorem d_X_moves_138 : decode b_X_moves 138 = .ok (.iload_n 2, 1) := by decide +kernel
theorem d_X_moves_139 : decode b_X_moves 139 = .ok (.ifCond .eq 9, 3) := by decide +kernel
theorem d_X_moves_142 : decode b_X_moves 142 = .ok (.iload_n 2, 1) := by decide +kernel
theorem d_X_moves_143 : decode b_X_moves 143 = .ok (.bipush 7, 2) := by decide +kernel
theorem d_X_moves_145 : decode b_X_moves 145 = .ok (.if_icmp .ne 9, 3) := by decide +kernel
theorem d_X_moves_148 : decode b_X_moves 148 = .ok (.aload_n 0, 1) := by decide +kernel
theorem d_X_moves_149 : decode b_X_moves 149 = .ok (.iconst 4, 1) := by decide +kernel
theorem d_X_moves_150 : decode b_X_moves 150 = .ok (.putfield 32, 3) := by decide +kernel
theorem d_X_moves_153 : decode b_X_moves 153 = .ok (.return_, 1) := by decide +kernel
theorem d_X_moves_154 : decode b_X_moves 154 = .ok (.aload_n 0, 1) := by decide +kernel
theorem d_X_moves_155 : decode b_X_moves 155 = .ok (.iload_n 3, 1) := by decide +kernel
theorem d_X_moves_156 : decode b_X_moves 156 = .ok (.invokevirtual 77, 3) := by decide +kernel
theorem d_X_moves_159 : decode b_X_moves 159 = .ok (.istore 4, 2) := by decide +kernel
theorem d_X_moves_161 : decode b_X_moves 161 = .ok (.iload_n 1, 1) := by decide +kernel
theorem d_X_moves_162 : decode b_X_moves 162 = .ok (.iconst 4, 1) := by decide +kernel
theorem d_X_moves_163 : decode b_X_moves 163 = .ok (.if_icmp .ne 18, 3) := by decide +kernel
theorem d_X_moves_166 : decode b_X_moves 166 = .ok (.aload_n 0, 1) := by decide +kernel
theorem d_X_moves_167 : decode b_X_moves 167 = .ok (.iload 4, 2) := by decide +kernel
theorem d_X_moves_169 : decode b_X_moves 169 = .ok (.aload_n 0, 1) := by decide +kernel
theorem d_X_moves_170 : decode b_X_moves 170 = .ok (.getfield 16, 3) := by decide +kernel
theorem d_X_moves_173 : decode b_X_moves 173 = .ok (.iconst 1, 1) := by decide +kernel
theorem d_X_moves_174 : decode b_X_moves 174 = .ok (.iaload, 1) := by decide +kernel
theorem d_X_moves_175 : decode b_X_moves 175 = .ok (.invokevirtual 39, 3) := by decide +kernel
theorem d_X_moves_178 : decode b_X_moves 178 = .ok (.goto 16, 3) := by decide +kernel
theorem d_X_moves_181 : decode b_X_moves 181 = .ok (.aload_n 0, 1) := by decide +kernel
theorem d_X_moves_182 : decode b_X_moves 182 = .ok (.iconst 1, 1) := by decide +kernel
theorem d_X_moves_183 : decode b_X_moves 183 = .ok (.aload_n 0, 1) := by decide +kernel
theorem d_X_moves_184 : decode b_X_moves 184 = .ok (.iload_n 3, 1) := by decide +kernel
theorem d_X_moves_185 : decode b_X_moves 185 = .ok (.iload 4, 2) := by decide +kernel
theorem d_X_moves_187 : decode b_X_moves 187 = .ok (.invokevirtual 80, 3) := by decide +kernel
theorem d_X_moves_190 : decode b_X_moves 190 = .ok (.iconst 1, 1) := by decide +kernel
theorem d_X_moves_191 : decode b_X_moves 191 = .ok (.invokevirtual 70, 3) := by decide +kernel
theorem d_X_moves_194 : decode b_X_moves 194 = .ok (.return_, 1) := by decide +kernel
theorem d_X_single_0 : decode b_X_single 0 = .ok (.iload_n 1, 1) := by decide +kernel
theorem d_X_single_1 : decode b_X_single 1 = .ok (.ifCond .ne 11, 3) := by decide +kernel
theorem d_X_single_4 : decode b_X_single 4 = .ok (.aload_n 0, 1) := by decide +kernel
theorem d_X_single_5 : decode b_X_single 5 = .ok (.iconst 1, 1) := by decide +kernel
theorem d_X_single_6 : decode b_X_single 6 = .ok (.putfield 32, 3) := by decide +kernel
theorem d_X_single_9 : decode b_X_single 9 = .ok (.goto 334, 3) := by decide +kernel
theorem d_X_single_12 : decode b_X_single 12 = .ok (.iload_n 1, 1) := by decide +kernel
theorem d_X_single_13 : decode b_X_single 13 = .ok (.bipush 32, 2) := by decide +kernel
theorem d_X_single_15 : decode b_X_single 15 = .ok (.if_icmp .ne 55, 3) := by decide +kernel
theorem d_X_single_18 : decode b_X_single 18 = .ok (.aload_n 0, 1) := by decide +kernel
theorem d_X_single_19 : decode b_X_single 19 = .ok (.invokevirtual 57, 3) := by decide +kernel
theorem d_X_single_22 : decode b_X_single 22 = .ok (.aload_n 0, 1) := by decide +kernel
theorem d_X_single_23 : decode b_X_single 23 = .ok (.getfield 16, 3) := by decide +kernel
theorem d_X_single_26 : decode b_X_single 26 = .ok (.iconst 4, 1) := by decide +kernel
theorem d_X_single_27 : decode b_X_single 27 = .ok (.iaload, 1) := by decide +kernel
theorem d_X_single_28 : decode b_X_single 28 = .ok (.iconst 1, 1) := by decide +kernel
theorem d_X_single_29 : decode b_X_single 29 = .ok (.isub, 1) := by decide +kernel
theorem d_X_single_30 : decode b_X_single 30 = .ok (.sipush 1023, 3) := by decide +kernel
theorem d_X_single_33 : decode b_X_single 33 = .ok (.iand, 1) := by decide +kernel
theorem d_X_single_34 : decode b_X_single 34 = .ok (.istore_n 2, 1) := by decide +kernel
theorem d_X_single_35 : decode b_X_single 35 = .ok (.aload_n 0, 1) := by decide +kernel
theorem d_X_single_36 : decode b_X_single 36 = .ok (.iload_n 2, 1) := by decide +kernel
theorem d_X_single_37 : decode b_X_single 37 = .ok (.sipush 256, 3) := by decide +kernel
theorem d_X_single_40 : decode b_X_single 40 = .ok (.idiv, 1) := by decide +kernel
theorem d_X_single_41 : decode b_X_single 41 = .ok (.invokevirtual 93, 3) := by decide +kernel
theorem d_X_single_44 : decode b_X_single 44 = .ok (.aload_n 0, 1) := by decide +kernel
theorem d_X_single_45 : decode b_X_single 45 = .ok (.iload_n 2, 1) := by decide +kernel
theorem d_X_single_46 : decode b_X_single 46 = .ok (.sipush 256, 3) := by decide +kernel
theorem d_X_single_49 : decode b_X_single 49 = .ok (.irem, 1) := by decide +kernel
theorem d_X_single_50 : decode b_X_single 50 = .ok (.invokevirtual 93, 3) := by decide +kernel
theorem d_X_single_53 : decode b_X_single 53 = .ok (.aload_n 0, 1) := by decide +kernel
theorem d_X_single_54 : decode b_X_single 54 = .ok (.getfield 16, 3) := by decide +kernel
theorem d_X_single_57 : decode b_X_single 57 = .ok (.iconst 4, 1) := by decide +kernel
theorem d_X_single_58 : decode b_X_single 58 = .ok (.aload_n 0, 1) := by decide +kernel
theorem d_X_single_59 : decode b_X_single 59 = .ok (.getfield 54, 3) := by decide +kernel
theorem d_X_single_62 : decode b_X_single 62 = .ok (.sipush 1023, 3) := by decide +kernel
theorem d_X_single_65 : decode b_X_single 65 = .ok (.iand, 1) := by decide +kernel
theorem d_X_single_66 : decode b_X_single 66 = .ok (.iastore, 1) := by decide +kernel
theorem d_X_single_67 : decode b_X_single 67 = .ok (.goto 276, 3) := by decide +kernel
theorem d_X_single_70 : decode b_X_single 70 = .ok (.iload_n 1, 1) := by decide +kernel
theorem d_X_single_71 : decode b_X_single 71 = .ok (.bipush 96, 2) := by decide +kernel
theorem d_X_single_73 : decode b_X_single 73 = .ok (.if_icmp .ne 33, 3) := by decide +kernel
theorem d_X_single_76 : decode b_X_single 76 = .ok (.aload_n 0, 1) := by decide +kernel
theorem d_X_single_77 : decode b_X_single 77 = .ok (.invokevirtual 96, 3) := by decide +kernel
theorem d_X_single_80 : decode b_X_single 80 = .ok (.istore_n 2, 1) := by decide +kernel
theorem d_X_single_81 : decode b_X_single 81 = .ok (.aload_n 0, 1) := by decide +kernel
theorem d_X_single_82 : decode b_X_single 82 = .ok (.getfield 16, 3) := by decide +kernel
theorem d_X_single_85 : decode b_X_single 85 = .ok (.iconst 4, 1) := by decide +kernel
theorem d_X_single_86 : decode b_X_single 86 = .ok (.iload_n 2, 1) := by decide +kernel
theorem d_X_single_87 : decode b_X_single 87 = .ok (.sipush 256, 3) := by decide +kernel
theorem d_X_single_90 : decode b_X_single 90 = .ok (.aload_n 0, 1) := by decide +kernel
theorem d_X_single_91 : decode b_X_single 91 = .ok (.invokevirtual 96, 3) := by decide +kernel
theorem d_X_single_94 : decode b_X_single 94 = .ok (.imul, 1) := by decide +kernel
theorem d_X_single_95 : decode b_X_single 95 = .ok (.iadd, 1) := by decide +kernel
theorem d_X_single_96 : decode b_X_single 96 = .ok (.iconst 1, 1) := by decide +kernel
theorem d_X_single_97 : decode b_X_single 97 = .ok (.iadd, 1) := by decide +kernel
theorem d_X_single_98 : decode b_X_single 98 = .ok (.sipush 1023, 3) := by decide +kernel
theorem d_X_single_101 : decode b_X_single 101 = .ok (.iand, 1) := by decide +kernel
theorem d_X_single_102 : decode b_X_single 102 = .ok (.iastore, 1) := by decide +kernel
theorem d_X_single_103 : decode b_X_single 103 = .ok (.goto 240, 3) := by decide +kernel
theorem d_X_single_106 : decode b_X_single 106 = .ok (.iload_n 1, 1) := by decide +kernel
theorem d_X_single_107 : decode b_X_single 107 = .ok (.bipush 8, 2) := by decide +kernel
theorem d_X_single_109 : decode b_X_single 109 = .ok (.if_icmp .ne 14, 3) := by decide +kernel
theorem d_X_single_112 : decode b_X_single 112 = .ok (.aload_n 0, 1) := by decide +kernel
theorem d_X_single_113 : decode b_X_single 113 = .ok (.aload_n 0, 1) := by decide +kernel
theorem d_X_single_114 : decode b_X_single 114 = .ok (.invokevirtual 99, 3) := by decide +kernel
theorem d_X_single_117 : decode b_X_single 117 = .ok (.invokevirtual 93, 3) := by decide +kernel
theorem d_X_single_120 : decode b_X_single 120 = .ok (.goto 223, 3) := by decide +kernel
theorem d_X_single_123 : decode b_X_single 123 = .ok (.iload_n 1, 1) := by decide +kernel
theorem d_X_single_124 : decode b_X_single 124 = .ok (.bipush 40, 2) := by decide +kernel
theorem d_X_single_126 : decode b_X_single 126 = .ok (.if_icmp .ne 14, 3) := by decide +kernel
theorem d_X_single_129 : decode b_X_single 129 = .ok (.aload_n 0, 1) := by decide +kernel
theorem d_X_single_130 : decode b_X_single 130 = .ok (.aload_n 0, 1) := by decide +kernel
theorem d_X_single_131 : decode b_X_single 131 = .ok (.invokevirtual 96, 3) := by decide +kernel
theorem d_X_single_134 : decode b_X_single 134 = .ok (.invokevirtual 102, 3) := by decide +kernel
theorem d_X_single_137 : decode b_X_single 137 = .ok (.goto 206, 3) := by decide +kernel
theorem d_X_single_140 : decode b_X_single 140 = .ok (.iload_n 1, 1) := by decide +kernel
theorem d_X_single_141 : decode b_X_single 141 = .ok (.bipush 72, 2) := by decide +kernel
theorem d_X_single_143 : decode b_X_single 143 = .ok (.if_icmp .ne 16, 3) := by decide +kernel
theorem d_X_single_146 : decode b_X_single 146 = .ok (.aload_n 0, 1) := by decide +kernel
theorem d_X_single_147 : decode b_X_single 147 = .ok (.aload_n 0, 1) := by decide +kernel
theorem d_X_single_148 : decode b_X_single 148 = .ok (.getfield 16, 3) := by decide +kernel
theorem d_X_single_151 : decode b_X_single 151 = .ok (.iconst 0, 1) := by decide +kernel
theorem d_X_single_152 : decode b_X_single 152 = .ok (.iaload, 1) := by decide +kernel
theorem d_X_single_153 : decode b_X_single 153 = .ok (.invokevirtual 93, 3) := by decide +kernel
theorem d_X_single_156 : decode b_X_single 156 = .ok (.goto 187, 3) := by decide +kernel
theorem d_X_single_159 : decode b_X_single 159 = .ok (.iload_n 1, 1) := by decide +kernel
theorem d_X_single_160 : decode b_X_single 160 = .ok (.bipush 104, 2) := by decide +kernel
theorem d_X_single_162 : decode b_X_single 162 = .ok (.if_icmp .ne 16, 3) := by decide +kernel
theorem d_X_single_165 : decode b_X_single 165 = .ok (.aload_n 0, 1) := by decide +kernel
theorem d_X_single_166 : decode b_X_single 166 = .ok (.iconst 0, 1) := by decide +kernel
theorem d_X_single_167 : decode b_X_single 167 = .ok (.aload_n 0, 1) := by decide +kernel
theorem d_X_single_168 : decode b_X_single 168 = .ok (.invokevirtual 96, 3) := by decide +kernel
theorem d_X_single_171 : decode b_X_single 171 = .ok (.iconst 1, 1) := by decide +kernel
theorem d_X_single_172 : decode b_X_single 172 = .ok (.invokevirtual 70, 3) := by decide +kernel
theorem d_X_single_175 : decode b_X_single 175 = .ok (.goto 168, 3) := by decide +kernel
theorem d_X_single_178 : decode b_X_single 178 = .ok (.iload_n 1, 1) := by decide +kernel
theorem d_X_single_179 : decode b_X_single 179 = .ok (.sipush 136, 3) := by decide +kernel
theorem d_X_single_182 : decode b_X_single 182 = .ok (.if_icmp .ne 20, 3) := by decide +kernel
theorem d_X_single_185 : decode b_X_single 185 = .ok (.aload_n 0, 1) := by decide +kernel
theorem d_X_single_186 : decode b_X_single 186 = .ok (.iconst 2, 1) := by decide +kernel
theorem d_X_single_187 : decode b_X_single 187 = .ok (.aload_n 0, 1) := by decide +kernel
theorem d_X_single_188 : decode b_X_single 188 = .ok (.getfield 16, 3) := by decide +kernel
theorem d_X_single_191 : decode b_X_single 191 = .ok (.iconst 2, 1) := by decide +kernel
theorem d_X_single_192 : decode b_X_single 192 = .ok (.iaload, 1) := by decide +kernel
theorem d_X_single_193 : decode b_X_single 193 = .ok (.iconst 1, 1) := by decide +kernel
theorem d_X_single_194 : decode b_X_single 194 = .ok (.isub, 1) := by decide +kernel
theorem d_X_single_195 : decode b_X_single 195 = .ok (.iconst 1, 1) := by decide +kernel
theorem d_X_single_196 : decode b_X_single 196 = .ok (.invokevirtual 70, 3) := by decide +kernel
theorem d_X_single_199 : decode b_X_single 199 = .ok (.goto 144, 3) := by decide +kernel
theorem d_X_single_202 : decode b_X_single 202 = .ok (.iload_n 1, 1) := by decide +kernel
theorem d_X_single_203 : decode b_X_single 203 = .ok (.sipush 168, 3) := by decide +kernel
theorem d_X_single_206 : decode b_X_single 206 = .ok (.if_icmp .ne 18, 3) := by decide +kernel
theorem d_X_single_209 : decode b_X_single 209 = .ok (.aload_n 0, 1) := by decide +kernel
theorem d_X_single_210 : decode b_X_single 210 = .ok (.iconst 2, 1) := by decide +kernel
theorem d_X_single_211 : decode b_X_single 211 = .ok (.aload_n 0, 1) := by decide +kernel
theorem d_X_single_212 : decode b_X_single 212 = .ok (.getfield 16, 3) := by decide +kernel
theorem d_X_single_215 : decode b_X_single 215 = .ok (.iconst 0, 1) := by decide +kernel
theorem d_X_single_216 : decode b_X_single 216 = .ok (.iaload, 1) := by decide +kernel
theorem d_X_single_217 : decode b_X_single 217 = .ok (.iconst 1, 1) := by decide +kernel
theorem d_X_single_218 : decode b_X_single 218 = .ok (.invokevirtual 70, 3) := by decide +kernel
theorem d_X_single_221 : decode b_X_single 221 = .ok (.goto 122, 3) := by decide +kernel
theorem d_X_single_224 : decode b_X_single 224 = .ok (.iload_n 1, 1) := by decide +kernel
theorem d_X_single_225 : decode b_X_single 225 = .ok (.sipush 200, 3) := by decide +kernel
theorem d_X_single_228 : decode b_X_single 228 = .ok (.if_icmp .ne 20, 3) := by decide +kernel
theorem d_X_single_231 : decode b_X_single 231 = .ok (.aload_n 0, 1) := by decide +kernel
theorem d_X_single_232 : decode b_X_single 232 = .ok (.iconst 2, 1) := by decide +kernel
theorem d_X_single_233 : decode b_X_single 233 = .ok (.aload_n 0, 1) := by decide +kernel
theorem d_X_single_234 : decode b_X_single 234 = .ok (.getfield 16, 3) := by decide +kernel
theorem d_X_single_237 : decode b_X_single 237 = .ok (.iconst 2, 1) := by decide +kernel
theorem d_X_single_238 : decode b_X_single 238 = .ok (.iaload, 1) := by decide +kernel
theorem d_X_single_239 : decode b_X_single 239 = .ok (.iconst 1, 1) := by decide +kernel
theorem d_X_single_240 : decode b_X_single 240 = .ok (.iadd, 1) := by decide +kernel
theorem d_X_single_241 : decode b_X_single 241 = .ok (.iconst 1, 1) := by decide +kernel
theorem d_X_single_242 : decode b_X_single 242 = .ok (.invokevirtual 70, 3) := by decide +kernel
theorem d_X_single_245 : decode b_X_single 245 = .ok (.goto 98, 3) := by decide +kernel
theorem d_X_single_248 : decode b_X_single 248 = .ok (.iload_n 1, 1) := by decide +kernel
theorem d_X_single_249 : decode b_X_single 249 = .ok (.sipush 232, 3) := by decide +kernel
theorem d_X_single_252 : decode b_X_single 252 = .ok (.if_icmp .ne 20, 3) := by decide +kernel
theorem d_X_single_255 : decode b_X_single 255 = .ok (.aload_n 0, 1) := by decide +kernel
theorem d_X_single_256 : decode b_X_single 256 = .ok (.iconst 1, 1) := by decide +kernel
theorem d_X_single_257 : decode b_X_single 257 = .ok (.aload_n 0, 1) := by decide +kernel
theorem d_X_single_258 : decode b_X_single 258 = .ok (.getfield 16, 3) := by decide +kernel
theorem d_X_single_261 : decode b_X_single 261 = .ok (.iconst 1, 1) := by decide +kernel
theorem d_X_single_262 : decode b_X_single 262 = .ok (.iaload, 1) := by decide +kernel
theorem d_X_single_263 : decode b_X_single 263 = .ok (.iconst 1, 1) := by decide +kernel
theorem d_X_single_264 : decode b_X_single 264 = .ok (.iadd, 1) := by decide +kernel
theorem d_X_single_265 : decode b_X_single 265 = .ok (.iconst 1, 1) := by decide +kernel
theorem d_X_single_266 : decode b_X_single 266 = .ok (.invokevirtual 70, 3) := by decide +kernel
theorem d_X_single_269 : decode b_X_single 269 = .ok (.goto 74, 3) := by decide +kernel
theorem d_X_single_272 : decode b_X_single 272 = .ok (.iload_n 1, 1) := by decide +kernel
theorem d_X_single_273 : decode b_X_single 273 = .ok (.bipush 24, 2) := by decide +kernel
theorem d_X_single_275 : decode b_X_single 275 = .ok (.if_icmp .eq 9, 3) := by decide +kernel
theorem d_X_single_278 : decode b_X_single 278 = .ok (.iload_n 1, 1) := by decide +kernel
theorem d_X_single_279 : decode b_X_single 279 = .ok (.bipush 56, 2) := by decide +kernel
theorem d_X_single_281 : decode b_X_single 281 = .ok (.if_icmp .ne 17, 3) := by decide +kernel
theorem d_X_single_284 : decode b_X_single 284 = .ok (.aload_n 0, 1) := by decide +kernel
theorem d_X_single_285 : decode b_X_single 285 = .ok (.getfield 16, 3) := by decide +kernel
theorem d_X_single_288 : decode b_X_single 288 = .ok (.bipush 8, 2) := by decide +kernel
theorem d_X_single_290 : decode b_X_single 290 = .ok (.iload_n 1, 1) := by decide +kernel
theorem d_X_single_291 : decode b_X_single 291 = .ok (.bipush 32, 2) := by decide +kernel
theorem d_X_single_293 : decode b_X_single 293 = .ok (.idiv, 1) := by decide +kernel
theorem d_X_single_294 : decode b_X_single 294 = .ok (.iastore, 1) := by decide +kernel
theorem d_X_single_295 : decode b_X_single 295 = .ok (.goto 48, 3) := by decide +kernel
theorem d_X_single_298 : decode b_X_single 298 = .ok (.iload_n 1, 1) := by decide +kernel
theorem d_X_single_299 : decode b_X_single 299 = .ok (.sipush 184, 3) := by decide +kernel
theorem d_X_single_302 : decode b_X_single 302 = .ok (.if_icmp .ne 14, 3) := by decide +kernel
theorem d_X_single_305 : decode b_X_single 305 = .ok (.aload_n 0, 1) := by decide +kernel
theorem d_X_single_306 : decode b_X_single 306 = .ok (.getfield 16, 3) := by decide +kernel
theorem d_X_single_309 : decode b_X_single 309 = .ok (.bipush 6, 2) := by decide +kernel
theorem d_X_single_311 : decode b_X_single 311 = .ok (.iconst 0, 1) := by decide +kernel
theorem d_X_single_312 : decode b_X_single 312 = .ok (.iastore, 1) := by decide +kernel
theorem d_X_single_313 : decode b_X_single 313 = .ok (.goto 30, 3) := by decide +kernel
theorem d_X_single_316 : decode b_X_single 316 = .ok (.iload_n 1, 1) := by decide +kernel
theorem d_X_single_317 : decode b_X_single 317 = .ok (.sipush 152, 3) := by decide +kernel
theorem d_X_single_320 : decode b_X_single 320 = .ok (.if_icmp .ne 18, 3) := by decide +kernel
theorem d_X_single_323 : decode b_X_single 323 = .ok (.aload_n 0, 1) := by decide +kernel
theorem d_X_single_324 : decode b_X_single 324 = .ok (.iconst 0, 1) := by decide +kernel
theorem d_X_single_325 : decode b_X_single 325 = .ok (.aload_n 0, 1) := by decide +kernel
theorem d_X_single_326 : decode b_X_single 326 = .ok (.getfield 16, 3) := by decide +kernel
theorem d_X_single_329 : decode b_X_single 329 = .ok (.iconst 2, 1) := by decide +kernel
theorem d_X_single_330 : decode b_X_single 330 = .ok (.iaload, 1) := by decide +kernel
theorem d_X_single_331 : decode b_X_single 331 = .ok (.iconst 1, 1) := by decide +kernel
theorem d_X_single_332 : decode b_X_single 332 = .ok (.invokevirtual 70, 3) := by decide +kernel
theorem d_X_single_335 : decode b_X_single 335 = .ok (.goto 8, 3) := by decide +kernel
theorem d_X_single_338 : decode b_X_single 338 = .ok (.aload_n 0, 1) := by decide +kernel
theorem d_X_single_339 : decode b_X_single 339 = .ok (.iconst 4, 1) := by decide +kernel
theorem d_X_single_340 : decode b_X_single 340 = .ok (.putfield 32, 3) := by decide +kernel
theorem d_X_single_343 : decode b_X_single 343 = .ok (.return_, 1) := by decide +kernel
theorem d_X_tests_0 : decode b_X_tests 0 = .ok (.iload_n 2, 1) := by decide +kernel
theorem d_X_tests_1 : decode b_X_tests 1 = .ok (.iconst 4, 1) := by decide +kernel
theorem d_X_tests_2 : decode b_X_tests 2 = .ok (.if_icmp .ne 9, 3) := by decide +kernel
theorem d_X_tests_5 : decode b_X_tests 5 = .ok (.aload_n 0, 1) := by decide +kernel
theorem d_X_tests_6 : decode b_X_tests 6 = .ok (.iload_n 1, 1) := by decide +kernel
theorem d_X_tests_7 : decode b_X_tests 7 = .ok (.invokevirtual 105, 3) := by decide +kernel
theorem d_X_tests_10 : decode b_X_tests 10 = .ok (.return_, 1) := by decide +kernel
theorem d_X_tests_11 : decode b_X_tests 11 = .ok (.iload_n 2, 1) := by decide +kernel
theorem d_X_tests_12 : decode b_X_tests 12 = .ok (.iconst 1, 1) := by decide +kernel
theorem d_X_tests_13 : decode b_X_tests 13 = .ok (.if_icmp .eq 8, 3) := by decide +kernel
theorem d_X_tests_16 : decode b_X_tests 16 = .ok (.iload_n 2, 1) := by decide +kernel
theorem d_X_tests_17 : decode b_X_tests 17 = .ok (.iconst 3, 1) := by decide +kernel
theorem d_X_tests_18 : decode b_X_tests 18 = .ok (.if_icmp .ne 7, 3) := by decide +kernel
theorem d_X_tests_21 : decode b_X_tests 21 = .ok (.iconst 1, 1) := by decide +kernel
theorem d_X_tests_22 : decode b_X_tests 22 = .ok (.goto 4, 3) := by decide +kernel
theorem d_X_tests_25 : decode b_X_tests 25 = .ok (.iconst 0, 1) := by decide +kernel
theorem d_X_tests_26 : decode b_X_tests 26 = .ok (.istore 4, 2) := by decide +kernel
theorem d_X_tests_28 : decode b_X_tests 28 = .ok (.iload_n 2, 1) := by decide +kernel
theorem d_X_tests_29 : decode b_X_tests 29 = .ok (.ifCond .ne 7, 3) := by decide +kernel
theorem d_X_tests_32 : decode b_X_tests 32 = .ok (.iconst 0, 1) := by decide +kernel
theorem d_X_tests_33 : decode b_X_tests 33 = .ok (.goto 31, 3) := by decide +kernel
theorem d_X_tests_36 : decode b_X_tests 36 = .ok (.iload_n 2, 1) := by decide +kernel
theorem d_X_tests_37 : decode b_X_tests 37 = .ok (.iconst 1, 1) := by decide +kernel
theorem d_X_tests_38 : decode b_X_tests 38 = .ok (.if_icmp .ne 7, 3) := by decide +kernel
theorem d_X_tests_41 : decode b_X_tests 41 = .ok (.iconst 1, 1) := by decide +kernel
theorem d_X_tests_42 : decode b_X_tests 42 = .ok (.goto 22, 3) := by decide +kernel
theorem d_X_tests_45 : decode b_X_tests 45 = .ok (.iload_n 2, 1) := by decide +kernel
theorem d_X_tests_46 : decode b_X_tests 46 = .ok (.iconst 3, 1) := by decide +kernel
theorem d_X_tests_47 : decode b_X_tests 47 = .ok (.if_icmp .ne 7, 3) := by decide +kernel
theorem d_X_tests_50 : decode b_X_tests 50 = .ok (.iconst 4, 1) := by decide +kernel
theorem d_X_tests_51 : decode b_X_tests 51 = .ok (.goto 13, 3) := by decide +kernel
theorem d_X_tests_54 : decode b_X_tests 54 = .ok (.iload_n 2, 1) := by decide +kernel
theorem d_X_tests_55 : decode b_X_tests 55 = .ok (.iconst 5, 1) := by decide +kernel
theorem d_X_tests_56 : decode b_X_tests 56 = .ok (.if_icmp .ne 7, 3) := by decide +kernel
theorem d_X_tests_59 : decode b_X_tests 59 = .ok (.iconst 2, 1) := by decide +kernel
theorem d_X_tests_60 : decode b_X_tests 60 = .ok (.goto 4, 3) := by decide +kernel
theorem d_X_tests_63 : decode b_X_tests 63 = .ok (.iconst 5, 1) := by decide +kernel
theorem d_X_tests_64 : decode b_X_tests 64 = .ok (.istore 5, 2) := by decide +kernel
theorem d_X_tests_66 : decode b_X_tests 66 = .ok (.iload_n 1, 1) := by decide +kernel
theorem d_X_tests_67 : decode b_X_tests 67 = .ok (.iconst 1, 1) := by decide +kernel
theorem d_X_tests_68 : decode b_X_tests 68 = .ok (.if_icmp .ne 72, 3) := by decide +kernel
theorem d_X_tests_71 : decode b_X_tests 71 = .ok (.iload 4, 2) := by decide +kernel
theorem d_X_tests_73 : decode b_X_tests 73 = .ok (.ifCond .eq 67, 3) := by decide +kernel
theorem d_X_tests_76 : decode b_X_tests 76 = .ok (.aload_n 0, 1) := by decide +kernel
theorem d_X_tests_77 : decode b_X_tests 77 = .ok (.aload_n 0, 1) := by decide +kernel
theorem d_X_tests_78 : decode b_X_tests 78 = .ok (.iload 5, 2) := by decide +kernel
theorem d_X_tests_80 : decode b_X_tests 80 = .ok (.invokevirtual 77, 3) := by decide +kernel
theorem d_X_tests_83 : decode b_X_tests 83 = .ok (.invokevirtual 43, 3) := by decide +kernel
theorem d_X_tests_86 : decode b_X_tests 86 = .ok (.istore 6, 2) := by decide +kernel
theorem d_X_tests_88 : decode b_X_tests 88 = .ok (.aload_n 0, 1) := by decide +kernel
theorem d_X_tests_89 : decode b_X_tests 89 = .ok (.getfield 16, 3) := by decide +kernel
theorem d_X_tests_92 : decode b_X_tests 92 = .ok (.bipush 7, 2) := by decide +kernel
theorem d_X_tests_94 : decode b_X_tests 94 = .ok (.aload_n 0, 1) := by decide +kernel
theorem d_X_tests_95 : decode b_X_tests 95 = .ok (.getfield 16, 3) := by decide +kernel
theorem d_X_tests_98 : decode b_X_tests 98 = .ok (.iconst 0, 1) := by decide +kernel
theorem d_X_tests_99 : decode b_X_tests 99 = .ok (.iaload, 1) := by decide +kernel
theorem d_X_tests_100 : decode b_X_tests 100 = .ok (.iload 6, 2) := by decide +kernel
theorem d_X_tests_102 : decode b_X_tests 102 = .ok (.iand, 1) := by decide +kernel
theorem d_X_tests_103 : decode b_X_tests 103 = .ok (.ifCond .ne 7, 3) := by decide +kernel
theorem d_X_tests_106 : decode b_X_tests 106 = .ok (.iconst 1, 1) := by decide +kernel
theorem d_X_tests_107 : decode b_X_tests 107 = .ok (.goto 4, 3) := by decide +kernel
theorem d_X_tests_110 : decode b_X_tests 110 = .ok (.iconst 0, 1) := by decide +kernel
theorem d_X_tests_111 : decode b_X_tests 111 = .ok (.iastore, 1) := by decide +kernel
theorem d_X_tests_112 : decode b_X_tests 112 = .ok (.aload_n 0, 1) := by decide +kernel
theorem d_X_tests_113 : decode b_X_tests 113 = .ok (.getfield 16, 3) := by decide +kernel
theorem d_X_tests_116 : decode b_X_tests 116 = .ok (.iconst 5, 1) := by decide +kernel
theorem d_X_tests_117 : decode b_X_tests 117 = .ok (.iload 6, 2) := by decide +kernel
theorem d_X_tests_119 : decode b_X_tests 119 = .ok (.bipush 7, 2) := by decide +kernel
theorem d_X_tests_121 : decode b_X_tests 121 = .ok (.ishr, 1) := by decide +kernel
theorem d_X_tests_122 : decode b_X_tests 122 = .ok (.iastore, 1) := by decide +kernel
theorem d_X_tests_123 : decode b_X_tests 123 = .ok (.aload_n 0, 1) := by decide +kernel
theorem d_X_tests_124 : decode b_X_tests 124 = .ok (.getfield 16, 3) := by decide +kernel
theorem d_X_tests_127 : decode b_X_tests 127 = .ok (.bipush 6, 2) := by decide +kernel
theorem d_X_tests_129 : decode b_X_tests 129 = .ok (.iload 6, 2) := by decide +kernel
theorem d_X_tests_131 : decode b_X_tests 131 = .ok (.bipush 6, 2) := by decide +kernel
theorem d_X_tests_133 : decode b_X_tests 133 = .ok (.ishr, 1) := by decide +kernel
theorem d_X_tests_134 : decode b_X_tests 134 = .ok (.iconst 1, 1) := by decide +kernel
theorem d_X_tests_135 : decode b_X_tests 135 = .ok (.iand, 1) := by decide +kernel
theorem d_X_tests_136 : decode b_X_tests 136 = .ok (.iastore, 1) := by decide +kernel
theorem d_X_tests_137 : decode b_X_tests 137 = .ok (.goto 225, 3) := by decide +kernel
theorem d_X_tests_140 : decode b_X_tests 140 = .ok (.iload_n 1, 1) := by decide +kernel
theorem d_X_tests_141 : decode b_X_tests 141 = .ok (.iconst 2, 1) := by decide +kernel
theorem d_X_tests_142 : decode b_X_tests 142 = .ok (.if_icmp .eq 8, 3) := by decide +kernel
theorem d_X_tests_145 : decode b_X_tests 145 = .ok (.iload_n 1, 1) := by decide +kernel
theorem d_X_tests_146 : decode b_X_tests 146 = .ok (.iconst 3, 1) := by decide +kernel
theorem d_X_tests_147 : decode b_X_tests 147 = .ok (.if_icmp .ne 64, 3) := by decide +kernel
theorem d_X_tests_150 : decode b_X_tests 150 = .ok (.iload_n 2, 1) := by decide +kernel
theorem d_X_tests_151 : decode b_X_tests 151 = .ok (.iconst 3, 1) := by decide +kernel
theorem d_X_tests_152 : decode b_X_tests 152 = .ok (.if_icmp .ne 59, 3) := by decide +kernel
theorem d_X_tests_155 : decode b_X_tests 155 = .ok (.aload_n 0, 1) := by decide +kernel
theorem d_X_tests_156 : decode b_X_tests 156 = .ok (.invokevirtual 57, 3) := by decide +kernel
theorem d_X_tests_159 : decode b_X_tests 159 = .ok (.aload_n 0, 1) := by decide +kernel
theorem d_X_tests_160 : decode b_X_tests 160 = .ok (.getfield 16, 3) := by decide +kernel
theorem d_X_tests_163 : decode b_X_tests 163 = .ok (.iconst 4, 1) := by decide +kernel
theorem d_X_tests_164 : decode b_X_tests 164 = .ok (.iload_n 1, 1) := by decide +kernel
theorem d_X_tests_165 : decode b_X_tests 165 = .ok (.iconst 2, 1) := by decide +kernel
theorem d_X_tests_166 : decode b_X_tests 166 = .ok (.if_icmp .ne 14, 3) := by decide +kernel
theorem d_X_tests_169 : decode b_X_tests 169 = .ok (.aload_n 0, 1) := by decide +kernel
theorem d_X_tests_170 : decode b_X_tests 170 = .ok (.getfield 54, 3) := by decide +kernel
theorem d_X_tests_173 : decode b_X_tests 173 = .ok (.sipush 1023, 3) := by decide +kernel
theorem d_X_tests_176 : decode b_X_tests 176 = .ok (.iand, 1) := by decide +kernel
theorem d_X_tests_177 : decode b_X_tests 177 = .ok (.goto 30, 3) := by decide +kernel
theorem d_X_tests_180 : decode b_X_tests 180 = .ok (.aload_n 0, 1) := by decide +kernel
theorem d_X_tests_181 : decode b_X_tests 181 = .ok (.aload_n 0, 1) := by decide +kernel
theorem d_X_tests_182 : decode b_X_tests 182 = .ok (.getfield 54, 3) := by decide +kernel
theorem d_X_tests_185 : decode b_X_tests 185 = .ok (.invokevirtual 43, 3) := by decide +kernel
theorem d_X_tests_188 : decode b_X_tests 188 = .ok (.sipush 256, 3) := by decide +kernel
theorem d_X_tests_191 : decode b_X_tests 191 = .ok (.aload_n 0, 1) := by decide +kernel
theorem d_X_tests_192 : decode b_X_tests 192 = .ok (.aload_n 0, 1) := by decide +kernel
theorem d_X_tests_193 : decode b_X_tests 193 = .ok (.getfield 54, 3) := by decide +kernel
theorem d_X_tests_196 : decode b_X_tests 196 = .ok (.iconst 1, 1) := by decide +kernel
theorem d_X_tests_197 : decode b_X_tests 197 = .ok (.iadd, 1) := by decide +kernel
theorem d_X_tests_198 : decode b_X_tests 198 = .ok (.invokevirtual 43, 3) := by decide +kernel
theorem d_X_tests_201 : decode b_X_tests 201 = .ok (.imul, 1) := by decide +kernel
theorem d_X_tests_202 : decode b_X_tests 202 = .ok (.iadd, 1) := by decide +kernel
theorem d_X_tests_203 : decode b_X_tests 203 = .ok (.sipush 1023, 3) := by decide +kernel
theorem d_X_tests_206 : decode b_X_tests 206 = .ok (.iand, 1) := by decide +kernel
theorem d_X_tests_207 : decode b_X_tests 207 = .ok (.iastore, 1) := by decide +kernel
theorem d_X_tests_208 : decode b_X_tests 208 = .ok (.goto 154, 3) := by decide +kernel
theorem d_X_tests_211 : decode b_X_tests 211 = .ok (.iload_n 1, 1) := by decide +kernel
theorem d_X_tests_212 : decode b_X_tests 212 = .ok (.iconst 4, 1) := by decide +kernel
theorem d_X_tests_213 : decode b_X_tests 213 = .ok (.if_icmp .ne 36, 3) := by decide +kernel
theorem d_X_tests_216 : decode b_X_tests 216 = .ok (.iload 4, 2) := by decide +kernel
theorem d_X_tests_218 : decode b_X_tests 218 = .ok (.ifCond .ne 8, 3) := by decide +kernel
theorem d_X_tests_221 : decode b_X_tests 221 = .ok (.iload_n 2, 1) := by decide +kernel
theorem d_X_tests_222 : decode b_X_tests 222 = .ok (.iconst 5, 1) := by decide +kernel
theorem d_X_tests_223 : decode b_X_tests 223 = .ok (.if_icmp .ne 26, 3) := by decide +kernel
theorem d_X_tests_226 : decode b_X_tests 226 = .ok (.aload_n 0, 1) := by decide +kernel
theorem d_X_tests_227 : decode b_X_tests 227 = .ok (.iload 5, 2) := by decide +kernel
theorem d_X_tests_229 : decode b_X_tests 229 = .ok (.invokevirtual 77, 3) := by decide +kernel
theorem d_X_tests_232 : decode b_X_tests 232 = .ok (.istore 6, 2) := by decide +kernel
theorem d_X_tests_234 : decode b_X_tests 234 = .ok (.aload_n 0, 1) := by decide +kernel
theorem d_X_tests_235 : decode b_X_tests 235 = .ok (.iload 6, 2) := by decide +kernel
theorem d_X_tests_237 : decode b_X_tests 237 = .ok (.aload_n 0, 1) := by decide +kernel
theorem d_X_tests_238 : decode b_X_tests 238 = .ok (.getfield 16, 3) := by decide +kernel
theorem d_X_tests_241 : decode b_X_tests 241 = .ok (.iconst 2, 1) := by decide +kernel
theorem d_X_tests_242 : decode b_X_tests 242 = .ok (.iaload, 1) := by decide +kernel
theorem d_X_tests_243 : decode b_X_tests 243 = .ok (.invokevirtual 39, 3) := by decide +kernel
theorem d_X_tests_246 : decode b_X_tests 246 = .ok (.goto 116, 3) := by decide +kernel
theorem d_X_tests_249 : decode b_X_tests 249 = .ok (.iload_n 1, 1) := by decide +kernel
theorem d_X_tests_250 : decode b_X_tests 250 = .ok (.iconst 5, 1) := by decide +kernel
theorem d_X_tests_251 : decode b_X_tests 251 = .ok (.if_icmp .ne 48, 3) := by decide +kernel
theorem d_X_tests_254 : decode b_X_tests 254 = .ok (.iload 4, 2) := by decide +kernel
theorem d_X_tests_256 : decode b_X_tests 256 = .ok (.ifCond .ne 18, 3) := by decide +kernel
theorem d_X_tests_259 : decode b_X_tests 259 = .ok (.iload_n 2, 1) := by decide +kernel
theorem d_X_tests_260 : decode b_X_tests 260 = .ok (.ifCond .eq 14, 3) := by decide +kernel
theorem d_X_tests_263 : decode b_X_tests 263 = .ok (.iload_n 2, 1) := by decide +kernel
theorem d_X_tests_264 : decode b_X_tests 264 = .ok (.iconst 5, 1) := by decide +kernel
theorem d_X_tests_265 : decode b_X_tests 265 = .ok (.if_icmp .eq 9, 3) := by decide +kernel
theorem d_X_tests_268 : decode b_X_tests 268 = .ok (.iload_n 2, 1) := by decide +kernel
theorem d_X_tests_269 : decode b_X_tests 269 = .ok (.bipush 7, 2) := by decide +kernel
theorem d_X_tests_271 : decode b_X_tests 271 = .ok (.if_icmp .ne 28, 3) := by decide +kernel
theorem d_X_tests_274 : decode b_X_tests 274 = .ok (.aload_n 0, 1) := by decide +kernel
theorem d_X_tests_275 : decode b_X_tests 275 = .ok (.iload 5, 2) := by decide +kernel
theorem d_X_tests_277 : decode b_X_tests 277 = .ok (.invokevirtual 77, 3) := by decide +kernel
theorem d_X_tests_280 : decode b_X_tests 280 = .ok (.istore 6, 2) := by decide +kernel
theorem d_X_tests_282 : decode b_X_tests 282 = .ok (.aload_n 0, 1) := by decide +kernel
theorem d_X_tests_283 : decode b_X_tests 283 = .ok (.iconst 2, 1) := by decide +kernel
theorem d_X_tests_284 : decode b_X_tests 284 = .ok (.aload_n 0, 1) := by decide +kernel
theorem d_X_tests_285 : decode b_X_tests 285 = .ok (.iload 5, 2) := by decide +kernel
theorem d_X_tests_287 : decode b_X_tests 287 = .ok (.iload 6, 2) := by decide +kernel
theorem d_X_tests_289 : decode b_X_tests 289 = .ok (.invokevirtual 80, 3) := by decide +kernel
theorem d_X_tests_292 : decode b_X_tests 292 = .ok (.iconst 1, 1) := by decide +kernel
theorem d_X_tests_293 : decode b_X_tests 293 = .ok (.invokevirtual 70, 3) := by decide +kernel
theorem d_X_tests_296 : decode b_X_tests 296 = .ok (.goto 66, 3) := by decide +kernel
theorem d_X_tests_299 : decode b_X_tests 299 = .ok (.iload_n 1, 1) := by decide +kernel
theorem d_X_tests_300 : decode b_X_tests 300 = .ok (.iconst 5, 1) := by decide +kernel
theorem d_X_tests_301 : decode b_X_tests 301 = .ok (.if_icmp .le 56, 3) := by decide +kernel
theorem d_X_tests_304 : decode b_X_tests 304 = .ok (.iload 4, 2) := by decide +kernel
theorem d_X_tests_306 : decode b_X_tests 306 = .ok (.ifCond .ne 7, 3) := by decide +kernel
theorem d_X_tests_309 : decode b_X_tests 309 = .ok (.iload_n 2, 1) := by decide +kernel
theorem d_X_tests_310 : decode b_X_tests 310 = .ok (.ifCond .ne 47, 3) := by decide +kernel
theorem d_X_tests_313 : decode b_X_tests 313 = .ok (.aload_n 0, 1) := by decide +kernel
theorem d_X_tests_314 : decode b_X_tests 314 = .ok (.iload 5, 2) := by decide +kernel
theorem d_X_tests_316 : decode b_X_tests 316 = .ok (.invokevirtual 77, 3) := by decide +kernel
theorem d_X_tests_319 : decode b_X_tests 319 = .ok (.istore 6, 2) := by decide +kernel
theorem d_X_tests_321 : decode b_X_tests 321 = .ok (.aload_n 0, 1) := by decide +kernel
theorem d_X_tests_322 : decode b_X_tests 322 = .ok (.iload_n 1, 1) := by decide +kernel
theorem d_X_tests_323 : decode b_X_tests 323 = .ok (.bipush 6, 2) := by decide +kernel
theorem d_X_tests_325 : decode b_X_tests 325 = .ok (.if_icmp .ne 12, 3) := by decide +kernel
theorem d_X_tests_328 : decode b_X_tests 328 = .ok (.aload_n 0, 1) := by decide +kernel
theorem d_X_tests_329 : decode b_X_tests 329 = .ok (.getfield 16, 3) := by decide +kernel
theorem d_X_tests_332 : decode b_X_tests 332 = .ok (.iconst 2, 1) := by decide +kernel
theorem d_X_tests_333 : decode b_X_tests 333 = .ok (.iaload, 1) := by decide +kernel
theorem d_X_tests_334 : decode b_X_tests 334 = .ok (.goto 9, 3) := by decide +kernel
theorem d_X_tests_337 : decode b_X_tests 337 = .ok (.aload_n 0, 1) := by decide +kernel
theorem d_X_tests_338 : decode b_X_tests 338 = .ok (.getfield 16, 3) := by decide +kernel
theorem d_X_tests_341 : decode b_X_tests 341 = .ok (.iconst 1, 1) := by decide +kernel
theorem d_X_tests_342 : decode b_X_tests 342 = .ok (.iaload, 1) := by decide +kernel
theorem d_X_tests_343 : decode b_X_tests 343 = .ok (.aload_n 0, 1) := by decide +kernel
theorem d_X_tests_344 : decode b_X_tests 344 = .ok (.iload 5, 2) := by decide +kernel
theorem d_X_tests_346 : decode b_X_tests 346 = .ok (.iload 6, 2) := by decide +kernel
theorem d_X_tests_348 : decode b_X_tests 348 = .ok (.invokevirtual 80, 3) := by decide +kernel
theorem d_X_tests_351 : decode b_X_tests 351 = .ok (.invokevirtual 87, 3) := by decide +kernel
theorem d_X_tests_354 : decode b_X_tests 354 = .ok (.goto 8, 3) := by decide +kernel
theorem d_X_tests_357 : decode b_X_tests 357 = .ok (.aload_n 0, 1) := by decide +kernel
theorem d_X_tests_358 : decode b_X_tests 358 = .ok (.iload_n 3, 1) := by decide +kernel
theorem d_X_tests_359 : decode b_X_tests 359 = .ok (.invokevirtual 108, 3) := by decide +kernel
theorem d_X_tests_362 : decode b_X_tests 362 = .ok (.return_, 1) := by decide +kernel
