theorem d_S_isWithin_0 : decode b_S_isWithin 0 = .ok (.iload_n 0, 1) := by decide +kernel
theorem d_S_isWithin_1 : decode b_S_isWithin 1 = .ok (.ifCond .lt 12, 3) := by decide +kernel
theorem d_S_isWithin_4 : decode b_S_isWithin 4 = .ok (.iload_n 0, 1) := by decide +kernel
theorem d_S_isWithin_5 : decode b_S_isWithin 5 = .ok (.iload_n 1, 1) := by decide +kernel
theorem d_S_isWithin_6 : decode b_S_isWithin 6 = .ok (.if_icmp .gt 7, 3) := by decide +kernel
theorem d_S_isWithin_9 : decode b_S_isWithin 9 = .ok (.iconst 1, 1) := by decide +kernel
theorem d_S_isWithin_10 : decode b_S_isWithin 10 = .ok (.goto 4, 3) := by decide +kernel
theorem d_S_isWithin_13 : decode b_S_isWithin 13 = .ok (.iconst 0, 1) := by decide +kernel
theorem d_S_isWithin_14 : decode b_S_isWithin 14 = .ok (.ireturn, 1) := by decide +kernel
theorem d_S_isSpan_0 : decode b_S_isSpan 0 = .ok (.iload_n 0, 1) := by decide +kernel
theorem d_S_isSpan_1 : decode b_S_isSpan 1 = .ok (.iload_n 2, 1) := by decide +kernel
theorem d_S_isSpan_2 : decode b_S_isSpan 2 = .ok (.iconst 1, 1) := by decide +kernel
theorem d_S_isSpan_3 : decode b_S_isSpan 3 = .ok (.isub, 1) := by decide +kernel
theorem d_S_isSpan_4 : decode b_S_isSpan 4 = .ok (.invokestatic 46, 3) := by decide +kernel
theorem d_S_isSpan_7 : decode b_S_isSpan 7 = .ok (.ifCond .eq 25, 3) := by decide +kernel
theorem d_S_isSpan_10 : decode b_S_isSpan 10 = .ok (.iload_n 1, 1) := by decide +kernel
theorem d_S_isSpan_11 : decode b_S_isSpan 11 = .ok (.iconst 1, 1) := by decide +kernel
theorem d_S_isSpan_12 : decode b_S_isSpan 12 = .ok (.if_icmp .lt 20, 3) := by decide +kernel
theorem d_S_isSpan_15 : decode b_S_isSpan 15 = .ok (.iload_n 1, 1) := by decide +kernel
theorem d_S_isSpan_16 : decode b_S_isSpan 16 = .ok (.bipush 8, 2) := by decide +kernel
theorem d_S_isSpan_18 : decode b_S_isSpan 18 = .ok (.if_icmp .gt 14, 3) := by decide +kernel
theorem d_S_isSpan_21 : decode b_S_isSpan 21 = .ok (.iload_n 0, 1) := by decide +kernel
theorem d_S_isSpan_22 : decode b_S_isSpan 22 = .ok (.iload_n 1, 1) := by decide +kernel
theorem d_S_isSpan_23 : decode b_S_isSpan 23 = .ok (.iadd, 1) := by decide +kernel
theorem d_S_isSpan_24 : decode b_S_isSpan 24 = .ok (.iload_n 2, 1) := by decide +kernel
theorem d_S_isSpan_25 : decode b_S_isSpan 25 = .ok (.if_icmp .gt 7, 3) := by decide +kernel
theorem d_S_isSpan_28 : decode b_S_isSpan 28 = .ok (.iconst 1, 1) := by decide +kernel
theorem d_S_isSpan_29 : decode b_S_isSpan 29 = .ok (.goto 4, 3) := by decide +kernel
theorem d_S_isSpan_32 : decode b_S_isSpan 32 = .ok (.iconst 0, 1) := by decide +kernel
theorem d_S_isSpan_33 : decode b_S_isSpan 33 = .ok (.ireturn, 1) := by decide +kernel
theorem d_B_readByte_0 : decode b_B_readByte 0 = .ok (.iload_n 1, 1) := by decide +kernel
theorem d_B_readByte_1 : decode b_B_readByte 1 = .ok (.sipush 1023, 3) := by decide +kernel
theorem d_B_readByte_4 : decode b_B_readByte 4 = .ok (.iand, 1) := by decide +kernel
theorem d_B_readByte_5 : decode b_B_readByte 5 = .ok (.istore_n 2, 1) := by decide +kernel
theorem d_B_readByte_6 : decode b_B_readByte 6 = .ok (.iload_n 2, 1) := by decide +kernel
theorem d_B_readByte_7 : decode b_B_readByte 7 = .ok (.sipush 1008, 3) := by decide +kernel
theorem d_B_readByte_10 : decode b_B_readByte 10 = .ok (.if_icmp .ge 10, 3) := by decide +kernel
theorem d_B_readByte_13 : decode b_B_readByte 13 = .ok (.aload_n 0, 1) := by decide +kernel
theorem d_B_readByte_14 : decode b_B_readByte 14 = .ok (.getfield 9, 3) := by decide +kernel
theorem d_B_readByte_17 : decode b_B_readByte 17 = .ok (.iload_n 2, 1) := by decide +kernel
theorem d_B_readByte_18 : decode b_B_readByte 18 = .ok (.iaload, 1) := by decide +kernel
theorem d_B_readByte_19 : decode b_B_readByte 19 = .ok (.ireturn, 1) := by decide +kernel
theorem d_B_readByte_20 : decode b_B_readByte 20 = .ok (.iload_n 2, 1) := by decide +kernel
theorem d_B_readByte_21 : decode b_B_readByte 21 = .ok (.tableswitch 49 1008 1010 #[27, 32, 44], 27) := by decide +kernel
theorem d_B_readByte_48 : decode b_B_readByte 48 = .ok (.aload_n 0, 1) := by decide +kernel
theorem d_B_readByte_49 : decode b_B_readByte 49 = .ok (.getfield 18, 3) := by decide +kernel
theorem d_B_readByte_52 : decode b_B_readByte 52 = .ok (.ireturn, 1) := by decide +kernel
theorem d_B_readByte_53 : decode b_B_readByte 53 = .ok (.aload_n 0, 1) := by decide +kernel
theorem d_B_readByte_54 : decode b_B_readByte 54 = .ok (.getfield 18, 3) := by decide +kernel
theorem d_B_readByte_57 : decode b_B_readByte 57 = .ok (.istore_n 3, 1) := by decide +kernel
theorem d_B_readByte_58 : decode b_B_readByte 58 = .ok (.aload_n 0, 1) := by decide +kernel
theorem d_B_readByte_59 : decode b_B_readByte 59 = .ok (.iconst 0, 1) := by decide +kernel
theorem d_B_readByte_60 : decode b_B_readByte 60 = .ok (.putfield 18, 3) := by decide +kernel
theorem d_B_readByte_63 : decode b_B_readByte 63 = .ok (.iload_n 3, 1) := by decide +kernel
theorem d_B_readByte_64 : decode b_B_readByte 64 = .ok (.ireturn, 1) := by decide +kernel
theorem d_B_readByte_65 : decode b_B_readByte 65 = .ok (.aload_n 0, 1) := by decide +kernel
theorem d_B_readByte_66 : decode b_B_readByte 66 = .ok (.getfield 22, 3) := by decide +kernel
theorem d_B_readByte_69 : decode b_B_readByte 69 = .ok (.ireturn, 1) := by decide +kernel
theorem d_B_readByte_70 : decode b_B_readByte 70 = .ok (.iconst 0, 1) := by decide +kernel
theorem d_B_readByte_71 : decode b_B_readByte 71 = .ok (.ireturn, 1) := by decide +kernel
theorem d_B_writeCell_0 : decode b_B_writeCell 0 = .ok (.iload_n 1, 1) := by decide +kernel
theorem d_B_writeCell_1 : decode b_B_writeCell 1 = .ok (.tableswitch 95 1010 1012 #[27, 43, 69], 27) := by decide +kernel
theorem d_B_writeCell_28 : decode b_B_writeCell 28 = .ok (.iload_n 2, 1) := by decide +kernel
theorem d_B_writeCell_29 : decode b_B_writeCell 29 = .ok (.bipush 8, 2) := by decide +kernel
theorem d_B_writeCell_31 : decode b_B_writeCell 31 = .ok (.if_icmp .lt 5, 3) := by decide +kernel
theorem d_B_writeCell_34 : decode b_B_writeCell 34 = .ok (.iconst 3, 1) := by decide +kernel
theorem d_B_writeCell_35 : decode b_B_writeCell 35 = .ok (.ireturn, 1) := by decide +kernel
theorem d_B_writeCell_36 : decode b_B_writeCell 36 = .ok (.aload_n 0, 1) := by decide +kernel
theorem d_B_writeCell_37 : decode b_B_writeCell 37 = .ok (.iload_n 2, 1) := by decide +kernel
theorem d_B_writeCell_38 : decode b_B_writeCell 38 = .ok (.putfield 22, 3) := by decide +kernel
theorem d_B_writeCell_41 : decode b_B_writeCell 41 = .ok (.goto 55, 3) := by decide +kernel
theorem d_B_writeCell_44 : decode b_B_writeCell 44 = .ok (.aload_n 0, 1) := by decide +kernel
theorem d_B_writeCell_45 : decode b_B_writeCell 45 = .ok (.getfield 15, 3) := by decide +kernel
theorem d_B_writeCell_48 : decode b_B_writeCell 48 = .ok (.aload_n 0, 1) := by decide +kernel
theorem d_B_writeCell_49 : decode b_B_writeCell 49 = .ok (.getfield 22, 3) := by decide +kernel
theorem d_B_writeCell_52 : decode b_B_writeCell 52 = .ok (.bipush 32, 2) := by decide +kernel
theorem d_B_writeCell_54 : decode b_B_writeCell 54 = .ok (.imul, 1) := by decide +kernel
theorem d_B_writeCell_55 : decode b_B_writeCell 55 = .ok (.aload_n 0, 1) := by decide +kernel
theorem d_B_writeCell_56 : decode b_B_writeCell 56 = .ok (.getfield 9, 3) := by decide +kernel
theorem d_B_writeCell_59 : decode b_B_writeCell 59 = .ok (.sipush 768, 3) := by decide +kernel
theorem d_B_writeCell_62 : decode b_B_writeCell 62 = .ok (.bipush 32, 2) := by decide +kernel
theorem d_B_writeCell_64 : decode b_B_writeCell 64 = .ok (.invokestatic 33, 3) := by decide +kernel
theorem d_B_writeCell_67 : decode b_B_writeCell 67 = .ok (.goto 29, 3) := by decide +kernel
theorem d_B_writeCell_70 : decode b_B_writeCell 70 = .ok (.aload_n 0, 1) := by decide +kernel
theorem d_B_writeCell_71 : decode b_B_writeCell 71 = .ok (.getfield 9, 3) := by decide +kernel
theorem d_B_writeCell_74 : decode b_B_writeCell 74 = .ok (.sipush 768, 3) := by decide +kernel
theorem d_B_writeCell_77 : decode b_B_writeCell 77 = .ok (.aload_n 0, 1) := by decide +kernel
theorem d_B_writeCell_78 : decode b_B_writeCell 78 = .ok (.getfield 15, 3) := by decide +kernel
theorem d_B_writeCell_81 : decode b_B_writeCell 81 = .ok (.aload_n 0, 1) := by decide +kernel
theorem d_B_writeCell_82 : decode b_B_writeCell 82 = .ok (.getfield 22, 3) := by decide +kernel
theorem d_B_writeCell_85 : decode b_B_writeCell 85 = .ok (.bipush 32, 2) := by decide +kernel
theorem d_B_writeCell_87 : decode b_B_writeCell 87 = .ok (.imul, 1) := by decide +kernel
theorem d_B_writeCell_88 : decode b_B_writeCell 88 = .ok (.bipush 32, 2) := by decide +kernel
theorem d_B_writeCell_90 : decode b_B_writeCell 90 = .ok (.invokestatic 33, 3) := by decide +kernel
theorem d_B_writeCell_93 : decode b_B_writeCell 93 = .ok (.goto 3, 3) := by decide +kernel
theorem d_B_writeCell_96 : decode b_B_writeCell 96 = .ok (.iconst 0, 1) := by decide +kernel
theorem d_B_writeCell_97 : decode b_B_writeCell 97 = .ok (.ireturn, 1) := by decide +kernel
theorem d_B_writeByte_0 : decode b_B_writeByte 0 = .ok (.iload_n 1, 1) := by decide +kernel
theorem d_B_writeByte_1 : decode b_B_writeByte 1 = .ok (.sipush 1023, 3) := by decide +kernel
theorem d_B_writeByte_4 : decode b_B_writeByte 4 = .ok (.iand, 1) := by decide +kernel
theorem d_B_writeByte_5 : decode b_B_writeByte 5 = .ok (.istore_n 3, 1) := by decide +kernel
theorem d_B_writeByte_6 : decode b_B_writeByte 6 = .ok (.iload_n 3, 1) := by decide +kernel
theorem d_B_writeByte_7 : decode b_B_writeByte 7 = .ok (.sipush 1008, 3) := by decide +kernel
theorem d_B_writeByte_10 : decode b_B_writeByte 10 = .ok (.if_icmp .lt 10, 3) := by decide +kernel
theorem d_B_writeByte_13 : decode b_B_writeByte 13 = .ok (.aload_n 0, 1) := by decide +kernel
theorem d_B_writeByte_14 : decode b_B_writeByte 14 = .ok (.iload_n 3, 1) := by decide +kernel
theorem d_B_writeByte_15 : decode b_B_writeByte 15 = .ok (.iload_n 2, 1) := by decide +kernel
theorem d_B_writeByte_16 : decode b_B_writeByte 16 = .ok (.invokevirtual 29, 3) := by decide +kernel
theorem d_B_writeByte_19 : decode b_B_writeByte 19 = .ok (.ireturn, 1) := by decide +kernel
theorem d_B_writeByte_20 : decode b_B_writeByte 20 = .ok (.aload_n 0, 1) := by decide +kernel
theorem d_B_writeByte_21 : decode b_B_writeByte 21 = .ok (.getfield 25, 3) := by decide +kernel
theorem d_B_writeByte_24 : decode b_B_writeByte 24 = .ok (.ifCond .eq 12, 3) := by decide +kernel
theorem d_B_writeByte_27 : decode b_B_writeByte 27 = .ok (.iload_n 3, 1) := by decide +kernel
theorem d_B_writeByte_28 : decode b_B_writeByte 28 = .ok (.sipush 960, 3) := by decide +kernel
theorem d_B_writeByte_31 : decode b_B_writeByte 31 = .ok (.if_icmp .lt 5, 3) := by decide +kernel
theorem d_B_writeByte_34 : decode b_B_writeByte 34 = .ok (.iconst 2, 1) := by decide +kernel
theorem d_B_writeByte_35 : decode b_B_writeByte 35 = .ok (.ireturn, 1) := by decide +kernel
theorem d_B_writeByte_36 : decode b_B_writeByte 36 = .ok (.aload_n 0, 1) := by decide +kernel
theorem d_B_writeByte_37 : decode b_B_writeByte 37 = .ok (.getfield 9, 3) := by decide +kernel
theorem d_B_writeByte_40 : decode b_B_writeByte 40 = .ok (.iload_n 3, 1) := by decide +kernel
theorem d_B_writeByte_41 : decode b_B_writeByte 41 = .ok (.iload_n 2, 1) := by decide +kernel
theorem d_B_writeByte_42 : decode b_B_writeByte 42 = .ok (.iastore, 1) := by decide +kernel
theorem d_B_writeByte_43 : decode b_B_writeByte 43 = .ok (.iconst 0, 1) := by decide +kernel
theorem d_B_writeByte_44 : decode b_B_writeByte 44 = .ok (.ireturn, 1) := by decide +kernel
theorem d_P_flags_0 : decode b_P_flags 0 = .ok (.sipush 128, 3) := by decide +kernel
theorem d_P_flags_3 : decode b_P_flags 3 = .ok (.aload_n 0, 1) := by decide +kernel
theorem d_P_flags_4 : decode b_P_flags 4 = .ok (.getfield 42, 3) := by decide +kernel
theorem d_P_flags_7 : decode b_P_flags 7 = .ok (.imul, 1) := by decide +kernel
theorem d_P_flags_8 : decode b_P_flags 8 = .ok (.bipush 64, 2) := by decide +kernel
theorem d_P_flags_10 : decode b_P_flags 10 = .ok (.aload_n 0, 1) := by decide +kernel
theorem d_P_flags_11 : decode b_P_flags 11 = .ok (.getfield 45, 3) := by decide +kernel
theorem d_P_flags_14 : decode b_P_flags 14 = .ok (.imul, 1) := by decide +kernel
theorem d_P_flags_15 : decode b_P_flags 15 = .ok (.iadd, 1) := by decide +kernel
theorem d_P_flags_16 : decode b_P_flags 16 = .ok (.bipush 48, 2) := by decide +kernel
theorem d_P_flags_18 : decode b_P_flags 18 = .ok (.iadd, 1) := by decide +kernel
theorem d_P_flags_19 : decode b_P_flags 19 = .ok (.iconst 2, 1) := by decide +kernel
theorem d_P_flags_20 : decode b_P_flags 20 = .ok (.aload_n 0, 1) := by decide +kernel
theorem d_P_flags_21 : decode b_P_flags 21 = .ok (.getfield 48, 3) := by decide +kernel
theorem d_P_flags_24 : decode b_P_flags 24 = .ok (.imul, 1) := by decide +kernel
theorem d_P_flags_25 : decode b_P_flags 25 = .ok (.iadd, 1) := by decide +kernel
theorem d_P_flags_26 : decode b_P_flags 26 = .ok (.aload_n 0, 1) := by decide +kernel
theorem d_P_flags_27 : decode b_P_flags 27 = .ok (.getfield 51, 3) := by decide +kernel
theorem d_P_flags_30 : decode b_P_flags 30 = .ok (.iadd, 1) := by decide +kernel
theorem d_P_flags_31 : decode b_P_flags 31 = .ok (.ireturn, 1) := by decide +kernel
theorem d_P_setFlags_0 : decode b_P_setFlags 0 = .ok (.aload_n 0, 1) := by decide +kernel
theorem d_P_setFlags_1 : decode b_P_setFlags 1 = .ok (.iload_n 1, 1) := by decide +kernel
theorem d_P_setFlags_2 : decode b_P_setFlags 2 = .ok (.bipush 7, 2) := by decide +kernel
theorem d_P_setFlags_4 : decode b_P_setFlags 4 = .ok (.ishr, 1) := by decide +kernel
theorem d_P_setFlags_5 : decode b_P_setFlags 5 = .ok (.iconst 1, 1) := by decide +kernel
theorem d_P_setFlags_6 : decode b_P_setFlags 6 = .ok (.iand, 1) := by decide +kernel
theorem d_P_setFlags_7 : decode b_P_setFlags 7 = .ok (.putfield 42, 3) := by decide +kernel
theorem d_P_setFlags_10 : decode b_P_setFlags 10 = .ok (.aload_n 0, 1) := by decide +kernel
theorem d_P_setFlags_11 : decode b_P_setFlags 11 = .ok (.iload_n 1, 1) := by decide +kernel
theorem d_P_setFlags_12 : decode b_P_setFlags 12 = .ok (.bipush 6, 2) := by decide +kernel
theorem d_P_setFlags_14 : decode b_P_setFlags 14 = .ok (.ishr, 1) := by decide +kernel
theorem d_P_setFlags_15 : decode b_P_setFlags 15 = .ok (.iconst 1, 1) := by decide +kernel
theorem d_P_setFlags_16 : decode b_P_setFlags 16 = .ok (.iand, 1) := by decide +kernel
theorem d_P_setFlags_17 : decode b_P_setFlags 17 = .ok (.putfield 45, 3) := by decide +kernel
theorem d_P_setFlags_20 : decode b_P_setFlags 20 = .ok (.aload_n 0, 1) := by decide +kernel
theorem d_P_setFlags_21 : decode b_P_setFlags 21 = .ok (.iload_n 1, 1) := by decide +kernel
theorem d_P_setFlags_22 : decode b_P_setFlags 22 = .ok (.iconst 1, 1) := by decide +kernel
theorem d_P_setFlags_23 : decode b_P_setFlags 23 = .ok (.ishr, 1) := by decide +kernel
theorem d_P_setFlags_24 : decode b_P_setFlags 24 = .ok (.iconst 1, 1) := by decide +kernel
theorem d_P_setFlags_25 : decode b_P_setFlags 25 = .ok (.iand, 1) := by decide +kernel
theorem d_P_setFlags_26 : decode b_P_setFlags 26 = .ok (.putfield 48, 3) := by decide +kernel
theorem d_P_setFlags_29 : decode b_P_setFlags 29 = .ok (.aload_n 0, 1) := by decide +kernel
theorem d_P_setFlags_30 : decode b_P_setFlags 30 = .ok (.iload_n 1, 1) := by decide +kernel
theorem d_P_setFlags_31 : decode b_P_setFlags 31 = .ok (.iconst 1, 1) := by decide +kernel
theorem d_P_setFlags_32 : decode b_P_setFlags 32 = .ok (.iand, 1) := by decide +kernel
theorem d_P_setFlags_33 : decode b_P_setFlags 33 = .ok (.putfield 51, 3) := by decide +kernel
theorem d_P_setFlags_36 : decode b_P_setFlags 36 = .ok (.return_, 1) := by decide +kernel
theorem d_P_register_0 : decode b_P_register 0 = .ok (.iload_n 1, 1) := by decide +kernel
theorem d_P_register_1 : decode b_P_register 1 = .ok (.tableswitch 60 0 4 #[35, 40, 45, 50, 55], 35) := by decide +kernel
theorem d_P_register_36 : decode b_P_register 36 = .ok (.aload_n 0, 1) := by decide +kernel
theorem d_P_register_37 : decode b_P_register 37 = .ok (.getfield 25, 3) := by decide +kernel
theorem d_P_register_40 : decode b_P_register 40 = .ok (.ireturn, 1) := by decide +kernel
theorem d_P_register_41 : decode b_P_register 41 = .ok (.aload_n 0, 1) := by decide +kernel
theorem d_P_register_42 : decode b_P_register 42 = .ok (.getfield 28, 3) := by decide +kernel
theorem d_P_register_45 : decode b_P_register 45 = .ok (.ireturn, 1) := by decide +kernel
theorem d_P_register_46 : decode b_P_register 46 = .ok (.aload_n 0, 1) := by decide +kernel
theorem d_P_register_47 : decode b_P_register 47 = .ok (.getfield 31, 3) := by decide +kernel
theorem d_P_register_50 : decode b_P_register 50 = .ok (.ireturn, 1) := by decide +kernel
theorem d_P_register_51 : decode b_P_register 51 = .ok (.aload_n 0, 1) := by decide +kernel
theorem d_P_register_52 : decode b_P_register 52 = .ok (.getfield 18, 3) := by decide +kernel
theorem d_P_register_55 : decode b_P_register 55 = .ok (.ireturn, 1) := by decide +kernel
theorem d_P_register_56 : decode b_P_register 56 = .ok (.aload_n 0, 1) := by decide +kernel
theorem d_P_register_57 : decode b_P_register 57 = .ok (.getfield 22, 3) := by decide +kernel
theorem d_P_register_60 : decode b_P_register 60 = .ok (.ireturn, 1) := by decide +kernel
theorem d_P_register_61 : decode b_P_register 61 = .ok (.aload_n 0, 1) := by decide +kernel
theorem d_P_register_62 : decode b_P_register 62 = .ok (.invokevirtual 34, 3) := by decide +kernel
theorem d_P_register_65 : decode b_P_register 65 = .ok (.ireturn, 1) := by decide +kernel
theorem d_P_setRegister_0 : decode b_P_setRegister 0 = .ok (.iload_n 1, 1) := by decide +kernel
theorem d_P_setRegister_1 : decode b_P_setRegister 1 = .ok (.tableswitch 75 0 4 #[35, 43, 51, 59, 67], 35) := by decide +kernel
theorem d_P_setRegister_36 : decode b_P_setRegister 36 = .ok (.aload_n 0, 1) := by decide +kernel
theorem d_P_setRegister_37 : decode b_P_setRegister 37 = .ok (.iload_n 2, 1) := by decide +kernel
theorem d_P_setRegister_38 : decode b_P_setRegister 38 = .ok (.putfield 25, 3) := by decide +kernel
theorem d_P_setRegister_41 : decode b_P_setRegister 41 = .ok (.goto 40, 3) := by decide +kernel
theorem d_P_setRegister_44 : decode b_P_setRegister 44 = .ok (.aload_n 0, 1) := by decide +kernel
theorem d_P_setRegister_45 : decode b_P_setRegister 45 = .ok (.iload_n 2, 1) := by decide +kernel
theorem d_P_setRegister_46 : decode b_P_setRegister 46 = .ok (.putfield 28, 3) := by decide +kernel
theorem d_P_setRegister_49 : decode b_P_setRegister 49 = .ok (.goto 32, 3) := by decide +kernel
theorem d_P_setRegister_52 : decode b_P_setRegister 52 = .ok (.aload_n 0, 1) := by decide +kernel
theorem d_P_setRegister_53 : decode b_P_setRegister 53 = .ok (.iload_n 2, 1) := by decide +kernel
theorem d_P_setRegister_54 : decode b_P_setRegister 54 = .ok (.putfield 31, 3) := by decide +kernel
theorem d_P_setRegister_57 : decode b_P_setRegister 57 = .ok (.goto 24, 3) := by decide +kernel
theorem d_P_setRegister_60 : decode b_P_setRegister 60 = .ok (.aload_n 0, 1) := by decide +kernel
theorem d_P_setRegister_61 : decode b_P_setRegister 61 = .ok (.iload_n 2, 1) := by decide +kernel
theorem d_P_setRegister_62 : decode b_P_setRegister 62 = .ok (.putfield 18, 3) := by decide +kernel
theorem d_P_setRegister_65 : decode b_P_setRegister 65 = .ok (.goto 16, 3) := by decide +kernel
theorem d_P_setRegister_68 : decode b_P_setRegister 68 = .ok (.aload_n 0, 1) := by decide +kernel
theorem d_P_setRegister_69 : decode b_P_setRegister 69 = .ok (.iload_n 2, 1) := by decide +kernel
theorem d_P_setRegister_70 : decode b_P_setRegister 70 = .ok (.putfield 22, 3) := by decide +kernel
theorem d_P_setRegister_73 : decode b_P_setRegister 73 = .ok (.goto 8, 3) := by decide +kernel
theorem d_P_setRegister_76 : decode b_P_setRegister 76 = .ok (.aload_n 0, 1) := by decide +kernel
theorem d_P_setRegister_77 : decode b_P_setRegister 77 = .ok (.iload_n 2, 1) := by decide +kernel
theorem d_P_setRegister_78 : decode b_P_setRegister 78 = .ok (.invokevirtual 38, 3) := by decide +kernel
theorem d_P_setRegister_81 : decode b_P_setRegister 81 = .ok (.return_, 1) := by decide +kernel
theorem d_P_set_0 : decode b_P_set 0 = .ok (.aload_n 0, 1) := by decide +kernel
theorem d_P_set_1 : decode b_P_set 1 = .ok (.iload_n 1, 1) := by decide +kernel
theorem d_P_set_2 : decode b_P_set 2 = .ok (.ifCond .ne 7, 3) := by decide +kernel
theorem d_P_set_5 : decode b_P_set 5 = .ok (.iconst 1, 1) := by decide +kernel
theorem d_P_set_6 : decode b_P_set 6 = .ok (.goto 4, 3) := by decide +kernel
theorem d_P_set_9 : decode b_P_set 9 = .ok (.iconst 0, 1) := by decide +kernel
theorem d_P_set_10 : decode b_P_set 10 = .ok (.putfield 48, 3) := by decide +kernel
theorem d_P_set_13 : decode b_P_set 13 = .ok (.aload_n 0, 1) := by decide +kernel
theorem d_P_set_14 : decode b_P_set 14 = .ok (.iload_n 1, 1) := by decide +kernel
theorem d_P_set_15 : decode b_P_set 15 = .ok (.bipush 7, 2) := by decide +kernel
theorem d_P_set_17 : decode b_P_set 17 = .ok (.ishr, 1) := by decide +kernel
theorem d_P_set_18 : decode b_P_set 18 = .ok (.putfield 42, 3) := by decide +kernel
theorem d_P_set_21 : decode b_P_set 21 = .ok (.iload_n 1, 1) := by decide +kernel
theorem d_P_set_22 : decode b_P_set 22 = .ok (.ireturn, 1) := by decide +kernel
theorem d_P_compare_0 : decode b_P_compare 0 = .ok (.aload_n 0, 1) := by decide +kernel
theorem d_P_compare_1 : decode b_P_compare 1 = .ok (.iload_n 1, 1) := by decide +kernel
theorem d_P_compare_2 : decode b_P_compare 2 = .ok (.iload_n 2, 1) := by decide +kernel
theorem d_P_compare_3 : decode b_P_compare 3 = .ok (.if_icmp .lt 7, 3) := by decide +kernel
theorem d_P_compare_6 : decode b_P_compare 6 = .ok (.iconst 1, 1) := by decide +kernel
theorem d_P_compare_7 : decode b_P_compare 7 = .ok (.goto 4, 3) := by decide +kernel
theorem d_P_compare_10 : decode b_P_compare 10 = .ok (.iconst 0, 1) := by decide +kernel
theorem d_P_compare_11 : decode b_P_compare 11 = .ok (.putfield 51, 3) := by decide +kernel
theorem d_P_compare_14 : decode b_P_compare 14 = .ok (.aload_n 0, 1) := by decide +kernel
theorem d_P_compare_15 : decode b_P_compare 15 = .ok (.iload_n 1, 1) := by decide +kernel
theorem d_P_compare_16 : decode b_P_compare 16 = .ok (.iload_n 2, 1) := by decide +kernel
theorem d_P_compare_17 : decode b_P_compare 17 = .ok (.isub, 1) := by decide +kernel
theorem d_P_compare_18 : decode b_P_compare 18 = .ok (.sipush 255, 3) := by decide +kernel
theorem d_P_compare_21 : decode b_P_compare 21 = .ok (.iand, 1) := by decide +kernel
theorem d_P_compare_22 : decode b_P_compare 22 = .ok (.invokevirtual 111, 3) := by decide +kernel
theorem d_P_compare_25 : decode b_P_compare 25 = .ok (.pop, 1) := by decide +kernel
theorem d_P_compare_26 : decode b_P_compare 26 = .ok (.return_, 1) := by decide +kernel
theorem d_P_add_0 : decode b_P_add 0 = .ok (.aload_n 0, 1) := by decide +kernel
theorem d_P_add_1 : decode b_P_add 1 = .ok (.getfield 25, 3) := by decide +kernel
theorem d_P_add_4 : decode b_P_add 4 = .ok (.iload_n 1, 1) := by decide +kernel
theorem d_P_add_5 : decode b_P_add 5 = .ok (.iadd, 1) := by decide +kernel
theorem d_P_add_6 : decode b_P_add 6 = .ok (.aload_n 0, 1) := by decide +kernel
theorem d_P_add_7 : decode b_P_add 7 = .ok (.getfield 51, 3) := by decide +kernel
theorem d_P_add_10 : decode b_P_add 10 = .ok (.iadd, 1) := by decide +kernel
theorem d_P_add_11 : decode b_P_add 11 = .ok (.istore_n 2, 1) := by decide +kernel
theorem d_P_add_12 : decode b_P_add 12 = .ok (.aload_n 0, 1) := by decide +kernel
theorem d_P_add_13 : decode b_P_add 13 = .ok (.aload_n 0, 1) := by decide +kernel
theorem d_P_add_14 : decode b_P_add 14 = .ok (.getfield 25, 3) := by decide +kernel
theorem d_P_add_17 : decode b_P_add 17 = .ok (.iload_n 2, 1) := by decide +kernel
theorem d_P_add_18 : decode b_P_add 18 = .ok (.ixor, 1) := by decide +kernel
theorem d_P_add_19 : decode b_P_add 19 = .ok (.iload_n 1, 1) := by decide +kernel
theorem d_P_add_20 : decode b_P_add 20 = .ok (.iload_n 2, 1) := by decide +kernel
theorem d_P_add_21 : decode b_P_add 21 = .ok (.ixor, 1) := by decide +kernel
theorem d_P_add_22 : decode b_P_add 22 = .ok (.iand, 1) := by decide +kernel
theorem d_P_add_23 : decode b_P_add 23 = .ok (.bipush 7, 2) := by decide +kernel
theorem d_P_add_25 : decode b_P_add 25 = .ok (.ishr, 1) := by decide +kernel
theorem d_P_add_26 : decode b_P_add 26 = .ok (.iconst 1, 1) := by decide +kernel
theorem d_P_add_27 : decode b_P_add 27 = .ok (.iand, 1) := by decide +kernel
theorem d_P_add_28 : decode b_P_add 28 = .ok (.putfield 45, 3) := by decide +kernel
theorem d_P_add_31 : decode b_P_add 31 = .ok (.aload_n 0, 1) := by decide +kernel
theorem d_P_add_32 : decode b_P_add 32 = .ok (.iload_n 2, 1) := by decide +kernel
theorem d_P_add_33 : decode b_P_add 33 = .ok (.sipush 255, 3) := by decide +kernel
theorem d_P_add_36 : decode b_P_add 36 = .ok (.if_icmp .le 7, 3) := by decide +kernel
theorem d_P_add_39 : decode b_P_add 39 = .ok (.iconst 1, 1) := by decide +kernel
theorem d_P_add_40 : decode b_P_add 40 = .ok (.goto 4, 3) := by decide +kernel
theorem d_P_add_43 : decode b_P_add 43 = .ok (.iconst 0, 1) := by decide +kernel
theorem d_P_add_44 : decode b_P_add 44 = .ok (.putfield 51, 3) := by decide +kernel
theorem d_P_add_47 : decode b_P_add 47 = .ok (.aload_n 0, 1) := by decide +kernel
theorem d_P_add_48 : decode b_P_add 48 = .ok (.aload_n 0, 1) := by decide +kernel
theorem d_P_add_49 : decode b_P_add 49 = .ok (.iload_n 2, 1) := by decide +kernel
theorem d_P_add_50 : decode b_P_add 50 = .ok (.sipush 255, 3) := by decide +kernel
theorem d_P_add_53 : decode b_P_add 53 = .ok (.iand, 1) := by decide +kernel
theorem d_P_add_54 : decode b_P_add 54 = .ok (.invokevirtual 111, 3) := by decide +kernel
theorem d_P_add_57 : decode b_P_add 57 = .ok (.putfield 25, 3) := by decide +kernel
theorem d_P_add_60 : decode b_P_add 60 = .ok (.return_, 1) := by decide +kernel
theorem d_P_changed_0 : decode b_P_changed 0 = .ok (.iload_n 1, 1) := by decide +kernel
theorem d_P_changed_1 : decode b_P_changed 1 = .ok (.tableswitch 89 0 6 #[43, 51, 64, 68, 89, 89, 81], 43) := by decide +kernel
theorem d_P_changed_44 : decode b_P_changed 44 = .ok (.iconst 2, 1) := by decide +kernel
theorem d_P_changed_45 : decode b_P_changed 45 = .ok (.iload_n 2, 1) := by decide +kernel
theorem d_P_changed_46 : decode b_P_changed 46 = .ok (.imul, 1) := by decide +kernel
theorem d_P_changed_47 : decode b_P_changed 47 = .ok (.sipush 255, 3) := by decide +kernel
theorem d_P_changed_50 : decode b_P_changed 50 = .ok (.iand, 1) := by decide +kernel
theorem d_P_changed_51 : decode b_P_changed 51 = .ok (.ireturn, 1) := by decide +kernel
theorem d_P_changed_52 : decode b_P_changed 52 = .ok (.iconst 2, 1) := by decide +kernel
theorem d_P_changed_53 : decode b_P_changed 53 = .ok (.iload_n 2, 1) := by decide +kernel
theorem d_P_changed_54 : decode b_P_changed 54 = .ok (.imul, 1) := by decide +kernel
theorem d_P_changed_55 : decode b_P_changed 55 = .ok (.aload_n 0, 1) := by decide +kernel
theorem d_P_changed_56 : decode b_P_changed 56 = .ok (.getfield 51, 3) := by decide +kernel
theorem d_P_changed_59 : decode b_P_changed 59 = .ok (.iadd, 1) := by decide +kernel
theorem d_P_changed_60 : decode b_P_changed 60 = .ok (.sipush 255, 3) := by decide +kernel
theorem d_P_changed_63 : decode b_P_changed 63 = .ok (.iand, 1) := by decide +kernel
theorem d_P_changed_64 : decode b_P_changed 64 = .ok (.ireturn, 1) := by decide +kernel
theorem d_P_changed_65 : decode b_P_changed 65 = .ok (.iload_n 2, 1) := by decide +kernel
theorem d_P_changed_66 : decode b_P_changed 66 = .ok (.iconst 2, 1) := by decide +kernel
theorem d_P_changed_67 : decode b_P_changed 67 = .ok (.idiv, 1) := by decide +kernel
theorem d_P_changed_68 : decode b_P_changed 68 = .ok (.ireturn, 1) := by decide +kernel
theorem d_P_changed_69 : decode b_P_changed 69 = .ok (.iload_n 2, 1) := by decide +kernel
theorem d_P_changed_70 : decode b_P_changed 70 = .ok (.iconst 2, 1) := by decide +kernel
theorem d_P_changed_71 : decode b_P_changed 71 = .ok (.idiv, 1) := by decide +kernel
theorem d_P_changed_72 : decode b_P_changed 72 = .ok (.sipush 128, 3) := by decide +kernel
theorem d_P_changed_75 : decode b_P_changed 75 = .ok (.aload_n 0, 1) := by decide +kernel
theorem d_P_changed_76 : decode b_P_changed 76 = .ok (.getfield 51, 3) := by decide +kernel
theorem d_P_changed_79 : decode b_P_changed 79 = .ok (.imul, 1) := by decide +kernel
theorem d_P_changed_80 : decode b_P_changed 80 = .ok (.iadd, 1) := by decide +kernel
theorem d_P_changed_81 : decode b_P_changed 81 = .ok (.ireturn, 1) := by decide +kernel
theorem d_P_changed_82 : decode b_P_changed 82 = .ok (.iload_n 2, 1) := by decide +kernel
theorem d_P_changed_83 : decode b_P_changed 83 = .ok (.iconst 1, 1) := by decide +kernel
theorem d_P_changed_84 : decode b_P_changed 84 = .ok (.isub, 1) := by decide +kernel
theorem d_P_changed_85 : decode b_P_changed 85 = .ok (.sipush 255, 3) := by decide +kernel
theorem d_P_changed_88 : decode b_P_changed 88 = .ok (.iand, 1) := by decide +kernel
theorem d_P_changed_89 : decode b_P_changed 89 = .ok (.ireturn, 1) := by decide +kernel
theorem d_P_changed_90 : decode b_P_changed 90 = .ok (.iload_n 2, 1) := by decide +kernel
theorem d_P_changed_91 : decode b_P_changed 91 = .ok (.iconst 1, 1) := by decide +kernel
theorem d_P_changed_92 : decode b_P_changed 92 = .ok (.iadd, 1) := by decide +kernel
theorem d_P_changed_93 : decode b_P_changed 93 = .ok (.sipush 255, 3) := by decide +kernel
theorem d_P_changed_96 : decode b_P_changed 96 = .ok (.iand, 1) := by decide +kernel
theorem d_P_changed_97 : decode b_P_changed 97 = .ok (.ireturn, 1) := by decide +kernel
theorem d_P_bytesBehind_0 : decode b_P_bytesBehind 0 = .ok (.iload_n 0, 1) := by decide +kernel
theorem d_P_bytesBehind_1 : decode b_P_bytesBehind 1 = .ok (.tableswitch 51 3 10 #[49, 51, 51, 49, 49, 51, 47, 47], 47) := by decide +kernel
theorem d_P_bytesBehind_48 : decode b_P_bytesBehind 48 = .ok (.iconst 0, 1) := by decide +kernel
theorem d_P_bytesBehind_49 : decode b_P_bytesBehind 49 = .ok (.ireturn, 1) := by decide +kernel
theorem d_P_bytesBehind_50 : decode b_P_bytesBehind 50 = .ok (.iconst 2, 1) := by decide +kernel
theorem d_P_bytesBehind_51 : decode b_P_bytesBehind 51 = .ok (.ireturn, 1) := by decide +kernel
theorem d_P_bytesBehind_52 : decode b_P_bytesBehind 52 = .ok (.iconst 1, 1) := by decide +kernel
theorem d_P_bytesBehind_53 : decode b_P_bytesBehind 53 = .ok (.ireturn, 1) := by decide +kernel
theorem d_P_address_0 : decode b_P_address 0 = .ok (.iload_n 0, 1) := by decide +kernel
theorem d_P_address_1 : decode b_P_address 1 = .ok (.sipush 1023, 3) := by decide +kernel
theorem d_P_address_4 : decode b_P_address 4 = .ok (.iand, 1) := by decide +kernel
theorem d_P_address_5 : decode b_P_address 5 = .ok (.ireturn, 1) := by decide +kernel
theorem d_P_modeOf_0 : decode b_P_modeOf 0 = .ok (.iload_n 0, 1) := by decide +kernel
theorem d_P_modeOf_1 : decode b_P_modeOf 1 = .ok (.bipush 32, 2) := by decide +kernel
theorem d_P_modeOf_3 : decode b_P_modeOf 3 = .ok (.idiv, 1) := by decide +kernel
theorem d_P_modeOf_4 : decode b_P_modeOf 4 = .ok (.bipush 8, 2) := by decide +kernel
theorem d_P_modeOf_6 : decode b_P_modeOf 6 = .ok (.imul, 1) := by decide +kernel
theorem d_P_modeOf_7 : decode b_P_modeOf 7 = .ok (.iload_n 0, 1) := by decide +kernel
theorem d_P_modeOf_8 : decode b_P_modeOf 8 = .ok (.iconst 4, 1) := by decide +kernel
theorem d_P_modeOf_9 : decode b_P_modeOf 9 = .ok (.idiv, 1) := by decide +kernel
theorem d_P_modeOf_10 : decode b_P_modeOf 10 = .ok (.bipush 8, 2) := by decide +kernel
theorem d_P_modeOf_12 : decode b_P_modeOf 12 = .ok (.irem, 1) := by decide +kernel
theorem d_P_modeOf_13 : decode b_P_modeOf 13 = .ok (.iadd, 1) := by decide +kernel
theorem d_P_modeOf_14 : decode b_P_modeOf 14 = .ok (.istore_n 1, 1) := by decide +kernel
theorem d_P_modeOf_15 : decode b_P_modeOf 15 = .ok (.iload_n 0, 1) := by decide +kernel
theorem d_P_modeOf_16 : decode b_P_modeOf 16 = .ok (.iconst 4, 1) := by decide +kernel
theorem d_P_modeOf_17 : decode b_P_modeOf 17 = .ok (.irem, 1) := by decide +kernel
theorem d_P_modeOf_18 : decode b_P_modeOf 18 = .ok (.tableswitch 57 0 2 #[26, 32, 51], 26) := by decide +kernel
theorem d_P_modeOf_44 : decode b_P_modeOf 44 = .ok (.getstatic 77, 3) := by decide +kernel
theorem d_P_modeOf_47 : decode b_P_modeOf 47 = .ok (.iload_n 1, 1) := by decide +kernel
theorem d_P_modeOf_48 : decode b_P_modeOf 48 = .ok (.iaload, 1) := by decide +kernel
theorem d_P_modeOf_49 : decode b_P_modeOf 49 = .ok (.ireturn, 1) := by decide +kernel
theorem d_P_modeOf_50 : decode b_P_modeOf 50 = .ok (.iload_n 0, 1) := by decide +kernel
theorem d_P_modeOf_51 : decode b_P_modeOf 51 = .ok (.sipush 137, 3) := by decide +kernel
theorem d_P_modeOf_54 : decode b_P_modeOf 54 = .ok (.if_icmp .ne 8, 3) := by decide +kernel
theorem d_P_modeOf_57 : decode b_P_modeOf 57 = .ok (.bipush 11, 2) := by decide +kernel
theorem d_P_modeOf_59 : decode b_P_modeOf 59 = .ok (.goto 9, 3) := by decide +kernel
theorem d_P_modeOf_62 : decode b_P_modeOf 62 = .ok (.iload_n 0, 1) := by decide +kernel
theorem d_P_modeOf_63 : decode b_P_modeOf 63 = .ok (.iconst 4, 1) := by decide +kernel
theorem d_P_modeOf_64 : decode b_P_modeOf 64 = .ok (.idiv, 1) := by decide +kernel
theorem d_P_modeOf_65 : decode b_P_modeOf 65 = .ok (.bipush 8, 2) := by decide +kernel
theorem d_P_modeOf_67 : decode b_P_modeOf 67 = .ok (.irem, 1) := by decide +kernel
theorem d_P_modeOf_68 : decode b_P_modeOf 68 = .ok (.ireturn, 1) := by decide +kernel
theorem d_P_modeOf_69 : decode b_P_modeOf 69 = .ok (.getstatic 81, 3) := by decide +kernel
theorem d_P_modeOf_72 : decode b_P_modeOf 72 = .ok (.iload_n 1, 1) := by decide +kernel
theorem d_P_modeOf_73 : decode b_P_modeOf 73 = .ok (.iaload, 1) := by decide +kernel
theorem d_P_modeOf_74 : decode b_P_modeOf 74 = .ok (.ireturn, 1) := by decide +kernel
theorem d_P_modeOf_75 : decode b_P_modeOf 75 = .ok (.bipush 11, 2) := by decide +kernel
theorem d_P_modeOf_77 : decode b_P_modeOf 77 = .ok (.ireturn, 1) := by decide +kernel
theorem d_P_wordAtZero_0 : decode b_P_wordAtZero 0 = .ok (.aload_n 0, 1) := by decide +kernel
theorem d_P_wordAtZero_1 : decode b_P_wordAtZero 1 = .ok (.getfield 12, 3) := by decide +kernel
theorem d_P_wordAtZero_4 : decode b_P_wordAtZero 4 = .ok (.getfield 102, 3) := by decide +kernel
theorem d_P_wordAtZero_7 : decode b_P_wordAtZero 7 = .ok (.iload_n 1, 1) := by decide +kernel
theorem d_P_wordAtZero_8 : decode b_P_wordAtZero 8 = .ok (.sipush 255, 3) := by decide +kernel
theorem d_P_wordAtZero_11 : decode b_P_wordAtZero 11 = .ok (.iand, 1) := by decide +kernel
theorem d_P_wordAtZero_12 : decode b_P_wordAtZero 12 = .ok (.iaload, 1) := by decide +kernel
theorem d_P_wordAtZero_13 : decode b_P_wordAtZero 13 = .ok (.sipush 256, 3) := by decide +kernel
theorem d_P_wordAtZero_16 : decode b_P_wordAtZero 16 = .ok (.aload_n 0, 1) := by decide +kernel
theorem d_P_wordAtZero_17 : decode b_P_wordAtZero 17 = .ok (.getfield 12, 3) := by decide +kernel
theorem d_P_wordAtZero_20 : decode b_P_wordAtZero 20 = .ok (.getfield 102, 3) := by decide +kernel
theorem d_P_wordAtZero_23 : decode b_P_wordAtZero 23 = .ok (.iload_n 1, 1) := by decide +kernel
theorem d_P_wordAtZero_24 : decode b_P_wordAtZero 24 = .ok (.iconst 1, 1) := by decide +kernel
theorem d_P_wordAtZero_25 : decode b_P_wordAtZero 25 = .ok (.iadd, 1) := by decide +kernel
theorem d_P_wordAtZero_26 : decode b_P_wordAtZero 26 = .ok (.sipush 255, 3) := by decide +kernel
theorem d_P_wordAtZero_29 : decode b_P_wordAtZero 29 = .ok (.iand, 1) := by decide +kernel
theorem d_P_wordAtZero_30 : decode b_P_wordAtZero 30 = .ok (.iaload, 1) := by decide +kernel
theorem d_P_wordAtZero_31 : decode b_P_wordAtZero 31 = .ok (.imul, 1) := by decide +kernel
theorem d_P_wordAtZero_32 : decode b_P_wordAtZero 32 = .ok (.iadd, 1) := by decide +kernel
theorem d_P_wordAtZero_33 : decode b_P_wordAtZero 33 = .ok (.ireturn, 1) := by decide +kernel
theorem d_P_place_0 : decode b_P_place 0 = .ok (.iload_n 1, 1) := by decide +kernel
theorem d_P_place_1 : decode b_P_place 1 = .ok (.tableswitch 125 0 8 #[51, 125, 125, 125, 69, 83, 118, 111, 97], 51) := by decide +kernel
theorem d_P_place_52 : decode b_P_place 52 = .ok (.aload_n 0, 1) := by decide +kernel
theorem d_P_place_53 : decode b_P_place 53 = .ok (.aload_n 0, 1) := by decide +kernel
theorem d_P_place_54 : decode b_P_place 54 = .ok (.getfield 87, 3) := by decide +kernel
theorem d_P_place_57 : decode b_P_place 57 = .ok (.aload_n 0, 1) := by decide +kernel
theorem d_P_place_58 : decode b_P_place 58 = .ok (.getfield 28, 3) := by decide +kernel
theorem d_P_place_61 : decode b_P_place 61 = .ok (.iadd, 1) := by decide +kernel
theorem d_P_place_62 : decode b_P_place 62 = .ok (.sipush 255, 3) := by decide +kernel
theorem d_P_place_65 : decode b_P_place 65 = .ok (.iand, 1) := by decide +kernel
theorem d_P_place_66 : decode b_P_place 66 = .ok (.invokevirtual 99, 3) := by decide +kernel
theorem d_P_place_69 : decode b_P_place 69 = .ok (.ireturn, 1) := by decide +kernel
theorem d_P_place_70 : decode b_P_place 70 = .ok (.aload_n 0, 1) := by decide +kernel
theorem d_P_place_71 : decode b_P_place 71 = .ok (.aload_n 0, 1) := by decide +kernel
theorem d_P_place_72 : decode b_P_place 72 = .ok (.getfield 87, 3) := by decide +kernel
theorem d_P_place_75 : decode b_P_place 75 = .ok (.invokevirtual 99, 3) := by decide +kernel
theorem d_P_place_78 : decode b_P_place 78 = .ok (.aload_n 0, 1) := by decide +kernel
theorem d_P_place_79 : decode b_P_place 79 = .ok (.getfield 31, 3) := by decide +kernel
theorem d_P_place_82 : decode b_P_place 82 = .ok (.iadd, 1) := by decide +kernel
theorem d_P_place_83 : decode b_P_place 83 = .ok (.ireturn, 1) := by decide +kernel
theorem d_P_place_84 : decode b_P_place 84 = .ok (.aload_n 0, 1) := by decide +kernel
theorem d_P_place_85 : decode b_P_place 85 = .ok (.getfield 87, 3) := by decide +kernel
theorem d_P_place_88 : decode b_P_place 88 = .ok (.aload_n 0, 1) := by decide +kernel
theorem d_P_place_89 : decode b_P_place 89 = .ok (.getfield 28, 3) := by decide +kernel
theorem d_P_place_92 : decode b_P_place 92 = .ok (.iadd, 1) := by decide +kernel
theorem d_P_place_93 : decode b_P_place 93 = .ok (.sipush 255, 3) := by decide +kernel
theorem d_P_place_96 : decode b_P_place 96 = .ok (.iand, 1) := by decide +kernel
theorem d_P_place_97 : decode b_P_place 97 = .ok (.ireturn, 1) := by decide +kernel
theorem d_P_place_98 : decode b_P_place 98 = .ok (.aload_n 0, 1) := by decide +kernel
theorem d_P_place_99 : decode b_P_place 99 = .ok (.getfield 87, 3) := by decide +kernel
theorem d_P_place_102 : decode b_P_place 102 = .ok (.aload_n 0, 1) := by decide +kernel
theorem d_P_place_103 : decode b_P_place 103 = .ok (.getfield 31, 3) := by decide +kernel
theorem d_P_place_106 : decode b_P_place 106 = .ok (.iadd, 1) := by decide +kernel
theorem d_P_place_107 : decode b_P_place 107 = .ok (.sipush 255, 3) := by decide +kernel
theorem d_P_place_110 : decode b_P_place 110 = .ok (.iand, 1) := by decide +kernel
theorem d_P_place_111 : decode b_P_place 111 = .ok (.ireturn, 1) := by decide +kernel
theorem d_P_place_112 : decode b_P_place 112 = .ok (.iload_n 2, 1) := by decide +kernel
theorem d_P_place_113 : decode b_P_place 113 = .ok (.aload_n 0, 1) := by decide +kernel
theorem d_P_place_114 : decode b_P_place 114 = .ok (.getfield 28, 3) := by decide +kernel
theorem d_P_place_117 : decode b_P_place 117 = .ok (.iadd, 1) := by decide +kernel
theorem d_P_place_118 : decode b_P_place 118 = .ok (.ireturn, 1) := by decide +kernel
theorem d_P_place_119 : decode b_P_place 119 = .ok (.iload_n 2, 1) := by decide +kernel
theorem d_P_place_120 : decode b_P_place 120 = .ok (.aload_n 0, 1) := by decide +kernel
theorem d_P_place_121 : decode b_P_place 121 = .ok (.getfield 31, 3) := by decide +kernel
theorem d_P_place_124 : decode b_P_place 124 = .ok (.iadd, 1) := by decide +kernel
theorem d_P_place_125 : decode b_P_place 125 = .ok (.ireturn, 1) := by decide +kernel
theorem d_P_place_126 : decode b_P_place 126 = .ok (.iload_n 2, 1) := by decide +kernel
theorem d_P_place_127 : decode b_P_place 127 = .ok (.ireturn, 1) := by decide +kernel
theorem d_P_fetch_0 : decode b_P_fetch 0 = .ok (.iload_n 1, 1) := by decide +kernel
theorem d_P_fetch_1 : decode b_P_fetch 1 = .ok (.invokestatic 84, 3) := by decide +kernel
theorem d_P_fetch_4 : decode b_P_fetch 4 = .ok (.istore_n 2, 1) := by decide +kernel
theorem d_P_fetch_5 : decode b_P_fetch 5 = .ok (.aload_n 0, 1) := by decide +kernel
theorem d_P_fetch_6 : decode b_P_fetch 6 = .ok (.iload_n 2, 1) := by decide +kernel
theorem d_P_fetch_7 : decode b_P_fetch 7 = .ok (.iconst 1, 1) := by decide +kernel
theorem d_P_fetch_8 : decode b_P_fetch 8 = .ok (.if_icmp .lt 19, 3) := by decide +kernel
theorem d_P_fetch_11 : decode b_P_fetch 11 = .ok (.aload_n 0, 1) := by decide +kernel
theorem d_P_fetch_12 : decode b_P_fetch 12 = .ok (.getfield 12, 3) := by decide +kernel
theorem d_P_fetch_15 : decode b_P_fetch 15 = .ok (.aload_n 0, 1) := by decide +kernel
theorem d_P_fetch_16 : decode b_P_fetch 16 = .ok (.getfield 22, 3) := by decide +kernel
theorem d_P_fetch_19 : decode b_P_fetch 19 = .ok (.iconst 1, 1) := by decide +kernel
theorem d_P_fetch_20 : decode b_P_fetch 20 = .ok (.iadd, 1) := by decide +kernel
theorem d_P_fetch_21 : decode b_P_fetch 21 = .ok (.invokevirtual 54, 3) := by decide +kernel
theorem d_P_fetch_24 : decode b_P_fetch 24 = .ok (.goto 4, 3) := by decide +kernel
theorem d_P_fetch_27 : decode b_P_fetch 27 = .ok (.iconst 0, 1) := by decide +kernel
theorem d_P_fetch_28 : decode b_P_fetch 28 = .ok (.putfield 87, 3) := by decide +kernel
theorem d_P_fetch_31 : decode b_P_fetch 31 = .ok (.iload_n 2, 1) := by decide +kernel
theorem d_P_fetch_32 : decode b_P_fetch 32 = .ok (.iconst 2, 1) := by decide +kernel
theorem d_P_fetch_33 : decode b_P_fetch 33 = .ok (.if_icmp .lt 28, 3) := by decide +kernel
theorem d_P_fetch_36 : decode b_P_fetch 36 = .ok (.aload_n 0, 1) := by decide +kernel
theorem d_P_fetch_37 : decode b_P_fetch 37 = .ok (.getfield 87, 3) := by decide +kernel
theorem d_P_fetch_40 : decode b_P_fetch 40 = .ok (.sipush 256, 3) := by decide +kernel
theorem d_P_fetch_43 : decode b_P_fetch 43 = .ok (.aload_n 0, 1) := by decide +kernel
theorem d_P_fetch_44 : decode b_P_fetch 44 = .ok (.getfield 12, 3) := by decide +kernel
theorem d_P_fetch_47 : decode b_P_fetch 47 = .ok (.aload_n 0, 1) := by decide +kernel
theorem d_P_fetch_48 : decode b_P_fetch 48 = .ok (.getfield 22, 3) := by decide +kernel
theorem d_P_fetch_51 : decode b_P_fetch 51 = .ok (.iconst 2, 1) := by decide +kernel
theorem d_P_fetch_52 : decode b_P_fetch 52 = .ok (.iadd, 1) := by decide +kernel
theorem d_P_fetch_53 : decode b_P_fetch 53 = .ok (.invokevirtual 54, 3) := by decide +kernel
theorem d_P_fetch_56 : decode b_P_fetch 56 = .ok (.imul, 1) := by decide +kernel
theorem d_P_fetch_57 : decode b_P_fetch 57 = .ok (.iadd, 1) := by decide +kernel
theorem d_P_fetch_58 : decode b_P_fetch 58 = .ok (.goto 7, 3) := by decide +kernel
theorem d_P_fetch_61 : decode b_P_fetch 61 = .ok (.aload_n 0, 1) := by decide +kernel
theorem d_P_fetch_62 : decode b_P_fetch 62 = .ok (.getfield 87, 3) := by decide +kernel
theorem d_P_fetch_65 : decode b_P_fetch 65 = .ok (.istore_n 3, 1) := by decide +kernel
theorem d_P_fetch_66 : decode b_P_fetch 66 = .ok (.aload_n 0, 1) := by decide +kernel
theorem d_P_fetch_67 : decode b_P_fetch 67 = .ok (.aload_n 0, 1) := by decide +kernel
theorem d_P_fetch_68 : decode b_P_fetch 68 = .ok (.iload_n 1, 1) := by decide +kernel
theorem d_P_fetch_69 : decode b_P_fetch 69 = .ok (.iload_n 3, 1) := by decide +kernel
theorem d_P_fetch_70 : decode b_P_fetch 70 = .ok (.invokevirtual 90, 3) := by decide +kernel
theorem d_P_fetch_73 : decode b_P_fetch 73 = .ok (.invokestatic 93, 3) := by decide +kernel
theorem d_P_fetch_76 : decode b_P_fetch 76 = .ok (.putfield 96, 3) := by decide +kernel
theorem d_P_fetch_79 : decode b_P_fetch 79 = .ok (.aload_n 0, 1) := by decide +kernel
theorem d_P_fetch_80 : decode b_P_fetch 80 = .ok (.aload_n 0, 1) := by decide +kernel
theorem d_P_fetch_81 : decode b_P_fetch 81 = .ok (.getfield 22, 3) := by decide +kernel
theorem d_P_fetch_84 : decode b_P_fetch 84 = .ok (.iconst 1, 1) := by decide +kernel
theorem d_P_fetch_85 : decode b_P_fetch 85 = .ok (.iadd, 1) := by decide +kernel
theorem d_P_fetch_86 : decode b_P_fetch 86 = .ok (.iload_n 2, 1) := by decide +kernel
theorem d_P_fetch_87 : decode b_P_fetch 87 = .ok (.iadd, 1) := by decide +kernel
theorem d_P_fetch_88 : decode b_P_fetch 88 = .ok (.invokestatic 93, 3) := by decide +kernel
theorem d_P_fetch_91 : decode b_P_fetch 91 = .ok (.putfield 74, 3) := by decide +kernel
theorem d_P_fetch_94 : decode b_P_fetch 94 = .ok (.return_, 1) := by decide +kernel
theorem d_P_operand_0 : decode b_P_operand 0 = .ok (.iload_n 1, 1) := by decide +kernel
theorem d_P_operand_1 : decode b_P_operand 1 = .ok (.iconst 2, 1) := by decide +kernel
theorem d_P_operand_2 : decode b_P_operand 2 = .ok (.if_icmp .ne 8, 3) := by decide +kernel
theorem d_P_operand_5 : decode b_P_operand 5 = .ok (.aload_n 0, 1) := by decide +kernel
theorem d_P_operand_6 : decode b_P_operand 6 = .ok (.getfield 87, 3) := by decide +kernel
theorem d_P_operand_9 : decode b_P_operand 9 = .ok (.ireturn, 1) := by decide +kernel
theorem d_P_operand_10 : decode b_P_operand 10 = .ok (.iload_n 1, 1) := by decide +kernel
theorem d_P_operand_11 : decode b_P_operand 11 = .ok (.bipush 9, 2) := by decide +kernel
theorem d_P_operand_13 : decode b_P_operand 13 = .ok (.if_icmp .ne 8, 3) := by decide +kernel
theorem d_P_operand_16 : decode b_P_operand 16 = .ok (.aload_n 0, 1) := by decide +kernel
theorem d_P_operand_17 : decode b_P_operand 17 = .ok (.getfield 25, 3) := by decide +kernel
theorem d_P_operand_20 : decode b_P_operand 20 = .ok (.ireturn, 1) := by decide +kernel
theorem d_P_operand_21 : decode b_P_operand 21 = .ok (.aload_n 0, 1) := by decide +kernel
theorem d_P_operand_22 : decode b_P_operand 22 = .ok (.getfield 12, 3) := by decide +kernel
theorem d_P_operand_25 : decode b_P_operand 25 = .ok (.aload_n 0, 1) := by decide +kernel
theorem d_P_operand_26 : decode b_P_operand 26 = .ok (.getfield 96, 3) := by decide +kernel
theorem d_P_operand_29 : decode b_P_operand 29 = .ok (.invokevirtual 54, 3) := by decide +kernel
theorem d_P_operand_32 : decode b_P_operand 32 = .ok (.ireturn, 1) := by decide +kernel
theorem d_P_push_0 : decode b_P_push 0 = .ok (.aload_n 0, 1) := by decide +kernel
theorem d_P_push_1 : decode b_P_push 1 = .ok (.getfield 12, 3) := by decide +kernel
theorem d_P_push_4 : decode b_P_push 4 = .ok (.sipush 256, 3) := by decide +kernel
theorem d_P_push_7 : decode b_P_push 7 = .ok (.aload_n 0, 1) := by decide +kernel
theorem d_P_push_8 : decode b_P_push 8 = .ok (.getfield 18, 3) := by decide +kernel
theorem d_P_push_11 : decode b_P_push 11 = .ok (.iadd, 1) := by decide +kernel
theorem d_P_push_12 : decode b_P_push 12 = .ok (.iload_n 1, 1) := by decide +kernel
theorem d_P_push_13 : decode b_P_push 13 = .ok (.invokevirtual 105, 3) := by decide +kernel
theorem d_P_push_16 : decode b_P_push 16 = .ok (.pop, 1) := by decide +kernel
theorem d_P_push_17 : decode b_P_push 17 = .ok (.aload_n 0, 1) := by decide +kernel
theorem d_P_push_18 : decode b_P_push 18 = .ok (.aload_n 0, 1) := by decide +kernel
theorem d_P_push_19 : decode b_P_push 19 = .ok (.getfield 18, 3) := by decide +kernel
theorem d_P_push_22 : decode b_P_push 22 = .ok (.iconst 1, 1) := by decide +kernel
theorem d_P_push_23 : decode b_P_push 23 = .ok (.isub, 1) := by decide +kernel
theorem d_P_push_24 : decode b_P_push 24 = .ok (.sipush 255, 3) := by decide +kernel
theorem d_P_push_27 : decode b_P_push 27 = .ok (.iand, 1) := by decide +kernel
theorem d_P_push_28 : decode b_P_push 28 = .ok (.putfield 18, 3) := by decide +kernel
theorem d_P_push_31 : decode b_P_push 31 = .ok (.return_, 1) := by decide +kernel
theorem d_P_pull_0 : decode b_P_pull 0 = .ok (.aload_n 0, 1) := by decide +kernel
theorem d_P_pull_1 : decode b_P_pull 1 = .ok (.aload_n 0, 1) := by decide +kernel
theorem d_P_pull_2 : decode b_P_pull 2 = .ok (.getfield 18, 3) := by decide +kernel
theorem d_P_pull_5 : decode b_P_pull 5 = .ok (.iconst 1, 1) := by decide +kernel
theorem d_P_pull_6 : decode b_P_pull 6 = .ok (.iadd, 1) := by decide +kernel
theorem d_P_pull_7 : decode b_P_pull 7 = .ok (.sipush 255, 3) := by decide +kernel
theorem d_P_pull_10 : decode b_P_pull 10 = .ok (.iand, 1) := by decide +kernel
theorem d_P_pull_11 : decode b_P_pull 11 = .ok (.putfield 18, 3) := by decide +kernel
theorem d_P_pull_14 : decode b_P_pull 14 = .ok (.aload_n 0, 1) := by decide +kernel
theorem d_P_pull_15 : decode b_P_pull 15 = .ok (.getfield 12, 3) := by decide +kernel
theorem d_P_pull_18 : decode b_P_pull 18 = .ok (.sipush 256, 3) := by decide +kernel
theorem d_P_pull_21 : decode b_P_pull 21 = .ok (.aload_n 0, 1) := by decide +kernel
theorem d_P_pull_22 : decode b_P_pull 22 = .ok (.getfield 18, 3) := by decide +kernel
theorem d_P_pull_25 : decode b_P_pull 25 = .ok (.iadd, 1) := by decide +kernel
theorem d_P_pull_26 : decode b_P_pull 26 = .ok (.invokevirtual 54, 3) := by decide +kernel
theorem d_P_pull_29 : decode b_P_pull 29 = .ok (.ireturn, 1) := by decide +kernel
theorem d_P_comeBack_0 : decode b_P_comeBack 0 = .ok (.aload_n 0, 1) := by decide +kernel
theorem d_P_comeBack_1 : decode b_P_comeBack 1 = .ok (.invokevirtual 145, 3) := by decide +kernel
theorem d_P_comeBack_4 : decode b_P_comeBack 4 = .ok (.istore_n 1, 1) := by decide +kernel
theorem d_P_comeBack_5 : decode b_P_comeBack 5 = .ok (.aload_n 0, 1) := by decide +kernel
theorem d_P_comeBack_6 : decode b_P_comeBack 6 = .ok (.iload_n 1, 1) := by decide +kernel
theorem d_P_comeBack_7 : decode b_P_comeBack 7 = .ok (.sipush 256, 3) := by decide +kernel
theorem d_P_comeBack_10 : decode b_P_comeBack 10 = .ok (.aload_n 0, 1) := by decide +kernel
theorem d_P_comeBack_11 : decode b_P_comeBack 11 = .ok (.invokevirtual 145, 3) := by decide +kernel
theorem d_P_comeBack_14 : decode b_P_comeBack 14 = .ok (.imul, 1) := by decide +kernel
theorem d_P_comeBack_15 : decode b_P_comeBack 15 = .ok (.iadd, 1) := by decide +kernel
theorem d_P_comeBack_16 : decode b_P_comeBack 16 = .ok (.iconst 1, 1) := by decide +kernel
theorem d_P_comeBack_17 : decode b_P_comeBack 17 = .ok (.iadd, 1) := by decide +kernel
theorem d_P_comeBack_18 : decode b_P_comeBack 18 = .ok (.invokestatic 93, 3) := by decide +kernel
theorem d_P_comeBack_21 : decode b_P_comeBack 21 = .ok (.putfield 74, 3) := by decide +kernel
theorem d_P_comeBack_24 : decode b_P_comeBack 24 = .ok (.return_, 1) := by decide +kernel
theorem d_P_branch_0 : decode b_P_branch 0 = .ok (.iload_n 1, 1) := by decide +kernel
theorem d_P_branch_1 : decode b_P_branch 1 = .ok (.iconst 2, 1) := by decide +kernel
theorem d_P_branch_2 : decode b_P_branch 2 = .ok (.idiv, 1) := by decide +kernel
theorem d_P_branch_3 : decode b_P_branch 3 = .ok (.tableswitch 49 0 2 #[25, 33, 41], 25) := by decide +kernel
theorem d_P_branch_28 : decode b_P_branch 28 = .ok (.aload_n 0, 1) := by decide +kernel
theorem d_P_branch_29 : decode b_P_branch 29 = .ok (.getfield 42, 3) := by decide +kernel
theorem d_P_branch_32 : decode b_P_branch 32 = .ok (.istore_n 2, 1) := by decide +kernel
theorem d_P_branch_33 : decode b_P_branch 33 = .ok (.goto 24, 3) := by decide +kernel
theorem d_P_branch_36 : decode b_P_branch 36 = .ok (.aload_n 0, 1) := by decide +kernel
theorem d_P_branch_37 : decode b_P_branch 37 = .ok (.getfield 45, 3) := by decide +kernel
theorem d_P_branch_40 : decode b_P_branch 40 = .ok (.istore_n 2, 1) := by decide +kernel
theorem d_P_branch_41 : decode b_P_branch 41 = .ok (.goto 16, 3) := by decide +kernel
theorem d_P_branch_44 : decode b_P_branch 44 = .ok (.aload_n 0, 1) := by decide +kernel
theorem d_P_branch_45 : decode b_P_branch 45 = .ok (.getfield 51, 3) := by decide +kernel
theorem d_P_branch_48 : decode b_P_branch 48 = .ok (.istore_n 2, 1) := by decide +kernel
theorem d_P_branch_49 : decode b_P_branch 49 = .ok (.goto 8, 3) := by decide +kernel
theorem d_P_branch_52 : decode b_P_branch 52 = .ok (.aload_n 0, 1) := by decide +kernel
theorem d_P_branch_53 : decode b_P_branch 53 = .ok (.getfield 48, 3) := by decide +kernel
theorem d_P_branch_56 : decode b_P_branch 56 = .ok (.istore_n 2, 1) := by decide +kernel
theorem d_P_branch_57 : decode b_P_branch 57 = .ok (.iload_n 2, 1) := by decide +kernel
theorem d_P_branch_58 : decode b_P_branch 58 = .ok (.iload_n 1, 1) := by decide +kernel
theorem d_P_branch_59 : decode b_P_branch 59 = .ok (.iconst 2, 1) := by decide +kernel
theorem d_P_branch_60 : decode b_P_branch 60 = .ok (.irem, 1) := by decide +kernel
theorem d_P_branch_61 : decode b_P_branch 61 = .ok (.if_icmp .ne 40, 3) := by decide +kernel
theorem d_P_branch_64 : decode b_P_branch 64 = .ok (.aload_n 0, 1) := by decide +kernel
theorem d_P_branch_65 : decode b_P_branch 65 = .ok (.aload_n 0, 1) := by decide +kernel
theorem d_P_branch_66 : decode b_P_branch 66 = .ok (.getfield 74, 3) := by decide +kernel
theorem d_P_branch_69 : decode b_P_branch 69 = .ok (.aload_n 0, 1) := by decide +kernel
theorem d_P_branch_70 : decode b_P_branch 70 = .ok (.getfield 87, 3) := by decide +kernel
theorem d_P_branch_73 : decode b_P_branch 73 = .ok (.sipush 128, 3) := by decide +kernel
theorem d_P_branch_76 : decode b_P_branch 76 = .ok (.if_icmp .ge 10, 3) := by decide +kernel
theorem d_P_branch_79 : decode b_P_branch 79 = .ok (.aload_n 0, 1) := by decide +kernel
theorem d_P_branch_80 : decode b_P_branch 80 = .ok (.getfield 87, 3) := by decide +kernel
theorem d_P_branch_83 : decode b_P_branch 83 = .ok (.goto 11, 3) := by decide +kernel
theorem d_P_branch_86 : decode b_P_branch 86 = .ok (.aload_n 0, 1) := by decide +kernel
theorem d_P_branch_87 : decode b_P_branch 87 = .ok (.getfield 87, 3) := by decide +kernel
theorem d_P_branch_90 : decode b_P_branch 90 = .ok (.sipush 256, 3) := by decide +kernel
theorem d_P_branch_93 : decode b_P_branch 93 = .ok (.isub, 1) := by decide +kernel
theorem d_P_branch_94 : decode b_P_branch 94 = .ok (.iadd, 1) := by decide +kernel
theorem d_P_branch_95 : decode b_P_branch 95 = .ok (.invokestatic 93, 3) := by decide +kernel
theorem d_P_branch_98 : decode b_P_branch 98 = .ok (.putfield 74, 3) := by decide +kernel
theorem d_P_branch_101 : decode b_P_branch 101 = .ok (.return_, 1) := by decide +kernel
theorem d_P_executeAlone_0 : decode b_P_executeAlone 0 = .ok (.iload_n 1, 1) := by decide +kernel
theorem d_P_executeAlone_1 : decode b_P_executeAlone 1 = .ok (.lookupswitch 258 #[(8, 107), (24, 118), (40, 126), (56, 137), (72, 145), (96, 156), (104, 163), (136, 178), (152, 199), (168, 214), (184, 229), (200, 237)], 107) := by decide +kernel
theorem d_P_executeAlone_108 : decode b_P_executeAlone 108 = .ok (.aload_n 0, 1) := by decide +kernel
theorem d_P_executeAlone_109 : decode b_P_executeAlone 109 = .ok (.aload_n 0, 1) := by decide +kernel
theorem d_P_executeAlone_110 : decode b_P_executeAlone 110 = .ok (.invokevirtual 34, 3) := by decide +kernel
theorem d_P_executeAlone_113 : decode b_P_executeAlone 113 = .ok (.invokevirtual 142, 3) := by decide +kernel
theorem d_P_executeAlone_116 : decode b_P_executeAlone 116 = .ok (.goto 161, 3) := by decide +kernel
theorem d_P_executeAlone_119 : decode b_P_executeAlone 119 = .ok (.aload_n 0, 1) := by decide +kernel
theorem d_P_executeAlone_120 : decode b_P_executeAlone 120 = .ok (.iconst 0, 1) := by decide +kernel
theorem d_P_executeAlone_121 : decode b_P_executeAlone 121 = .ok (.putfield 51, 3) := by decide +kernel
theorem d_P_executeAlone_124 : decode b_P_executeAlone 124 = .ok (.goto 153, 3) := by decide +kernel
theorem d_P_executeAlone_127 : decode b_P_executeAlone 127 = .ok (.aload_n 0, 1) := by decide +kernel
theorem d_P_executeAlone_128 : decode b_P_executeAlone 128 = .ok (.aload_n 0, 1) := by decide +kernel
theorem d_P_executeAlone_129 : decode b_P_executeAlone 129 = .ok (.invokevirtual 145, 3) := by decide +kernel
theorem d_P_executeAlone_132 : decode b_P_executeAlone 132 = .ok (.invokevirtual 38, 3) := by decide +kernel
theorem d_P_executeAlone_135 : decode b_P_executeAlone 135 = .ok (.goto 142, 3) := by decide +kernel
theorem d_P_executeAlone_138 : decode b_P_executeAlone 138 = .ok (.aload_n 0, 1) := by decide +kernel
theorem d_P_executeAlone_139 : decode b_P_executeAlone 139 = .ok (.iconst 1, 1) := by decide +kernel
theorem d_P_executeAlone_140 : decode b_P_executeAlone 140 = .ok (.putfield 51, 3) := by decide +kernel
theorem d_P_executeAlone_143 : decode b_P_executeAlone 143 = .ok (.goto 134, 3) := by decide +kernel
theorem d_P_executeAlone_146 : decode b_P_executeAlone 146 = .ok (.aload_n 0, 1) := by decide +kernel
theorem d_P_executeAlone_147 : decode b_P_executeAlone 147 = .ok (.aload_n 0, 1) := by decide +kernel
theorem d_P_executeAlone_148 : decode b_P_executeAlone 148 = .ok (.getfield 25, 3) := by decide +kernel
theorem d_P_executeAlone_151 : decode b_P_executeAlone 151 = .ok (.invokevirtual 142, 3) := by decide +kernel
theorem d_P_executeAlone_154 : decode b_P_executeAlone 154 = .ok (.goto 123, 3) := by decide +kernel
theorem d_P_executeAlone_157 : decode b_P_executeAlone 157 = .ok (.aload_n 0, 1) := by decide +kernel
theorem d_P_executeAlone_158 : decode b_P_executeAlone 158 = .ok (.invokevirtual 148, 3) := by decide +kernel
theorem d_P_executeAlone_161 : decode b_P_executeAlone 161 = .ok (.goto 116, 3) := by decide +kernel
theorem d_P_executeAlone_164 : decode b_P_executeAlone 164 = .ok (.aload_n 0, 1) := by decide +kernel
theorem d_P_executeAlone_165 : decode b_P_executeAlone 165 = .ok (.aload_n 0, 1) := by decide +kernel
theorem d_P_executeAlone_166 : decode b_P_executeAlone 166 = .ok (.aload_n 0, 1) := by decide +kernel
theorem d_P_executeAlone_167 : decode b_P_executeAlone 167 = .ok (.invokevirtual 145, 3) := by decide +kernel
theorem d_P_executeAlone_170 : decode b_P_executeAlone 170 = .ok (.invokevirtual 111, 3) := by decide +kernel
theorem d_P_executeAlone_173 : decode b_P_executeAlone 173 = .ok (.putfield 25, 3) := by decide +kernel
theorem d_P_executeAlone_176 : decode b_P_executeAlone 176 = .ok (.goto 101, 3) := by decide +kernel
theorem d_P_executeAlone_179 : decode b_P_executeAlone 179 = .ok (.aload_n 0, 1) := by decide +kernel
theorem d_P_executeAlone_180 : decode b_P_executeAlone 180 = .ok (.aload_n 0, 1) := by decide +kernel
theorem d_P_executeAlone_181 : decode b_P_executeAlone 181 = .ok (.aload_n 0, 1) := by decide +kernel
theorem d_P_executeAlone_182 : decode b_P_executeAlone 182 = .ok (.getfield 31, 3) := by decide +kernel
theorem d_P_executeAlone_185 : decode b_P_executeAlone 185 = .ok (.iconst 1, 1) := by decide +kernel
theorem d_P_executeAlone_186 : decode b_P_executeAlone 186 = .ok (.isub, 1) := by decide +kernel
theorem d_P_executeAlone_187 : decode b_P_executeAlone 187 = .ok (.sipush 255, 3) := by decide +kernel
theorem d_P_executeAlone_190 : decode b_P_executeAlone 190 = .ok (.iand, 1) := by decide +kernel
theorem d_P_executeAlone_191 : decode b_P_executeAlone 191 = .ok (.invokevirtual 111, 3) := by decide +kernel
theorem d_P_executeAlone_194 : decode b_P_executeAlone 194 = .ok (.putfield 31, 3) := by decide +kernel
theorem d_P_executeAlone_197 : decode b_P_executeAlone 197 = .ok (.goto 80, 3) := by decide +kernel
theorem d_P_executeAlone_200 : decode b_P_executeAlone 200 = .ok (.aload_n 0, 1) := by decide +kernel
theorem d_P_executeAlone_201 : decode b_P_executeAlone 201 = .ok (.aload_n 0, 1) := by decide +kernel
theorem d_P_executeAlone_202 : decode b_P_executeAlone 202 = .ok (.aload_n 0, 1) := by decide +kernel
theorem d_P_executeAlone_203 : decode b_P_executeAlone 203 = .ok (.getfield 31, 3) := by decide +kernel
theorem d_P_executeAlone_206 : decode b_P_executeAlone 206 = .ok (.invokevirtual 111, 3) := by decide +kernel
theorem d_P_executeAlone_209 : decode b_P_executeAlone 209 = .ok (.putfield 25, 3) := by decide +kernel
theorem d_P_executeAlone_212 : decode b_P_executeAlone 212 = .ok (.goto 65, 3) := by decide +kernel
theorem d_P_executeAlone_215 : decode b_P_executeAlone 215 = .ok (.aload_n 0, 1) := by decide +kernel
theorem d_P_executeAlone_216 : decode b_P_executeAlone 216 = .ok (.aload_n 0, 1) := by decide +kernel
theorem d_P_executeAlone_217 : decode b_P_executeAlone 217 = .ok (.aload_n 0, 1) := by decide +kernel
theorem d_P_executeAlone_218 : decode b_P_executeAlone 218 = .ok (.getfield 25, 3) := by decide +kernel
theorem d_P_executeAlone_221 : decode b_P_executeAlone 221 = .ok (.invokevirtual 111, 3) := by decide +kernel
theorem d_P_executeAlone_224 : decode b_P_executeAlone 224 = .ok (.putfield 31, 3) := by decide +kernel
theorem d_P_executeAlone_227 : decode b_P_executeAlone 227 = .ok (.goto 50, 3) := by decide +kernel
theorem d_P_executeAlone_230 : decode b_P_executeAlone 230 = .ok (.aload_n 0, 1) := by decide +kernel
theorem d_P_executeAlone_231 : decode b_P_executeAlone 231 = .ok (.iconst 0, 1) := by decide +kernel
theorem d_P_executeAlone_232 : decode b_P_executeAlone 232 = .ok (.putfield 45, 3) := by decide +kernel
theorem d_P_executeAlone_235 : decode b_P_executeAlone 235 = .ok (.goto 42, 3) := by decide +kernel
theorem d_P_executeAlone_238 : decode b_P_executeAlone 238 = .ok (.aload_n 0, 1) := by decide +kernel
theorem d_P_executeAlone_239 : decode b_P_executeAlone 239 = .ok (.aload_n 0, 1) := by decide +kernel
theorem d_P_executeAlone_240 : decode b_P_executeAlone 240 = .ok (.aload_n 0, 1) := by decide +kernel
theorem d_P_executeAlone_241 : decode b_P_executeAlone 241 = .ok (.getfield 31, 3) := by decide +kernel
theorem d_P_executeAlone_244 : decode b_P_executeAlone 244 = .ok (.iconst 1, 1) := by decide +kernel
theorem d_P_executeAlone_245 : decode b_P_executeAlone 245 = .ok (.iadd, 1) := by decide +kernel
theorem d_P_executeAlone_246 : decode b_P_executeAlone 246 = .ok (.sipush 255, 3) := by decide +kernel
theorem d_P_executeAlone_249 : decode b_P_executeAlone 249 = .ok (.iand, 1) := by decide +kernel
theorem d_P_executeAlone_250 : decode b_P_executeAlone 250 = .ok (.invokevirtual 111, 3) := by decide +kernel
theorem d_P_executeAlone_253 : decode b_P_executeAlone 253 = .ok (.putfield 31, 3) := by decide +kernel
theorem d_P_executeAlone_256 : decode b_P_executeAlone 256 = .ok (.goto 21, 3) := by decide +kernel
theorem d_P_executeAlone_259 : decode b_P_executeAlone 259 = .ok (.aload_n 0, 1) := by decide +kernel
theorem d_P_executeAlone_260 : decode b_P_executeAlone 260 = .ok (.aload_n 0, 1) := by decide +kernel
theorem d_P_executeAlone_261 : decode b_P_executeAlone 261 = .ok (.aload_n 0, 1) := by decide +kernel
theorem d_P_executeAlone_262 : decode b_P_executeAlone 262 = .ok (.getfield 28, 3) := by decide +kernel
theorem d_P_executeAlone_265 : decode b_P_executeAlone 265 = .ok (.iconst 1, 1) := by decide +kernel
theorem d_P_executeAlone_266 : decode b_P_executeAlone 266 = .ok (.iadd, 1) := by decide +kernel
theorem d_P_executeAlone_267 : decode b_P_executeAlone 267 = .ok (.sipush 255, 3) := by decide +kernel
theorem d_P_executeAlone_270 : decode b_P_executeAlone 270 = .ok (.iand, 1) := by decide +kernel
theorem d_P_executeAlone_271 : decode b_P_executeAlone 271 = .ok (.invokevirtual 111, 3) := by decide +kernel
theorem d_P_executeAlone_274 : decode b_P_executeAlone 274 = .ok (.putfield 28, 3) := by decide +kernel
theorem d_P_executeAlone_277 : decode b_P_executeAlone 277 = .ok (.return_, 1) := by decide +kernel
theorem d_P_jump_0 : decode b_P_jump 0 = .ok (.iload_n 1, 1) := by decide +kernel
theorem d_P_jump_1 : decode b_P_jump 1 = .ok (.bipush 108, 2) := by decide +kernel
theorem d_P_jump_3 : decode b_P_jump 3 = .ok (.if_icmp .ne 42, 3) := by decide +kernel
theorem d_P_jump_6 : decode b_P_jump 6 = .ok (.aload_n 0, 1) := by decide +kernel
theorem d_P_jump_7 : decode b_P_jump 7 = .ok (.getfield 12, 3) := by decide +kernel
theorem d_P_jump_10 : decode b_P_jump 10 = .ok (.aload_n 0, 1) := by decide +kernel
theorem d_P_jump_11 : decode b_P_jump 11 = .ok (.getfield 96, 3) := by decide +kernel
theorem d_P_jump_14 : decode b_P_jump 14 = .ok (.invokevirtual 54, 3) := by decide +kernel
theorem d_P_jump_17 : decode b_P_jump 17 = .ok (.istore_n 2, 1) := by decide +kernel
theorem d_P_jump_18 : decode b_P_jump 18 = .ok (.aload_n 0, 1) := by decide +kernel
theorem d_P_jump_19 : decode b_P_jump 19 = .ok (.iload_n 2, 1) := by decide +kernel
theorem d_P_jump_20 : decode b_P_jump 20 = .ok (.sipush 256, 3) := by decide +kernel
theorem d_P_jump_23 : decode b_P_jump 23 = .ok (.aload_n 0, 1) := by decide +kernel
theorem d_P_jump_24 : decode b_P_jump 24 = .ok (.getfield 12, 3) := by decide +kernel
theorem d_P_jump_27 : decode b_P_jump 27 = .ok (.aload_n 0, 1) := by decide +kernel
theorem d_P_jump_28 : decode b_P_jump 28 = .ok (.getfield 96, 3) := by decide +kernel
theorem d_P_jump_31 : decode b_P_jump 31 = .ok (.iconst 1, 1) := by decide +kernel
theorem d_P_jump_32 : decode b_P_jump 32 = .ok (.iadd, 1) := by decide +kernel
theorem d_P_jump_33 : decode b_P_jump 33 = .ok (.invokevirtual 54, 3) := by decide +kernel
theorem d_P_jump_36 : decode b_P_jump 36 = .ok (.imul, 1) := by decide +kernel
theorem d_P_jump_37 : decode b_P_jump 37 = .ok (.iadd, 1) := by decide +kernel
theorem d_P_jump_38 : decode b_P_jump 38 = .ok (.invokestatic 93, 3) := by decide +kernel
theorem d_P_jump_41 : decode b_P_jump 41 = .ok (.putfield 74, 3) := by decide +kernel
theorem d_P_jump_44 : decode b_P_jump 44 = .ok (.return_, 1) := by decide +kernel
theorem d_P_jump_45 : decode b_P_jump 45 = .ok (.iload_n 1, 1) := by decide +kernel
theorem d_P_jump_46 : decode b_P_jump 46 = .ok (.bipush 32, 2) := by decide +kernel
theorem d_P_jump_48 : decode b_P_jump 48 = .ok (.if_icmp .ne 31, 3) := by decide +kernel
theorem d_P_jump_51 : decode b_P_jump 51 = .ok (.aload_n 0, 1) := by decide +kernel
theorem d_P_jump_52 : decode b_P_jump 52 = .ok (.getfield 22, 3) := by decide +kernel
theorem d_P_jump_55 : decode b_P_jump 55 = .ok (.iconst 2, 1) := by decide +kernel
theorem d_P_jump_56 : decode b_P_jump 56 = .ok (.iadd, 1) := by decide +kernel
theorem d_P_jump_57 : decode b_P_jump 57 = .ok (.invokestatic 93, 3) := by decide +kernel
theorem d_P_jump_60 : decode b_P_jump 60 = .ok (.istore_n 2, 1) := by decide +kernel
theorem d_P_jump_61 : decode b_P_jump 61 = .ok (.aload_n 0, 1) := by decide +kernel
theorem d_P_jump_62 : decode b_P_jump 62 = .ok (.iload_n 2, 1) := by decide +kernel
theorem d_P_jump_63 : decode b_P_jump 63 = .ok (.sipush 256, 3) := by decide +kernel
theorem d_P_jump_66 : decode b_P_jump 66 = .ok (.idiv, 1) := by decide +kernel
theorem d_P_jump_67 : decode b_P_jump 67 = .ok (.invokevirtual 142, 3) := by decide +kernel
theorem d_P_jump_70 : decode b_P_jump 70 = .ok (.aload_n 0, 1) := by decide +kernel
theorem d_P_jump_71 : decode b_P_jump 71 = .ok (.iload_n 2, 1) := by decide +kernel
theorem d_P_jump_72 : decode b_P_jump 72 = .ok (.sipush 256, 3) := by decide +kernel
theorem d_P_jump_75 : decode b_P_jump 75 = .ok (.irem, 1) := by decide +kernel
theorem d_P_jump_76 : decode b_P_jump 76 = .ok (.invokevirtual 142, 3) := by decide +kernel
theorem d_P_jump_79 : decode b_P_jump 79 = .ok (.aload_n 0, 1) := by decide +kernel
theorem d_P_jump_80 : decode b_P_jump 80 = .ok (.aload_n 0, 1) := by decide +kernel
theorem d_P_jump_81 : decode b_P_jump 81 = .ok (.getfield 96, 3) := by decide +kernel
theorem d_P_jump_84 : decode b_P_jump 84 = .ok (.putfield 74, 3) := by decide +kernel
theorem d_P_jump_87 : decode b_P_jump 87 = .ok (.return_, 1) := by decide +kernel
theorem d_P_executeOperandG0_0 : decode b_P_executeOperandG0 0 = .ok (.iload_n 1, 1) := by decide +kernel
theorem d_P_executeOperandG0_1 : decode b_P_executeOperandG0 1 = .ok (.lookupswitch 100 #[(1, 35), (5, 76), (6, 88)], 35) := by decide +kernel
theorem d_P_executeOperandG0_36 : decode b_P_executeOperandG0 36 = .ok (.aload_n 0, 1) := by decide +kernel
theorem d_P_executeOperandG0_37 : decode b_P_executeOperandG0 37 = .ok (.aload_n 0, 1) := by decide +kernel
theorem d_P_executeOperandG0_38 : decode b_P_executeOperandG0 38 = .ok (.getfield 25, 3) := by decide +kernel
theorem d_P_executeOperandG0_41 : decode b_P_executeOperandG0 41 = .ok (.iload_n 2, 1) := by decide +kernel
theorem d_P_executeOperandG0_42 : decode b_P_executeOperandG0 42 = .ok (.iand, 1) := by decide +kernel
theorem d_P_executeOperandG0_43 : decode b_P_executeOperandG0 43 = .ok (.ifCond .ne 7, 3) := by decide +kernel
theorem d_P_executeOperandG0_46 : decode b_P_executeOperandG0 46 = .ok (.iconst 1, 1) := by decide +kernel
theorem d_P_executeOperandG0_47 : decode b_P_executeOperandG0 47 = .ok (.goto 4, 3) := by decide +kernel
theorem d_P_executeOperandG0_50 : decode b_P_executeOperandG0 50 = .ok (.iconst 0, 1) := by decide +kernel
theorem d_P_executeOperandG0_51 : decode b_P_executeOperandG0 51 = .ok (.putfield 48, 3) := by decide +kernel
theorem d_P_executeOperandG0_54 : decode b_P_executeOperandG0 54 = .ok (.aload_n 0, 1) := by decide +kernel
theorem d_P_executeOperandG0_55 : decode b_P_executeOperandG0 55 = .ok (.iload_n 2, 1) := by decide +kernel
theorem d_P_executeOperandG0_56 : decode b_P_executeOperandG0 56 = .ok (.bipush 7, 2) := by decide +kernel
theorem d_P_executeOperandG0_58 : decode b_P_executeOperandG0 58 = .ok (.ishr, 1) := by decide +kernel
theorem d_P_executeOperandG0_59 : decode b_P_executeOperandG0 59 = .ok (.iconst 1, 1) := by decide +kernel
theorem d_P_executeOperandG0_60 : decode b_P_executeOperandG0 60 = .ok (.iand, 1) := by decide +kernel
theorem d_P_executeOperandG0_61 : decode b_P_executeOperandG0 61 = .ok (.putfield 42, 3) := by decide +kernel
theorem d_P_executeOperandG0_64 : decode b_P_executeOperandG0 64 = .ok (.aload_n 0, 1) := by decide +kernel
theorem d_P_executeOperandG0_65 : decode b_P_executeOperandG0 65 = .ok (.iload_n 2, 1) := by decide +kernel
theorem d_P_executeOperandG0_66 : decode b_P_executeOperandG0 66 = .ok (.bipush 6, 2) := by decide +kernel
theorem d_P_executeOperandG0_68 : decode b_P_executeOperandG0 68 = .ok (.ishr, 1) := by decide +kernel
theorem d_P_executeOperandG0_69 : decode b_P_executeOperandG0 69 = .ok (.iconst 1, 1) := by decide +kernel
theorem d_P_executeOperandG0_70 : decode b_P_executeOperandG0 70 = .ok (.iand, 1) := by decide +kernel
theorem d_P_executeOperandG0_71 : decode b_P_executeOperandG0 71 = .ok (.putfield 45, 3) := by decide +kernel
theorem d_P_executeOperandG0_74 : decode b_P_executeOperandG0 74 = .ok (.goto 36, 3) := by decide +kernel
theorem d_P_executeOperandG0_77 : decode b_P_executeOperandG0 77 = .ok (.aload_n 0, 1) := by decide +kernel
theorem d_P_executeOperandG0_78 : decode b_P_executeOperandG0 78 = .ok (.aload_n 0, 1) := by decide +kernel
theorem d_P_executeOperandG0_79 : decode b_P_executeOperandG0 79 = .ok (.iload_n 2, 1) := by decide +kernel
theorem d_P_executeOperandG0_80 : decode b_P_executeOperandG0 80 = .ok (.invokevirtual 111, 3) := by decide +kernel
theorem d_P_executeOperandG0_83 : decode b_P_executeOperandG0 83 = .ok (.putfield 31, 3) := by decide +kernel
theorem d_P_executeOperandG0_86 : decode b_P_executeOperandG0 86 = .ok (.goto 24, 3) := by decide +kernel
theorem d_P_executeOperandG0_89 : decode b_P_executeOperandG0 89 = .ok (.aload_n 0, 1) := by decide +kernel
theorem d_P_executeOperandG0_90 : decode b_P_executeOperandG0 90 = .ok (.aload_n 0, 1) := by decide +kernel
theorem d_P_executeOperandG0_91 : decode b_P_executeOperandG0 91 = .ok (.getfield 31, 3) := by decide +kernel
theorem d_P_executeOperandG0_94 : decode b_P_executeOperandG0 94 = .ok (.iload_n 2, 1) := by decide +kernel
theorem d_P_executeOperandG0_95 : decode b_P_executeOperandG0 95 = .ok (.invokevirtual 117, 3) := by decide +kernel
theorem d_P_executeOperandG0_98 : decode b_P_executeOperandG0 98 = .ok (.goto 12, 3) := by decide +kernel
theorem d_P_executeOperandG0_101 : decode b_P_executeOperandG0 101 = .ok (.aload_n 0, 1) := by decide +kernel
theorem d_P_executeOperandG0_102 : decode b_P_executeOperandG0 102 = .ok (.aload_n 0, 1) := by decide +kernel
theorem d_P_executeOperandG0_103 : decode b_P_executeOperandG0 103 = .ok (.getfield 28, 3) := by decide +kernel
theorem d_P_executeOperandG0_106 : decode b_P_executeOperandG0 106 = .ok (.iload_n 2, 1) := by decide +kernel
theorem d_P_executeOperandG0_107 : decode b_P_executeOperandG0 107 = .ok (.invokevirtual 117, 3) := by decide +kernel
theorem d_P_executeOperandG0_110 : decode b_P_executeOperandG0 110 = .ok (.return_, 1) := by decide +kernel
theorem d_P_change_0 : decode b_P_change 0 = .ok (.aload_n 0, 1) := by decide +kernel
theorem d_P_change_1 : decode b_P_change 1 = .ok (.iload_n 2, 1) := by decide +kernel
theorem d_P_change_2 : decode b_P_change 2 = .ok (.invokevirtual 108, 3) := by decide +kernel
theorem d_P_change_5 : decode b_P_change 5 = .ok (.istore_n 3, 1) := by decide +kernel
theorem d_P_change_6 : decode b_P_change 6 = .ok (.aload_n 0, 1) := by decide +kernel
theorem d_P_change_7 : decode b_P_change 7 = .ok (.iload_n 1, 1) := by decide +kernel
theorem d_P_change_8 : decode b_P_change 8 = .ok (.iload_n 3, 1) := by decide +kernel
theorem d_P_change_9 : decode b_P_change 9 = .ok (.invokevirtual 127, 3) := by decide +kernel
theorem d_P_change_12 : decode b_P_change 12 = .ok (.istore 4, 2) := by decide +kernel
theorem d_P_change_14 : decode b_P_change 14 = .ok (.iload_n 2, 1) := by decide +kernel
theorem d_P_change_15 : decode b_P_change 15 = .ok (.bipush 9, 2) := by decide +kernel
theorem d_P_change_17 : decode b_P_change 17 = .ok (.if_icmp .ne 12, 3) := by decide +kernel
theorem d_P_change_20 : decode b_P_change 20 = .ok (.aload_n 0, 1) := by decide +kernel
theorem d_P_change_21 : decode b_P_change 21 = .ok (.iload 4, 2) := by decide +kernel
theorem d_P_change_23 : decode b_P_change 23 = .ok (.putfield 25, 3) := by decide +kernel
theorem d_P_change_26 : decode b_P_change 26 = .ok (.goto 26, 3) := by decide +kernel
theorem d_P_change_29 : decode b_P_change 29 = .ok (.aload_n 0, 1) := by decide +kernel
theorem d_P_change_30 : decode b_P_change 30 = .ok (.getfield 12, 3) := by decide +kernel
theorem d_P_change_33 : decode b_P_change 33 = .ok (.aload_n 0, 1) := by decide +kernel
theorem d_P_change_34 : decode b_P_change 34 = .ok (.getfield 96, 3) := by decide +kernel
theorem d_P_change_37 : decode b_P_change 37 = .ok (.iload 4, 2) := by decide +kernel
theorem d_P_change_39 : decode b_P_change 39 = .ok (.invokevirtual 105, 3) := by decide +kernel
theorem d_P_change_42 : decode b_P_change 42 = .ok (.istore 5, 2) := by decide +kernel
theorem d_P_change_44 : decode b_P_change 44 = .ok (.iload 5, 2) := by decide +kernel
theorem d_P_change_46 : decode b_P_change 46 = .ok (.ifCond .eq 6, 3) := by decide +kernel
theorem d_P_change_49 : decode b_P_change 49 = .ok (.iload 5, 2) := by decide +kernel
theorem d_P_change_51 : decode b_P_change 51 = .ok (.ireturn, 1) := by decide +kernel
theorem d_P_change_52 : decode b_P_change 52 = .ok (.iload_n 1, 1) := by decide +kernel
theorem d_P_change_53 : decode b_P_change 53 = .ok (.iconst 1, 1) := by decide +kernel
theorem d_P_change_54 : decode b_P_change 54 = .ok (.if_icmp .gt 14, 3) := by decide +kernel
theorem d_P_change_57 : decode b_P_change 57 = .ok (.aload_n 0, 1) := by decide +kernel
theorem d_P_change_58 : decode b_P_change 58 = .ok (.iload_n 3, 1) := by decide +kernel
theorem d_P_change_59 : decode b_P_change 59 = .ok (.bipush 7, 2) := by decide +kernel
theorem d_P_change_61 : decode b_P_change 61 = .ok (.ishr, 1) := by decide +kernel
theorem d_P_change_62 : decode b_P_change 62 = .ok (.putfield 51, 3) := by decide +kernel
theorem d_P_change_65 : decode b_P_change 65 = .ok (.goto 15, 3) := by decide +kernel
theorem d_P_change_68 : decode b_P_change 68 = .ok (.iload_n 1, 1) := by decide +kernel
theorem d_P_change_69 : decode b_P_change 69 = .ok (.iconst 3, 1) := by decide +kernel
theorem d_P_change_70 : decode b_P_change 70 = .ok (.if_icmp .gt 10, 3) := by decide +kernel
theorem d_P_change_73 : decode b_P_change 73 = .ok (.aload_n 0, 1) := by decide +kernel
theorem d_P_change_74 : decode b_P_change 74 = .ok (.iload_n 3, 1) := by decide +kernel
theorem d_P_change_75 : decode b_P_change 75 = .ok (.iconst 1, 1) := by decide +kernel
theorem d_P_change_76 : decode b_P_change 76 = .ok (.iand, 1) := by decide +kernel
theorem d_P_change_77 : decode b_P_change 77 = .ok (.putfield 51, 3) := by decide +kernel
theorem d_P_change_80 : decode b_P_change 80 = .ok (.aload_n 0, 1) := by decide +kernel
theorem d_P_change_81 : decode b_P_change 81 = .ok (.iload 4, 2) := by decide +kernel
theorem d_P_change_83 : decode b_P_change 83 = .ok (.invokevirtual 111, 3) := by decide +kernel
theorem d_P_change_86 : decode b_P_change 86 = .ok (.pop, 1) := by decide +kernel
theorem d_P_change_87 : decode b_P_change 87 = .ok (.iconst 0, 1) := by decide +kernel
theorem d_P_change_88 : decode b_P_change 88 = .ok (.ireturn, 1) := by decide +kernel
theorem d_P_executeFromX_0 : decode b_P_executeFromX 0 = .ok (.iload_n 1, 1) := by decide +kernel
theorem d_P_executeFromX_1 : decode b_P_executeFromX 1 = .ok (.bipush 9, 2) := by decide +kernel
theorem d_P_executeFromX_3 : decode b_P_executeFromX 3 = .ok (.if_icmp .ne 17, 3) := by decide +kernel
theorem d_P_executeFromX_6 : decode b_P_executeFromX 6 = .ok (.aload_n 0, 1) := by decide +kernel
theorem d_P_executeFromX_7 : decode b_P_executeFromX 7 = .ok (.aload_n 0, 1) := by decide +kernel
theorem d_P_executeFromX_8 : decode b_P_executeFromX 8 = .ok (.aload_n 0, 1) := by decide +kernel
theorem d_P_executeFromX_9 : decode b_P_executeFromX 9 = .ok (.getfield 28, 3) := by decide +kernel
theorem d_P_executeFromX_12 : decode b_P_executeFromX 12 = .ok (.invokevirtual 111, 3) := by decide +kernel
theorem d_P_executeFromX_15 : decode b_P_executeFromX 15 = .ok (.putfield 25, 3) := by decide +kernel
theorem d_P_executeFromX_18 : decode b_P_executeFromX 18 = .ok (.iconst 0, 1) := by decide +kernel
theorem d_P_executeFromX_19 : decode b_P_executeFromX 19 = .ok (.ireturn, 1) := by decide +kernel
theorem d_P_executeFromX_20 : decode b_P_executeFromX 20 = .ok (.iload_n 1, 1) := by decide +kernel
theorem d_P_executeFromX_21 : decode b_P_executeFromX 21 = .ok (.bipush 10, 2) := by decide +kernel
theorem d_P_executeFromX_23 : decode b_P_executeFromX 23 = .ok (.if_icmp .ne 13, 3) := by decide +kernel
theorem d_P_executeFromX_26 : decode b_P_executeFromX 26 = .ok (.aload_n 0, 1) := by decide +kernel
theorem d_P_executeFromX_27 : decode b_P_executeFromX 27 = .ok (.aload_n 0, 1) := by decide +kernel
theorem d_P_executeFromX_28 : decode b_P_executeFromX 28 = .ok (.getfield 28, 3) := by decide +kernel
theorem d_P_executeFromX_31 : decode b_P_executeFromX 31 = .ok (.putfield 18, 3) := by decide +kernel
theorem d_P_executeFromX_34 : decode b_P_executeFromX 34 = .ok (.iconst 0, 1) := by decide +kernel
theorem d_P_executeFromX_35 : decode b_P_executeFromX 35 = .ok (.ireturn, 1) := by decide +kernel
theorem d_P_executeFromX_36 : decode b_P_executeFromX 36 = .ok (.aload_n 0, 1) := by decide +kernel
theorem d_P_executeFromX_37 : decode b_P_executeFromX 37 = .ok (.getfield 12, 3) := by decide +kernel
theorem d_P_executeFromX_40 : decode b_P_executeFromX 40 = .ok (.aload_n 0, 1) := by decide +kernel
theorem d_P_executeFromX_41 : decode b_P_executeFromX 41 = .ok (.getfield 96, 3) := by decide +kernel
theorem d_P_executeFromX_44 : decode b_P_executeFromX 44 = .ok (.aload_n 0, 1) := by decide +kernel
theorem d_P_executeFromX_45 : decode b_P_executeFromX 45 = .ok (.getfield 28, 3) := by decide +kernel
theorem d_P_executeFromX_48 : decode b_P_executeFromX 48 = .ok (.invokevirtual 105, 3) := by decide +kernel
theorem d_P_executeFromX_51 : decode b_P_executeFromX 51 = .ok (.ireturn, 1) := by decide +kernel
theorem d_P_executeG1_0 : decode b_P_executeG1 0 = .ok (.iload_n 1, 1) := by decide +kernel
theorem d_P_executeG1_1 : decode b_P_executeG1 1 = .ok (.iconst 4, 1) := by decide +kernel
theorem d_P_executeG1_2 : decode b_P_executeG1 2 = .ok (.if_icmp .ne 19, 3) := by decide +kernel
theorem d_P_executeG1_5 : decode b_P_executeG1 5 = .ok (.aload_n 0, 1) := by decide +kernel
theorem d_P_executeG1_6 : decode b_P_executeG1 6 = .ok (.getfield 12, 3) := by decide +kernel
theorem d_P_executeG1_9 : decode b_P_executeG1 9 = .ok (.aload_n 0, 1) := by decide +kernel
theorem d_P_executeG1_10 : decode b_P_executeG1 10 = .ok (.getfield 96, 3) := by decide +kernel
theorem d_P_executeG1_13 : decode b_P_executeG1 13 = .ok (.aload_n 0, 1) := by decide +kernel
theorem d_P_executeG1_14 : decode b_P_executeG1 14 = .ok (.getfield 25, 3) := by decide +kernel
theorem d_P_executeG1_17 : decode b_P_executeG1 17 = .ok (.invokevirtual 105, 3) := by decide +kernel
theorem d_P_executeG1_20 : decode b_P_executeG1 20 = .ok (.ireturn, 1) := by decide +kernel
theorem d_P_executeG1_21 : decode b_P_executeG1 21 = .ok (.aload_n 0, 1) := by decide +kernel
theorem d_P_executeG1_22 : decode b_P_executeG1 22 = .ok (.iload_n 2, 1) := by decide +kernel
theorem d_P_executeG1_23 : decode b_P_executeG1 23 = .ok (.invokevirtual 108, 3) := by decide +kernel
theorem d_P_executeG1_26 : decode b_P_executeG1 26 = .ok (.istore_n 3, 1) := by decide +kernel
theorem d_P_executeG1_27 : decode b_P_executeG1 27 = .ok (.iload_n 1, 1) := by decide +kernel
theorem d_P_executeG1_28 : decode b_P_executeG1 28 = .ok (.tableswitch 127 0 6 #[44, 61, 78, 95, 127, 103, 115], 44) := by decide +kernel
theorem d_P_executeG1_72 : decode b_P_executeG1 72 = .ok (.aload_n 0, 1) := by decide +kernel
theorem d_P_executeG1_73 : decode b_P_executeG1 73 = .ok (.aload_n 0, 1) := by decide +kernel
theorem d_P_executeG1_74 : decode b_P_executeG1 74 = .ok (.aload_n 0, 1) := by decide +kernel
theorem d_P_executeG1_75 : decode b_P_executeG1 75 = .ok (.getfield 25, 3) := by decide +kernel
theorem d_P_executeG1_78 : decode b_P_executeG1 78 = .ok (.iload_n 3, 1) := by decide +kernel
theorem d_P_executeG1_79 : decode b_P_executeG1 79 = .ok (.ior, 1) := by decide +kernel
theorem d_P_executeG1_80 : decode b_P_executeG1 80 = .ok (.invokevirtual 111, 3) := by decide +kernel
theorem d_P_executeG1_83 : decode b_P_executeG1 83 = .ok (.putfield 25, 3) := by decide +kernel
theorem d_P_executeG1_86 : decode b_P_executeG1 86 = .ok (.goto 78, 3) := by decide +kernel
theorem d_P_executeG1_89 : decode b_P_executeG1 89 = .ok (.aload_n 0, 1) := by decide +kernel
theorem d_P_executeG1_90 : decode b_P_executeG1 90 = .ok (.aload_n 0, 1) := by decide +kernel
theorem d_P_executeG1_91 : decode b_P_executeG1 91 = .ok (.aload_n 0, 1) := by decide +kernel
theorem d_P_executeG1_92 : decode b_P_executeG1 92 = .ok (.getfield 25, 3) := by decide +kernel
theorem d_P_executeG1_95 : decode b_P_executeG1 95 = .ok (.iload_n 3, 1) := by decide +kernel
theorem d_P_executeG1_96 : decode b_P_executeG1 96 = .ok (.iand, 1) := by decide +kernel
theorem d_P_executeG1_97 : decode b_P_executeG1 97 = .ok (.invokevirtual 111, 3) := by decide +kernel
theorem d_P_executeG1_100 : decode b_P_executeG1 100 = .ok (.putfield 25, 3) := by decide +kernel
theorem d_P_executeG1_103 : decode b_P_executeG1 103 = .ok (.goto 61, 3) := by decide +kernel
theorem d_P_executeG1_106 : decode b_P_executeG1 106 = .ok (.aload_n 0, 1) := by decide +kernel
theorem d_P_executeG1_107 : decode b_P_executeG1 107 = .ok (.aload_n 0, 1) := by decide +kernel
theorem d_P_executeG1_108 : decode b_P_executeG1 108 = .ok (.aload_n 0, 1) := by decide +kernel
theorem d_P_executeG1_109 : decode b_P_executeG1 109 = .ok (.getfield 25, 3) := by decide +kernel
theorem d_P_executeG1_112 : decode b_P_executeG1 112 = .ok (.iload_n 3, 1) := by decide +kernel
theorem d_P_executeG1_113 : decode b_P_executeG1 113 = .ok (.ixor, 1) := by decide +kernel
theorem d_P_executeG1_114 : decode b_P_executeG1 114 = .ok (.invokevirtual 111, 3) := by decide +kernel
theorem d_P_executeG1_117 : decode b_P_executeG1 117 = .ok (.putfield 25, 3) := by decide +kernel
theorem d_P_executeG1_120 : decode b_P_executeG1 120 = .ok (.goto 44, 3) := by decide +kernel
theorem d_P_executeG1_123 : decode b_P_executeG1 123 = .ok (.aload_n 0, 1) := by decide +kernel
theorem d_P_executeG1_124 : decode b_P_executeG1 124 = .ok (.iload_n 3, 1) := by decide +kernel
theorem d_P_executeG1_125 : decode b_P_executeG1 125 = .ok (.invokevirtual 114, 3) := by decide +kernel
theorem d_P_executeG1_128 : decode b_P_executeG1 128 = .ok (.goto 36, 3) := by decide +kernel
theorem d_P_executeG1_131 : decode b_P_executeG1 131 = .ok (.aload_n 0, 1) := by decide +kernel
theorem d_P_executeG1_132 : decode b_P_executeG1 132 = .ok (.aload_n 0, 1) := by decide +kernel
theorem d_P_executeG1_133 : decode b_P_executeG1 133 = .ok (.iload_n 3, 1) := by decide +kernel
theorem d_P_executeG1_134 : decode b_P_executeG1 134 = .ok (.invokevirtual 111, 3) := by decide +kernel
theorem d_P_executeG1_137 : decode b_P_executeG1 137 = .ok (.putfield 25, 3) := by decide +kernel
theorem d_P_executeG1_140 : decode b_P_executeG1 140 = .ok (.goto 24, 3) := by decide +kernel
theorem d_P_executeG1_143 : decode b_P_executeG1 143 = .ok (.aload_n 0, 1) := by decide +kernel
theorem d_P_executeG1_144 : decode b_P_executeG1 144 = .ok (.aload_n 0, 1) := by decide +kernel
theorem d_P_executeG1_145 : decode b_P_executeG1 145 = .ok (.getfield 25, 3) := by decide +kernel
theorem d_P_executeG1_148 : decode b_P_executeG1 148 = .ok (.iload_n 3, 1) := by decide +kernel
theorem d_P_executeG1_149 : decode b_P_executeG1 149 = .ok (.invokevirtual 117, 3) := by decide +kernel
theorem d_P_executeG1_152 : decode b_P_executeG1 152 = .ok (.goto 12, 3) := by decide +kernel
theorem d_P_executeG1_155 : decode b_P_executeG1 155 = .ok (.aload_n 0, 1) := by decide +kernel
theorem d_P_executeG1_156 : decode b_P_executeG1 156 = .ok (.sipush 255, 3) := by decide +kernel
theorem d_P_executeG1_159 : decode b_P_executeG1 159 = .ok (.iload_n 3, 1) := by decide +kernel
theorem d_P_executeG1_160 : decode b_P_executeG1 160 = .ok (.isub, 1) := by decide +kernel
theorem d_P_executeG1_161 : decode b_P_executeG1 161 = .ok (.invokevirtual 114, 3) := by decide +kernel
theorem d_P_executeG1_164 : decode b_P_executeG1 164 = .ok (.iconst 0, 1) := by decide +kernel
theorem d_P_executeG1_165 : decode b_P_executeG1 165 = .ok (.ireturn, 1) := by decide +kernel
theorem d_P_executeG2_0 : decode b_P_executeG2 0 = .ok (.iload_n 1, 1) := by decide +kernel
theorem d_P_executeG2_1 : decode b_P_executeG2 1 = .ok (.iconst 4, 1) := by decide +kernel
theorem d_P_executeG2_2 : decode b_P_executeG2 2 = .ok (.if_icmp .ne 9, 3) := by decide +kernel
theorem d_P_executeG2_5 : decode b_P_executeG2 5 = .ok (.aload_n 0, 1) := by decide +kernel
theorem d_P_executeG2_6 : decode b_P_executeG2 6 = .ok (.iload_n 2, 1) := by decide +kernel
theorem d_P_executeG2_7 : decode b_P_executeG2 7 = .ok (.invokevirtual 121, 3) := by decide +kernel
theorem d_P_executeG2_10 : decode b_P_executeG2 10 = .ok (.ireturn, 1) := by decide +kernel
theorem d_P_executeG2_11 : decode b_P_executeG2 11 = .ok (.iload_n 1, 1) := by decide +kernel
theorem d_P_executeG2_12 : decode b_P_executeG2 12 = .ok (.iconst 5, 1) := by decide +kernel
theorem d_P_executeG2_13 : decode b_P_executeG2 13 = .ok (.if_icmp .ne 31, 3) := by decide +kernel
theorem d_P_executeG2_16 : decode b_P_executeG2 16 = .ok (.aload_n 0, 1) := by decide +kernel
theorem d_P_executeG2_17 : decode b_P_executeG2 17 = .ok (.aload_n 0, 1) := by decide +kernel
theorem d_P_executeG2_18 : decode b_P_executeG2 18 = .ok (.iload_n 2, 1) := by decide +kernel
theorem d_P_executeG2_19 : decode b_P_executeG2 19 = .ok (.bipush 10, 2) := by decide +kernel
theorem d_P_executeG2_21 : decode b_P_executeG2 21 = .ok (.if_icmp .ne 10, 3) := by decide +kernel
theorem d_P_executeG2_24 : decode b_P_executeG2 24 = .ok (.aload_n 0, 1) := by decide +kernel
theorem d_P_executeG2_25 : decode b_P_executeG2 25 = .ok (.getfield 18, 3) := by decide +kernel
theorem d_P_executeG2_28 : decode b_P_executeG2 28 = .ok (.goto 8, 3) := by decide +kernel
theorem d_P_executeG2_31 : decode b_P_executeG2 31 = .ok (.aload_n 0, 1) := by decide +kernel
theorem d_P_executeG2_32 : decode b_P_executeG2 32 = .ok (.iload_n 2, 1) := by decide +kernel
theorem d_P_executeG2_33 : decode b_P_executeG2 33 = .ok (.invokevirtual 108, 3) := by decide +kernel
theorem d_P_executeG2_36 : decode b_P_executeG2 36 = .ok (.invokevirtual 111, 3) := by decide +kernel
theorem d_P_executeG2_39 : decode b_P_executeG2 39 = .ok (.putfield 28, 3) := by decide +kernel
theorem d_P_executeG2_42 : decode b_P_executeG2 42 = .ok (.iconst 0, 1) := by decide +kernel
theorem d_P_executeG2_43 : decode b_P_executeG2 43 = .ok (.ireturn, 1) := by decide +kernel
theorem d_P_executeG2_44 : decode b_P_executeG2 44 = .ok (.iload_n 1, 1) := by decide +kernel
theorem d_P_executeG2_45 : decode b_P_executeG2 45 = .ok (.bipush 6, 2) := by decide +kernel
theorem d_P_executeG2_47 : decode b_P_executeG2 47 = .ok (.if_icmp .ne 29, 3) := by decide +kernel
theorem d_P_executeG2_50 : decode b_P_executeG2 50 = .ok (.iload_n 2, 1) := by decide +kernel
theorem d_P_executeG2_51 : decode b_P_executeG2 51 = .ok (.bipush 9, 2) := by decide +kernel
theorem d_P_executeG2_53 : decode b_P_executeG2 53 = .ok (.if_icmp .ne 23, 3) := by decide +kernel
theorem d_P_executeG2_56 : decode b_P_executeG2 56 = .ok (.aload_n 0, 1) := by decide +kernel
theorem d_P_executeG2_57 : decode b_P_executeG2 57 = .ok (.aload_n 0, 1) := by decide +kernel
theorem d_P_executeG2_58 : decode b_P_executeG2 58 = .ok (.aload_n 0, 1) := by decide +kernel
theorem d_P_executeG2_59 : decode b_P_executeG2 59 = .ok (.getfield 28, 3) := by decide +kernel
theorem d_P_executeG2_62 : decode b_P_executeG2 62 = .ok (.iconst 1, 1) := by decide +kernel
theorem d_P_executeG2_63 : decode b_P_executeG2 63 = .ok (.isub, 1) := by decide +kernel
theorem d_P_executeG2_64 : decode b_P_executeG2 64 = .ok (.sipush 255, 3) := by decide +kernel
theorem d_P_executeG2_67 : decode b_P_executeG2 67 = .ok (.iand, 1) := by decide +kernel
theorem d_P_executeG2_68 : decode b_P_executeG2 68 = .ok (.invokevirtual 111, 3) := by decide +kernel
theorem d_P_executeG2_71 : decode b_P_executeG2 71 = .ok (.putfield 28, 3) := by decide +kernel
theorem d_P_executeG2_74 : decode b_P_executeG2 74 = .ok (.iconst 0, 1) := by decide +kernel
theorem d_P_executeG2_75 : decode b_P_executeG2 75 = .ok (.ireturn, 1) := by decide +kernel
theorem d_P_executeG2_76 : decode b_P_executeG2 76 = .ok (.iload_n 1, 1) := by decide +kernel
theorem d_P_executeG2_77 : decode b_P_executeG2 77 = .ok (.bipush 7, 2) := by decide +kernel
theorem d_P_executeG2_79 : decode b_P_executeG2 79 = .ok (.if_icmp .ne 11, 3) := by decide +kernel
theorem d_P_executeG2_82 : decode b_P_executeG2 82 = .ok (.iload_n 2, 1) := by decide +kernel
theorem d_P_executeG2_83 : decode b_P_executeG2 83 = .ok (.bipush 9, 2) := by decide +kernel
theorem d_P_executeG2_85 : decode b_P_executeG2 85 = .ok (.if_icmp .ne 5, 3) := by decide +kernel
theorem d_P_executeG2_88 : decode b_P_executeG2 88 = .ok (.iconst 0, 1) := by decide +kernel
theorem d_P_executeG2_89 : decode b_P_executeG2 89 = .ok (.ireturn, 1) := by decide +kernel
theorem d_P_executeG2_90 : decode b_P_executeG2 90 = .ok (.aload_n 0, 1) := by decide +kernel
theorem d_P_executeG2_91 : decode b_P_executeG2 91 = .ok (.iload_n 1, 1) := by decide +kernel
theorem d_P_executeG2_92 : decode b_P_executeG2 92 = .ok (.iload_n 2, 1) := by decide +kernel
theorem d_P_executeG2_93 : decode b_P_executeG2 93 = .ok (.invokevirtual 124, 3) := by decide +kernel
theorem d_P_executeG2_96 : decode b_P_executeG2 96 = .ok (.ireturn, 1) := by decide +kernel
theorem d_P_executeG0_0 : decode b_P_executeG0 0 = .ok (.iload_n 1, 1) := by decide +kernel
theorem d_P_executeG0_1 : decode b_P_executeG0 1 = .ok (.bipush 32, 2) := by decide +kernel
theorem d_P_executeG0_3 : decode b_P_executeG0 3 = .ok (.idiv, 1) := by decide +kernel
theorem d_P_executeG0_4 : decode b_P_executeG0 4 = .ok (.istore_n 3, 1) := by decide +kernel
theorem d_P_executeG0_5 : decode b_P_executeG0 5 = .ok (.iload_n 2, 1) := by decide +kernel
theorem d_P_executeG0_6 : decode b_P_executeG0 6 = .ok (.bipush 10, 2) := by decide +kernel
theorem d_P_executeG0_8 : decode b_P_executeG0 8 = .ok (.if_icmp .ne 10, 3) := by decide +kernel
theorem d_P_executeG0_11 : decode b_P_executeG0 11 = .ok (.aload_n 0, 1) := by decide +kernel
theorem d_P_executeG0_12 : decode b_P_executeG0 12 = .ok (.iload_n 1, 1) := by decide +kernel
theorem d_P_executeG0_13 : decode b_P_executeG0 13 = .ok (.invokevirtual 130, 3) := by decide +kernel
theorem d_P_executeG0_16 : decode b_P_executeG0 16 = .ok (.iconst 0, 1) := by decide +kernel
theorem d_P_executeG0_17 : decode b_P_executeG0 17 = .ok (.ireturn, 1) := by decide +kernel
theorem d_P_executeG0_18 : decode b_P_executeG0 18 = .ok (.iload_n 1, 1) := by decide +kernel
theorem d_P_executeG0_19 : decode b_P_executeG0 19 = .ok (.iconst 4, 1) := by decide +kernel
theorem d_P_executeG0_20 : decode b_P_executeG0 20 = .ok (.idiv, 1) := by decide +kernel
theorem d_P_executeG0_21 : decode b_P_executeG0 21 = .ok (.bipush 8, 2) := by decide +kernel
theorem d_P_executeG0_23 : decode b_P_executeG0 23 = .ok (.irem, 1) := by decide +kernel
theorem d_P_executeG0_24 : decode b_P_executeG0 24 = .ok (.iconst 4, 1) := by decide +kernel
theorem d_P_executeG0_25 : decode b_P_executeG0 25 = .ok (.if_icmp .ne 10, 3) := by decide +kernel
theorem d_P_executeG0_28 : decode b_P_executeG0 28 = .ok (.aload_n 0, 1) := by decide +kernel
theorem d_P_executeG0_29 : decode b_P_executeG0 29 = .ok (.iload_n 3, 1) := by decide +kernel
theorem d_P_executeG0_30 : decode b_P_executeG0 30 = .ok (.invokevirtual 133, 3) := by decide +kernel
theorem d_P_executeG0_33 : decode b_P_executeG0 33 = .ok (.iconst 0, 1) := by decide +kernel
theorem d_P_executeG0_34 : decode b_P_executeG0 34 = .ok (.ireturn, 1) := by decide +kernel
theorem d_P_executeG0_35 : decode b_P_executeG0 35 = .ok (.iload_n 1, 1) := by decide +kernel
theorem d_P_executeG0_36 : decode b_P_executeG0 36 = .ok (.bipush 32, 2) := by decide +kernel
theorem d_P_executeG0_38 : decode b_P_executeG0 38 = .ok (.if_icmp .eq 15, 3) := by decide +kernel
theorem d_P_executeG0_41 : decode b_P_executeG0 41 = .ok (.iload_n 1, 1) := by decide +kernel
theorem d_P_executeG0_42 : decode b_P_executeG0 42 = .ok (.bipush 76, 2) := by decide +kernel
theorem d_P_executeG0_44 : decode b_P_executeG0 44 = .ok (.if_icmp .eq 9, 3) := by decide +kernel
theorem d_P_executeG0_47 : decode b_P_executeG0 47 = .ok (.iload_n 1, 1) := by decide +kernel
theorem d_P_executeG0_48 : decode b_P_executeG0 48 = .ok (.bipush 108, 2) := by decide +kernel
theorem d_P_executeG0_50 : decode b_P_executeG0 50 = .ok (.if_icmp .ne 10, 3) := by decide +kernel
theorem d_P_executeG0_53 : decode b_P_executeG0 53 = .ok (.aload_n 0, 1) := by decide +kernel
theorem d_P_executeG0_54 : decode b_P_executeG0 54 = .ok (.iload_n 1, 1) := by decide +kernel
theorem d_P_executeG0_55 : decode b_P_executeG0 55 = .ok (.invokevirtual 136, 3) := by decide +kernel
theorem d_P_executeG0_58 : decode b_P_executeG0 58 = .ok (.iconst 0, 1) := by decide +kernel
theorem d_P_executeG0_59 : decode b_P_executeG0 59 = .ok (.ireturn, 1) := by decide +kernel
theorem d_P_executeG0_60 : decode b_P_executeG0 60 = .ok (.iload_n 3, 1) := by decide +kernel
theorem d_P_executeG0_61 : decode b_P_executeG0 61 = .ok (.iconst 4, 1) := by decide +kernel
theorem d_P_executeG0_62 : decode b_P_executeG0 62 = .ok (.if_icmp .ne 19, 3) := by decide +kernel
theorem d_P_executeG0_65 : decode b_P_executeG0 65 = .ok (.aload_n 0, 1) := by decide +kernel
theorem d_P_executeG0_66 : decode b_P_executeG0 66 = .ok (.getfield 12, 3) := by decide +kernel
theorem d_P_executeG0_69 : decode b_P_executeG0 69 = .ok (.aload_n 0, 1) := by decide +kernel
theorem d_P_executeG0_70 : decode b_P_executeG0 70 = .ok (.getfield 96, 3) := by decide +kernel
theorem d_P_executeG0_73 : decode b_P_executeG0 73 = .ok (.aload_n 0, 1) := by decide +kernel
theorem d_P_executeG0_74 : decode b_P_executeG0 74 = .ok (.getfield 31, 3) := by decide +kernel
theorem d_P_executeG0_77 : decode b_P_executeG0 77 = .ok (.invokevirtual 105, 3) := by decide +kernel
theorem d_P_executeG0_80 : decode b_P_executeG0 80 = .ok (.ireturn, 1) := by decide +kernel
theorem d_P_executeG0_81 : decode b_P_executeG0 81 = .ok (.aload_n 0, 1) := by decide +kernel
theorem d_P_executeG0_82 : decode b_P_executeG0 82 = .ok (.iload_n 3, 1) := by decide +kernel
theorem d_P_executeG0_83 : decode b_P_executeG0 83 = .ok (.aload_n 0, 1) := by decide +kernel
theorem d_P_executeG0_84 : decode b_P_executeG0 84 = .ok (.iload_n 2, 1) := by decide +kernel
theorem d_P_executeG0_85 : decode b_P_executeG0 85 = .ok (.invokevirtual 108, 3) := by decide +kernel
theorem d_P_executeG0_88 : decode b_P_executeG0 88 = .ok (.invokevirtual 139, 3) := by decide +kernel
theorem d_P_executeG0_91 : decode b_P_executeG0 91 = .ok (.iconst 0, 1) := by decide +kernel
theorem d_P_executeG0_92 : decode b_P_executeG0 92 = .ok (.ireturn, 1) := by decide +kernel
theorem d_P_step_0 : decode b_P_step 0 = .ok (.aload_n 0, 1) := by decide +kernel
theorem d_P_step_1 : decode b_P_step 1 = .ok (.getfield 12, 3) := by decide +kernel
theorem d_P_step_4 : decode b_P_step 4 = .ok (.aload_n 0, 1) := by decide +kernel
theorem d_P_step_5 : decode b_P_step 5 = .ok (.getfield 22, 3) := by decide +kernel
theorem d_P_step_8 : decode b_P_step 8 = .ok (.invokevirtual 54, 3) := by decide +kernel
theorem d_P_step_11 : decode b_P_step 11 = .ok (.istore_n 1, 1) := by decide +kernel
theorem d_P_step_12 : decode b_P_step 12 = .ok (.iload_n 1, 1) := by decide +kernel
theorem d_P_step_13 : decode b_P_step 13 = .ok (.ifCond .ne 5, 3) := by decide +kernel
theorem d_P_step_16 : decode b_P_step 16 = .ok (.iconst 1, 1) := by decide +kernel
theorem d_P_step_17 : decode b_P_step 17 = .ok (.ireturn, 1) := by decide +kernel
theorem d_P_step_18 : decode b_P_step 18 = .ok (.iload_n 1, 1) := by decide +kernel
theorem d_P_step_19 : decode b_P_step 19 = .ok (.invokestatic 58, 3) := by decide +kernel
theorem d_P_step_22 : decode b_P_step 22 = .ok (.istore_n 2, 1) := by decide +kernel
theorem d_P_step_23 : decode b_P_step 23 = .ok (.iload_n 2, 1) := by decide +kernel
theorem d_P_step_24 : decode b_P_step 24 = .ok (.bipush 11, 2) := by decide +kernel
theorem d_P_step_26 : decode b_P_step 26 = .ok (.if_icmp .ne 5, 3) := by decide +kernel
theorem d_P_step_29 : decode b_P_step 29 = .ok (.iconst 4, 1) := by decide +kernel
theorem d_P_step_30 : decode b_P_step 30 = .ok (.ireturn, 1) := by decide +kernel
theorem d_P_step_31 : decode b_P_step 31 = .ok (.aload_n 0, 1) := by decide +kernel
theorem d_P_step_32 : decode b_P_step 32 = .ok (.iload_n 2, 1) := by decide +kernel
theorem d_P_step_33 : decode b_P_step 33 = .ok (.invokevirtual 61, 3) := by decide +kernel
theorem d_P_step_36 : decode b_P_step 36 = .ok (.iload_n 1, 1) := by decide +kernel
theorem d_P_step_37 : decode b_P_step 37 = .ok (.iconst 4, 1) := by decide +kernel
theorem d_P_step_38 : decode b_P_step 38 = .ok (.irem, 1) := by decide +kernel
theorem d_P_step_39 : decode b_P_step 39 = .ok (.lookupswitch 51 #[(1, 25), (2, 38)], 25) := by decide +kernel
theorem d_P_step_64 : decode b_P_step 64 = .ok (.aload_n 0, 1) := by decide +kernel
theorem d_P_step_65 : decode b_P_step 65 = .ok (.iload_n 1, 1) := by decide +kernel
theorem d_P_step_66 : decode b_P_step 66 = .ok (.bipush 32, 2) := by decide +kernel
theorem d_P_step_68 : decode b_P_step 68 = .ok (.idiv, 1) := by decide +kernel
theorem d_P_step_69 : decode b_P_step 69 = .ok (.iload_n 2, 1) := by decide +kernel
theorem d_P_step_70 : decode b_P_step 70 = .ok (.invokevirtual 64, 3) := by decide +kernel
theorem d_P_step_73 : decode b_P_step 73 = .ok (.istore_n 3, 1) := by decide +kernel
theorem d_P_step_74 : decode b_P_step 74 = .ok (.goto 23, 3) := by decide +kernel
theorem d_P_step_77 : decode b_P_step 77 = .ok (.aload_n 0, 1) := by decide +kernel
theorem d_P_step_78 : decode b_P_step 78 = .ok (.iload_n 1, 1) := by decide +kernel
theorem d_P_step_79 : decode b_P_step 79 = .ok (.bipush 32, 2) := by decide +kernel
theorem d_P_step_81 : decode b_P_step 81 = .ok (.idiv, 1) := by decide +kernel
theorem d_P_step_82 : decode b_P_step 82 = .ok (.iload_n 2, 1) := by decide +kernel
theorem d_P_step_83 : decode b_P_step 83 = .ok (.invokevirtual 68, 3) := by decide +kernel
theorem d_P_step_86 : decode b_P_step 86 = .ok (.istore_n 3, 1) := by decide +kernel
theorem d_P_step_87 : decode b_P_step 87 = .ok (.goto 10, 3) := by decide +kernel
theorem d_P_step_90 : decode b_P_step 90 = .ok (.aload_n 0, 1) := by decide +kernel
theorem d_P_step_91 : decode b_P_step 91 = .ok (.iload_n 1, 1) := by decide +kernel
theorem d_P_step_92 : decode b_P_step 92 = .ok (.iload_n 2, 1) := by decide +kernel
theorem d_P_step_93 : decode b_P_step 93 = .ok (.invokevirtual 71, 3) := by decide +kernel
theorem d_P_step_96 : decode b_P_step 96 = .ok (.istore_n 3, 1) := by decide +kernel
theorem d_P_step_97 : decode b_P_step 97 = .ok (.iload_n 3, 1) := by decide +kernel
theorem d_P_step_98 : decode b_P_step 98 = .ok (.ifCond .ne 11, 3) := by decide +kernel
theorem d_P_step_101 : decode b_P_step 101 = .ok (.aload_n 0, 1) := by decide +kernel
theorem d_P_step_102 : decode b_P_step 102 = .ok (.aload_n 0, 1) := by decide +kernel
theorem d_P_step_103 : decode b_P_step 103 = .ok (.getfield 74, 3) := by decide +kernel
theorem d_P_step_106 : decode b_P_step 106 = .ok (.putfield 22, 3) := by decide +kernel
theorem d_P_step_109 : decode b_P_step 109 = .ok (.iload_n 3, 1) := by decide +kernel
theorem d_P_step_110 : decode b_P_step 110 = .ok (.ireturn, 1) := by decide +kernel
theorem d_S_demand_0 : decode b_S_demand 0 = .ok (.iload_n 0, 1) := by decide +kernel
theorem d_S_demand_1 : decode b_S_demand 1 = .ok (.ifCond .ne 13, 3) := by decide +kernel
theorem d_S_demand_4 : decode b_S_demand 4 = .ok (.new 89, 3) := by decide +kernel
theorem d_S_demand_7 : decode b_S_demand 7 = .ok (.dup, 1) := by decide +kernel
theorem d_S_demand_8 : decode b_S_demand 8 = .ok (.ldc 91, 2) := by decide +kernel
theorem d_S_demand_10 : decode b_S_demand 10 = .ok (.invokespecial 93, 3) := by decide +kernel
theorem d_S_demand_13 : decode b_S_demand 13 = .ok (.athrow, 1) := by decide +kernel
theorem d_S_demand_14 : decode b_S_demand 14 = .ok (.return_, 1) := by decide +kernel
theorem d_S_raise_0 : decode b_S_raise 0 = .ok (.iload_n 0, 1) := by decide +kernel
theorem d_S_raise_1 : decode b_S_raise 1 = .ok (.tableswitch 57 1 3 #[27, 37, 47], 27) := by decide +kernel
theorem d_S_raise_28 : decode b_S_raise 28 = .ok (.new 64, 3) := by decide +kernel
theorem d_S_raise_31 : decode b_S_raise 31 = .ok (.dup, 1) := by decide +kernel
theorem d_S_raise_32 : decode b_S_raise 32 = .ok (.ldc 94, 2) := by decide +kernel
theorem d_S_raise_34 : decode b_S_raise 34 = .ok (.invokespecial 68, 3) := by decide +kernel
theorem d_S_raise_37 : decode b_S_raise 37 = .ok (.athrow, 1) := by decide +kernel
theorem d_S_raise_38 : decode b_S_raise 38 = .ok (.new 96, 3) := by decide +kernel
theorem d_S_raise_41 : decode b_S_raise 41 = .ok (.dup, 1) := by decide +kernel
theorem d_S_raise_42 : decode b_S_raise 42 = .ok (.ldc 98, 2) := by decide +kernel
theorem d_S_raise_44 : decode b_S_raise 44 = .ok (.invokespecial 100, 3) := by decide +kernel
theorem d_S_raise_47 : decode b_S_raise 47 = .ok (.athrow, 1) := by decide +kernel
theorem d_S_raise_48 : decode b_S_raise 48 = .ok (.new 101, 3) := by decide +kernel
theorem d_S_raise_51 : decode b_S_raise 51 = .ok (.dup, 1) := by decide +kernel
theorem d_S_raise_52 : decode b_S_raise 52 = .ok (.ldc 103, 2) := by decide +kernel
theorem d_S_raise_54 : decode b_S_raise 54 = .ok (.invokespecial 105, 3) := by decide +kernel
theorem d_S_raise_57 : decode b_S_raise 57 = .ok (.athrow, 1) := by decide +kernel
theorem d_S_raise_58 : decode b_S_raise 58 = .ok (.new 106, 3) := by decide +kernel
theorem d_S_raise_61 : decode b_S_raise 61 = .ok (.dup, 1) := by decide +kernel
theorem d_S_raise_62 : decode b_S_raise 62 = .ok (.ldc 108, 2) := by decide +kernel
theorem d_S_raise_64 : decode b_S_raise 64 = .ok (.invokespecial 110, 3) := by decide +kernel
theorem d_S_raise_67 : decode b_S_raise 67 = .ok (.athrow, 1) := by decide +kernel
theorem d_S_put_0 : decode b_S_put 0 = .ok (.iload_n 1, 1) := by decide +kernel
theorem d_S_put_1 : decode b_S_put 1 = .ok (.iconst 5, 1) := by decide +kernel
theorem d_S_put_2 : decode b_S_put 2 = .ok (.invokestatic 46, 3) := by decide +kernel
theorem d_S_put_5 : decode b_S_put 5 = .ok (.invokestatic 32, 3) := by decide +kernel
theorem d_S_put_8 : decode b_S_put 8 = .ok (.iload_n 2, 1) := by decide +kernel
theorem d_S_put_9 : decode b_S_put 9 = .ok (.iload_n 1, 1) := by decide +kernel
theorem d_S_put_10 : decode b_S_put 10 = .ok (.iconst 4, 1) := by decide +kernel
theorem d_S_put_11 : decode b_S_put 11 = .ok (.if_icmp .ne 9, 3) := by decide +kernel
theorem d_S_put_14 : decode b_S_put 14 = .ok (.sipush 1023, 3) := by decide +kernel
theorem d_S_put_17 : decode b_S_put 17 = .ok (.goto 6, 3) := by decide +kernel
theorem d_S_put_20 : decode b_S_put 20 = .ok (.sipush 255, 3) := by decide +kernel
theorem d_S_put_23 : decode b_S_put 23 = .ok (.invokestatic 46, 3) := by decide +kernel
theorem d_S_put_26 : decode b_S_put 26 = .ok (.invokestatic 32, 3) := by decide +kernel
theorem d_S_put_29 : decode b_S_put 29 = .ok (.aload_n 0, 1) := by decide +kernel
theorem d_S_put_30 : decode b_S_put 30 = .ok (.getfield 10, 3) := by decide +kernel
theorem d_S_put_33 : decode b_S_put 33 = .ok (.iload_n 1, 1) := by decide +kernel
theorem d_S_put_34 : decode b_S_put 34 = .ok (.invokevirtual 53, 3) := by decide +kernel
theorem d_S_put_37 : decode b_S_put 37 = .ok (.istore_n 3, 1) := by decide +kernel
theorem d_S_put_38 : decode b_S_put 38 = .ok (.aload_n 0, 1) := by decide +kernel
theorem d_S_put_39 : decode b_S_put 39 = .ok (.getfield 10, 3) := by decide +kernel
theorem d_S_put_42 : decode b_S_put 42 = .ok (.iload_n 1, 1) := by decide +kernel
theorem d_S_put_43 : decode b_S_put 43 = .ok (.iload_n 2, 1) := by decide +kernel
theorem d_S_put_44 : decode b_S_put 44 = .ok (.invokevirtual 57, 3) := by decide +kernel
theorem d_S_put_47 : decode b_S_put 47 = .ok (.iload_n 3, 1) := by decide +kernel
theorem d_S_put_48 : decode b_S_put 48 = .ok (.ireturn, 1) := by decide +kernel
theorem d_S_press_0 : decode b_S_press 0 = .ok (.iload_n 1, 1) := by decide +kernel
theorem d_S_press_1 : decode b_S_press 1 = .ok (.bipush 127, 2) := by decide +kernel
theorem d_S_press_3 : decode b_S_press 3 = .ok (.invokestatic 46, 3) := by decide +kernel
theorem d_S_press_6 : decode b_S_press 6 = .ok (.invokestatic 32, 3) := by decide +kernel
theorem d_S_press_9 : decode b_S_press 9 = .ok (.aload_n 0, 1) := by decide +kernel
theorem d_S_press_10 : decode b_S_press 10 = .ok (.getfield 20, 3) := by decide +kernel
theorem d_S_press_13 : decode b_S_press 13 = .ok (.getfield 61, 3) := by decide +kernel
theorem d_S_press_16 : decode b_S_press 16 = .ok (.ifCond .eq 13, 3) := by decide +kernel
theorem d_S_press_19 : decode b_S_press 19 = .ok (.new 64, 3) := by decide +kernel
theorem d_S_press_22 : decode b_S_press 22 = .ok (.dup, 1) := by decide +kernel
theorem d_S_press_23 : decode b_S_press 23 = .ok (.ldc 66, 2) := by decide +kernel
theorem d_S_press_25 : decode b_S_press 25 = .ok (.invokespecial 68, 3) := by decide +kernel
theorem d_S_press_28 : decode b_S_press 28 = .ok (.athrow, 1) := by decide +kernel
theorem d_S_press_29 : decode b_S_press 29 = .ok (.aload_n 0, 1) := by decide +kernel
theorem d_S_press_30 : decode b_S_press 30 = .ok (.getfield 20, 3) := by decide +kernel
theorem d_S_press_33 : decode b_S_press 33 = .ok (.sipush 128, 3) := by decide +kernel
theorem d_S_press_36 : decode b_S_press 36 = .ok (.iload_n 1, 1) := by decide +kernel
theorem d_S_press_37 : decode b_S_press 37 = .ok (.iadd, 1) := by decide +kernel
theorem d_S_press_38 : decode b_S_press 38 = .ok (.putfield 61, 3) := by decide +kernel
theorem d_S_press_41 : decode b_S_press 41 = .ok (.aload_n 0, 1) := by decide +kernel
theorem d_S_press_42 : decode b_S_press 42 = .ok (.getfield 20, 3) := by decide +kernel
theorem d_S_press_45 : decode b_S_press 45 = .ok (.getfield 61, 3) := by decide +kernel
theorem d_S_press_48 : decode b_S_press 48 = .ok (.ireturn, 1) := by decide +kernel
theorem d_S_protect_0 : decode b_S_protect 0 = .ok (.aload_n 0, 1) := by decide +kernel
theorem d_S_protect_1 : decode b_S_protect 1 = .ok (.getfield 20, 3) := by decide +kernel
theorem d_S_protect_4 : decode b_S_protect 4 = .ok (.getfield 71, 3) := by decide +kernel
theorem d_S_protect_7 : decode b_S_protect 7 = .ok (.istore_n 2, 1) := by decide +kernel
theorem d_S_protect_8 : decode b_S_protect 8 = .ok (.aload_n 0, 1) := by decide +kernel
theorem d_S_protect_9 : decode b_S_protect 9 = .ok (.getfield 20, 3) := by decide +kernel
theorem d_S_protect_12 : decode b_S_protect 12 = .ok (.iload_n 1, 1) := by decide +kernel
theorem d_S_protect_13 : decode b_S_protect 13 = .ok (.putfield 71, 3) := by decide +kernel
theorem d_S_protect_16 : decode b_S_protect 16 = .ok (.iload_n 2, 1) := by decide +kernel
theorem d_S_protect_17 : decode b_S_protect 17 = .ok (.ireturn, 1) := by decide +kernel
theorem d_S_peek_0 : decode b_S_peek 0 = .ok (.iload_n 1, 1) := by decide +kernel
theorem d_S_peek_1 : decode b_S_peek 1 = .ok (.sipush 1007, 3) := by decide +kernel
theorem d_S_peek_4 : decode b_S_peek 4 = .ok (.invokestatic 46, 3) := by decide +kernel
theorem d_S_peek_7 : decode b_S_peek 7 = .ok (.invokestatic 32, 3) := by decide +kernel
theorem d_S_peek_10 : decode b_S_peek 10 = .ok (.aload_n 0, 1) := by decide +kernel
theorem d_S_peek_11 : decode b_S_peek 11 = .ok (.getfield 20, 3) := by decide +kernel
theorem d_S_peek_14 : decode b_S_peek 14 = .ok (.getfield 36, 3) := by decide +kernel
theorem d_S_peek_17 : decode b_S_peek 17 = .ok (.iload_n 1, 1) := by decide +kernel
theorem d_S_peek_18 : decode b_S_peek 18 = .ok (.iaload, 1) := by decide +kernel
theorem d_S_peek_19 : decode b_S_peek 19 = .ok (.ireturn, 1) := by decide +kernel
theorem d_S_get_0 : decode b_S_get 0 = .ok (.iload_n 1, 1) := by decide +kernel
theorem d_S_get_1 : decode b_S_get 1 = .ok (.bipush 9, 2) := by decide +kernel
theorem d_S_get_3 : decode b_S_get 3 = .ok (.invokestatic 46, 3) := by decide +kernel
theorem d_S_get_6 : decode b_S_get 6 = .ok (.invokestatic 32, 3) := by decide +kernel
theorem d_S_get_9 : decode b_S_get 9 = .ok (.iload_n 1, 1) := by decide +kernel
theorem d_S_get_10 : decode b_S_get 10 = .ok (.tableswitch 56 6 9 #[30, 35, 43, 51], 30) := by decide +kernel
theorem d_S_get_40 : decode b_S_get 40 = .ok (.aload_n 0, 1) := by decide +kernel
theorem d_S_get_41 : decode b_S_get 41 = .ok (.getfield 21, 3) := by decide +kernel
theorem d_S_get_44 : decode b_S_get 44 = .ok (.ireturn, 1) := by decide +kernel
theorem d_S_get_45 : decode b_S_get 45 = .ok (.aload_n 0, 1) := by decide +kernel
theorem d_S_get_46 : decode b_S_get 46 = .ok (.getfield 20, 3) := by decide +kernel
theorem d_S_get_49 : decode b_S_get 49 = .ok (.getfield 61, 3) := by decide +kernel
theorem d_S_get_52 : decode b_S_get 52 = .ok (.ireturn, 1) := by decide +kernel
theorem d_S_get_53 : decode b_S_get 53 = .ok (.aload_n 0, 1) := by decide +kernel
theorem d_S_get_54 : decode b_S_get 54 = .ok (.getfield 20, 3) := by decide +kernel
theorem d_S_get_57 : decode b_S_get 57 = .ok (.getfield 86, 3) := by decide +kernel
theorem d_S_get_60 : decode b_S_get 60 = .ok (.ireturn, 1) := by decide +kernel
theorem d_S_get_61 : decode b_S_get 61 = .ok (.aload_n 0, 1) := by decide +kernel
theorem d_S_get_62 : decode b_S_get 62 = .ok (.getfield 25, 3) := by decide +kernel
theorem d_S_get_65 : decode b_S_get 65 = .ok (.ireturn, 1) := by decide +kernel
theorem d_S_get_66 : decode b_S_get 66 = .ok (.aload_n 0, 1) := by decide +kernel
theorem d_S_get_67 : decode b_S_get 67 = .ok (.getfield 10, 3) := by decide +kernel
theorem d_S_get_70 : decode b_S_get 70 = .ok (.iload_n 1, 1) := by decide +kernel
theorem d_S_get_71 : decode b_S_get 71 = .ok (.invokevirtual 53, 3) := by decide +kernel
theorem d_S_get_74 : decode b_S_get 74 = .ok (.ireturn, 1) := by decide +kernel
theorem d_S_sector_0 : decode b_S_sector 0 = .ok (.iload_n 1, 1) := by decide +kernel
theorem d_S_sector_1 : decode b_S_sector 1 = .ok (.bipush 7, 2) := by decide +kernel
theorem d_S_sector_3 : decode b_S_sector 3 = .ok (.invokestatic 46, 3) := by decide +kernel
theorem d_S_sector_6 : decode b_S_sector 6 = .ok (.ifCond .eq 16, 3) := by decide +kernel
theorem d_S_sector_9 : decode b_S_sector 9 = .ok (.iload_n 2, 1) := by decide +kernel
theorem d_S_sector_10 : decode b_S_sector 10 = .ok (.bipush 31, 2) := by decide +kernel
theorem d_S_sector_12 : decode b_S_sector 12 = .ok (.invokestatic 46, 3) := by decide +kernel
theorem d_S_sector_15 : decode b_S_sector 15 = .ok (.ifCond .eq 7, 3) := by decide +kernel
theorem d_S_sector_18 : decode b_S_sector 18 = .ok (.iconst 1, 1) := by decide +kernel
theorem d_S_sector_19 : decode b_S_sector 19 = .ok (.goto 4, 3) := by decide +kernel
theorem d_S_sector_22 : decode b_S_sector 22 = .ok (.iconst 0, 1) := by decide +kernel
theorem d_S_sector_23 : decode b_S_sector 23 = .ok (.invokestatic 32, 3) := by decide +kernel
theorem d_S_sector_26 : decode b_S_sector 26 = .ok (.aload_n 0, 1) := by decide +kernel
theorem d_S_sector_27 : decode b_S_sector 27 = .ok (.getfield 20, 3) := by decide +kernel
theorem d_S_sector_30 : decode b_S_sector 30 = .ok (.getfield 50, 3) := by decide +kernel
theorem d_S_sector_33 : decode b_S_sector 33 = .ok (.iload_n 1, 1) := by decide +kernel
theorem d_S_sector_34 : decode b_S_sector 34 = .ok (.bipush 32, 2) := by decide +kernel
theorem d_S_sector_36 : decode b_S_sector 36 = .ok (.imul, 1) := by decide +kernel
theorem d_S_sector_37 : decode b_S_sector 37 = .ok (.iload_n 2, 1) := by decide +kernel
theorem d_S_sector_38 : decode b_S_sector 38 = .ok (.iadd, 1) := by decide +kernel
theorem d_S_sector_39 : decode b_S_sector 39 = .ok (.iaload, 1) := by decide +kernel
theorem d_S_sector_40 : decode b_S_sector 40 = .ok (.ireturn, 1) := by decide +kernel
