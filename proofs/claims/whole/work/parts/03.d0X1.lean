theorem dX6_readExpression_49 : decode cX6_readExpression 49 = .ok (.iadd, 1) := by decide +kernel
theorem dX6_readExpression_50 : decode cX6_readExpression 50 = .ok (.putfield 43, 3) := by decide +kernel
theorem dX6_readExpression_53 : decode cX6_readExpression 53 = .ok (.aload_n 0, 1) := by decide +kernel
theorem dX6_readExpression_54 : decode cX6_readExpression 54 = .ok (.iload_n 1, 1) := by decide +kernel
theorem dX6_readExpression_55 : decode cX6_readExpression 55 = .ok (.invokevirtual 105, 3) := by decide +kernel
theorem dX6_readExpression_58 : decode cX6_readExpression 58 = .ok (.istore_n 2, 1) := by decide +kernel
theorem dX6_readExpression_59 : decode cX6_readExpression 59 = .ok (.aload_n 0, 1) := by decide +kernel
theorem dX6_readExpression_60 : decode cX6_readExpression 60 = .ok (.iload 4, 2) := by decide +kernel
theorem dX6_readExpression_62 : decode cX6_readExpression 62 = .ok (.iconst 0, 1) := by decide +kernel
theorem dX6_readExpression_63 : decode cX6_readExpression 63 = .ok (.invokevirtual 91, 3) := by decide +kernel
theorem dX6_readExpression_66 : decode cX6_readExpression 66 = .ok (.iinc 3 1, 3) := by decide +kernel
theorem dX6_readExpression_69 : decode cX6_readExpression 69 = .ok (.goto (-61), 3) := by decide +kernel
theorem dX6_readExpression_72 : decode cX6_readExpression 72 = .ok (.iload_n 2, 1) := by decide +kernel
theorem dX6_readExpression_73 : decode cX6_readExpression 73 = .ok (.ireturn, 1) := by decide +kernel
theorem dX6_readTerm_0 : decode cX6_readTerm 0 = .ok (.aload_n 0, 1) := by decide +kernel
theorem dX6_readTerm_1 : decode cX6_readTerm 1 = .ok (.iload_n 1, 1) := by decide +kernel
theorem dX6_readTerm_2 : decode cX6_readTerm 2 = .ok (.invokevirtual 108, 3) := by decide +kernel
theorem dX6_readTerm_5 : decode cX6_readTerm 5 = .ok (.istore_n 2, 1) := by decide +kernel
theorem dX6_readTerm_6 : decode cX6_readTerm 6 = .ok (.iconst 0, 1) := by decide +kernel
theorem dX6_readTerm_7 : decode cX6_readTerm 7 = .ok (.istore_n 3, 1) := by decide +kernel
theorem dX6_readTerm_8 : decode cX6_readTerm 8 = .ok (.iload_n 3, 1) := by decide +kernel
theorem dX6_readTerm_9 : decode cX6_readTerm 9 = .ok (.sipush 200, 3) := by decide +kernel
theorem dX6_readTerm_12 : decode cX6_readTerm 12 = .ok (.if_icmp .ge 69, 3) := by decide +kernel
theorem dX6_readTerm_15 : decode cX6_readTerm 15 = .ok (.iload_n 2, 1) := by decide +kernel
theorem dX6_readTerm_16 : decode cX6_readTerm 16 = .ok (.ifCond .eq 65, 3) := by decide +kernel
theorem dX6_readTerm_19 : decode cX6_readTerm 19 = .ok (.aload_n 0, 1) := by decide +kernel
theorem dX6_readTerm_20 : decode cX6_readTerm 20 = .ok (.invokevirtual 66, 3) := by decide +kernel
theorem dX6_readTerm_23 : decode cX6_readTerm 23 = .ok (.bipush 42, 2) := by decide +kernel
theorem dX6_readTerm_25 : decode cX6_readTerm 25 = .ok (.if_icmp .eq 21, 3) := by decide +kernel
theorem dX6_readTerm_28 : decode cX6_readTerm 28 = .ok (.aload_n 0, 1) := by decide +kernel
theorem dX6_readTerm_29 : decode cX6_readTerm 29 = .ok (.invokevirtual 66, 3) := by decide +kernel
theorem dX6_readTerm_32 : decode cX6_readTerm 32 = .ok (.bipush 47, 2) := by decide +kernel
theorem dX6_readTerm_34 : decode cX6_readTerm 34 = .ok (.if_icmp .eq 12, 3) := by decide +kernel
theorem dX6_readTerm_37 : decode cX6_readTerm 37 = .ok (.aload_n 0, 1) := by decide +kernel
theorem dX6_readTerm_38 : decode cX6_readTerm 38 = .ok (.invokevirtual 66, 3) := by decide +kernel
theorem dX6_readTerm_41 : decode cX6_readTerm 41 = .ok (.bipush 37, 2) := by decide +kernel
theorem dX6_readTerm_43 : decode cX6_readTerm 43 = .ok (.if_icmp .ne 38, 3) := by decide +kernel
theorem dX6_readTerm_46 : decode cX6_readTerm 46 = .ok (.aload_n 0, 1) := by decide +kernel
theorem dX6_readTerm_47 : decode cX6_readTerm 47 = .ok (.invokevirtual 66, 3) := by decide +kernel
theorem dX6_readTerm_50 : decode cX6_readTerm 50 = .ok (.istore 4, 2) := by decide +kernel
theorem dX6_readTerm_52 : decode cX6_readTerm 52 = .ok (.aload_n 0, 1) := by decide +kernel
theorem dX6_readTerm_53 : decode cX6_readTerm 53 = .ok (.dup, 1) := by decide +kernel
theorem dX6_readTerm_54 : decode cX6_readTerm 54 = .ok (.getfield 43, 3) := by decide +kernel
theorem dX6_readTerm_57 : decode cX6_readTerm 57 = .ok (.iconst 1, 1) := by decide +kernel
theorem dX6_readTerm_58 : decode cX6_readTerm 58 = .ok (.iadd, 1) := by decide +kernel
theorem dX6_readTerm_59 : decode cX6_readTerm 59 = .ok (.putfield 43, 3) := by decide +kernel
theorem dX6_readTerm_62 : decode cX6_readTerm 62 = .ok (.aload_n 0, 1) := by decide +kernel
theorem dX6_readTerm_63 : decode cX6_readTerm 63 = .ok (.iload_n 1, 1) := by decide +kernel
theorem dX6_readTerm_64 : decode cX6_readTerm 64 = .ok (.invokevirtual 108, 3) := by decide +kernel
theorem dX6_readTerm_67 : decode cX6_readTerm 67 = .ok (.istore_n 2, 1) := by decide +kernel
theorem dX6_readTerm_68 : decode cX6_readTerm 68 = .ok (.aload_n 0, 1) := by decide +kernel
theorem dX6_readTerm_69 : decode cX6_readTerm 69 = .ok (.iload 4, 2) := by decide +kernel
theorem dX6_readTerm_71 : decode cX6_readTerm 71 = .ok (.iconst 0, 1) := by decide +kernel
theorem dX6_readTerm_72 : decode cX6_readTerm 72 = .ok (.invokevirtual 91, 3) := by decide +kernel
theorem dX6_readTerm_75 : decode cX6_readTerm 75 = .ok (.iinc 3 1, 3) := by decide +kernel
theorem dX6_readTerm_78 : decode cX6_readTerm 78 = .ok (.goto (-70), 3) := by decide +kernel
theorem dX6_readTerm_81 : decode cX6_readTerm 81 = .ok (.iload_n 2, 1) := by decide +kernel
theorem dX6_readTerm_82 : decode cX6_readTerm 82 = .ok (.ireturn, 1) := by decide +kernel
theorem dX6_readFactor_0 : decode cX6_readFactor 0 = .ok (.aload_n 0, 1) := by decide +kernel
theorem dX6_readFactor_1 : decode cX6_readFactor 1 = .ok (.invokevirtual 66, 3) := by decide +kernel
theorem dX6_readFactor_4 : decode cX6_readFactor 4 = .ok (.istore_n 2, 1) := by decide +kernel
theorem dX6_readFactor_5 : decode cX6_readFactor 5 = .ok (.iload_n 2, 1) := by decide +kernel
theorem dX6_readFactor_6 : decode cX6_readFactor 6 = .ok (.invokestatic 111, 3) := by decide +kernel
theorem dX6_readFactor_9 : decode cX6_readFactor 9 = .ok (.ifCond .eq 8, 3) := by decide +kernel
theorem dX6_readFactor_12 : decode cX6_readFactor 12 = .ok (.aload_n 0, 1) := by decide +kernel
theorem dX6_readFactor_13 : decode cX6_readFactor 13 = .ok (.invokevirtual 114, 3) := by decide +kernel
theorem dX6_readFactor_16 : decode cX6_readFactor 16 = .ok (.ireturn, 1) := by decide +kernel
theorem dX6_readFactor_17 : decode cX6_readFactor 17 = .ok (.iload_n 2, 1) := by decide +kernel
theorem dX6_readFactor_18 : decode cX6_readFactor 18 = .ok (.bipush 97, 2) := by decide +kernel
theorem dX6_readFactor_20 : decode cX6_readFactor 20 = .ok (.if_icmp .lt 41, 3) := by decide +kernel
theorem dX6_readFactor_23 : decode cX6_readFactor 23 = .ok (.iload_n 2, 1) := by decide +kernel
theorem dX6_readFactor_24 : decode cX6_readFactor 24 = .ok (.bipush 122, 2) := by decide +kernel
theorem dX6_readFactor_26 : decode cX6_readFactor 26 = .ok (.if_icmp .gt 35, 3) := by decide +kernel
theorem dX6_readFactor_29 : decode cX6_readFactor 29 = .ok (.ldc 117, 2) := by decide +kernel
theorem dX6_readFactor_31 : decode cX6_readFactor 31 = .ok (.iload_n 2, 1) := by decide +kernel
theorem dX6_readFactor_32 : decode cX6_readFactor 32 = .ok (.i2c, 1) := by decide +kernel
theorem dX6_readFactor_33 : decode cX6_readFactor 33 = .ok (.invokevirtual 119, 3) := by decide +kernel
theorem dX6_readFactor_36 : decode cX6_readFactor 36 = .ok (.ifCond .lt 25, 3) := by decide +kernel
theorem dX6_readFactor_39 : decode cX6_readFactor 39 = .ok (.aload_n 0, 1) := by decide +kernel
theorem dX6_readFactor_40 : decode cX6_readFactor 40 = .ok (.dup, 1) := by decide +kernel
theorem dX6_readFactor_41 : decode cX6_readFactor 41 = .ok (.getfield 43, 3) := by decide +kernel
theorem dX6_readFactor_44 : decode cX6_readFactor 44 = .ok (.iconst 1, 1) := by decide +kernel
theorem dX6_readFactor_45 : decode cX6_readFactor 45 = .ok (.iadd, 1) := by decide +kernel
theorem dX6_readFactor_46 : decode cX6_readFactor 46 = .ok (.putfield 43, 3) := by decide +kernel
theorem dX6_readFactor_49 : decode cX6_readFactor 49 = .ok (.aload_n 0, 1) := by decide +kernel
theorem dX6_readFactor_50 : decode cX6_readFactor 50 = .ok (.bipush 97, 2) := by decide +kernel
theorem dX6_readFactor_52 : decode cX6_readFactor 52 = .ok (.iload_n 2, 1) := by decide +kernel
theorem dX6_readFactor_53 : decode cX6_readFactor 53 = .ok (.bipush 97, 2) := by decide +kernel
theorem dX6_readFactor_55 : decode cX6_readFactor 55 = .ok (.isub, 1) := by decide +kernel
theorem dX6_readFactor_56 : decode cX6_readFactor 56 = .ok (.invokevirtual 91, 3) := by decide +kernel
theorem dX6_readFactor_59 : decode cX6_readFactor 59 = .ok (.iconst 1, 1) := by decide +kernel
theorem dX6_readFactor_60 : decode cX6_readFactor 60 = .ok (.ireturn, 1) := by decide +kernel
theorem dX6_readFactor_61 : decode cX6_readFactor 61 = .ok (.iload_n 2, 1) := by decide +kernel
theorem dX6_readFactor_62 : decode cX6_readFactor 62 = .ok (.bipush 91, 2) := by decide +kernel
theorem dX6_readFactor_64 : decode cX6_readFactor 64 = .ok (.if_icmp .ne 15, 3) := by decide +kernel
theorem dX6_readFactor_67 : decode cX6_readFactor 67 = .ok (.iload_n 1, 1) := by decide +kernel
theorem dX6_readFactor_68 : decode cX6_readFactor 68 = .ok (.bipush 6, 2) := by decide +kernel
theorem dX6_readFactor_70 : decode cX6_readFactor 70 = .ok (.if_icmp .lt 9, 3) := by decide +kernel
theorem dX6_readFactor_73 : decode cX6_readFactor 73 = .ok (.aload_n 0, 1) := by decide +kernel
theorem dX6_readFactor_74 : decode cX6_readFactor 74 = .ok (.iconst 5, 1) := by decide +kernel
theorem dX6_readFactor_75 : decode cX6_readFactor 75 = .ok (.invokevirtual 70, 3) := by decide +kernel
theorem dX6_readFactor_78 : decode cX6_readFactor 78 = .ok (.ireturn, 1) := by decide +kernel
theorem dX6_readFactor_79 : decode cX6_readFactor 79 = .ok (.aload_n 0, 1) := by decide +kernel
theorem dX6_readFactor_80 : decode cX6_readFactor 80 = .ok (.bipush 91, 2) := by decide +kernel
theorem dX6_readFactor_82 : decode cX6_readFactor 82 = .ok (.invokevirtual 62, 3) := by decide +kernel
theorem dX6_readFactor_85 : decode cX6_readFactor 85 = .ok (.ifCond .eq 26, 3) := by decide +kernel
theorem dX6_readFactor_88 : decode cX6_readFactor 88 = .ok (.aload_n 0, 1) := by decide +kernel
theorem dX6_readFactor_89 : decode cX6_readFactor 89 = .ok (.iload_n 1, 1) := by decide +kernel
theorem dX6_readFactor_90 : decode cX6_readFactor 90 = .ok (.iconst 1, 1) := by decide +kernel
theorem dX6_readFactor_91 : decode cX6_readFactor 91 = .ok (.iadd, 1) := by decide +kernel
theorem dX6_readFactor_92 : decode cX6_readFactor 92 = .ok (.invokevirtual 79, 3) := by decide +kernel
theorem dX6_readFactor_95 : decode cX6_readFactor 95 = .ok (.ifCond .eq 16, 3) := by decide +kernel
theorem dX6_readFactor_98 : decode cX6_readFactor 98 = .ok (.aload_n 0, 1) := by decide +kernel
theorem dX6_readFactor_99 : decode cX6_readFactor 99 = .ok (.bipush 93, 2) := by decide +kernel
theorem dX6_readFactor_101 : decode cX6_readFactor 101 = .ok (.invokevirtual 62, 3) := by decide +kernel
theorem dX6_readFactor_104 : decode cX6_readFactor 104 = .ok (.ifCond .eq 7, 3) := by decide +kernel
theorem dX6_readFactor_107 : decode cX6_readFactor 107 = .ok (.iconst 1, 1) := by decide +kernel
theorem dX6_readFactor_108 : decode cX6_readFactor 108 = .ok (.goto 4, 3) := by decide +kernel
theorem dX6_readFactor_111 : decode cX6_readFactor 111 = .ok (.iconst 0, 1) := by decide +kernel
theorem dX6_readFactor_112 : decode cX6_readFactor 112 = .ok (.ireturn, 1) := by decide +kernel
theorem dX6_readNumber_0 : decode cX6_readNumber 0 = .ok (.iconst 0, 1) := by decide +kernel
theorem dX6_readNumber_1 : decode cX6_readNumber 1 = .ok (.istore_n 1, 1) := by decide +kernel
theorem dX6_readNumber_2 : decode cX6_readNumber 2 = .ok (.iconst 0, 1) := by decide +kernel
theorem dX6_readNumber_3 : decode cX6_readNumber 3 = .ok (.istore_n 2, 1) := by decide +kernel
theorem dX6_readNumber_4 : decode cX6_readNumber 4 = .ok (.iload_n 2, 1) := by decide +kernel
theorem dX6_readNumber_5 : decode cX6_readNumber 5 = .ok (.iconst 5, 1) := by decide +kernel
theorem dX6_readNumber_6 : decode cX6_readNumber 6 = .ok (.if_icmp .ge 42, 3) := by decide +kernel
theorem dX6_readNumber_9 : decode cX6_readNumber 9 = .ok (.aload_n 0, 1) := by decide +kernel
theorem dX6_readNumber_10 : decode cX6_readNumber 10 = .ok (.invokevirtual 66, 3) := by decide +kernel
theorem dX6_readNumber_13 : decode cX6_readNumber 13 = .ok (.invokestatic 111, 3) := by decide +kernel
theorem dX6_readNumber_16 : decode cX6_readNumber 16 = .ok (.ifCond .eq 32, 3) := by decide +kernel
theorem dX6_readNumber_19 : decode cX6_readNumber 19 = .ok (.bipush 10, 2) := by decide +kernel
theorem dX6_readNumber_21 : decode cX6_readNumber 21 = .ok (.iload_n 1, 1) := by decide +kernel
theorem dX6_readNumber_22 : decode cX6_readNumber 22 = .ok (.imul, 1) := by decide +kernel
theorem dX6_readNumber_23 : decode cX6_readNumber 23 = .ok (.aload_n 0, 1) := by decide +kernel
theorem dX6_readNumber_24 : decode cX6_readNumber 24 = .ok (.invokevirtual 66, 3) := by decide +kernel
theorem dX6_readNumber_27 : decode cX6_readNumber 27 = .ok (.iadd, 1) := by decide +kernel
theorem dX6_readNumber_28 : decode cX6_readNumber 28 = .ok (.bipush 48, 2) := by decide +kernel
theorem dX6_readNumber_30 : decode cX6_readNumber 30 = .ok (.isub, 1) := by decide +kernel
theorem dX6_readNumber_31 : decode cX6_readNumber 31 = .ok (.istore_n 1, 1) := by decide +kernel
theorem dX6_readNumber_32 : decode cX6_readNumber 32 = .ok (.aload_n 0, 1) := by decide +kernel
theorem dX6_readNumber_33 : decode cX6_readNumber 33 = .ok (.dup, 1) := by decide +kernel
theorem dX6_readNumber_34 : decode cX6_readNumber 34 = .ok (.getfield 43, 3) := by decide +kernel
theorem dX6_readNumber_37 : decode cX6_readNumber 37 = .ok (.iconst 1, 1) := by decide +kernel
theorem dX6_readNumber_38 : decode cX6_readNumber 38 = .ok (.iadd, 1) := by decide +kernel
theorem dX6_readNumber_39 : decode cX6_readNumber 39 = .ok (.putfield 43, 3) := by decide +kernel
theorem dX6_readNumber_42 : decode cX6_readNumber 42 = .ok (.iinc 2 1, 3) := by decide +kernel
theorem dX6_readNumber_45 : decode cX6_readNumber 45 = .ok (.goto (-41), 3) := by decide +kernel
theorem dX6_readNumber_48 : decode cX6_readNumber 48 = .ok (.aload_n 0, 1) := by decide +kernel
theorem dX6_readNumber_49 : decode cX6_readNumber 49 = .ok (.bipush 48, 2) := by decide +kernel
theorem dX6_readNumber_51 : decode cX6_readNumber 51 = .ok (.iload_n 1, 1) := by decide +kernel
theorem dX6_readNumber_52 : decode cX6_readNumber 52 = .ok (.invokevirtual 91, 3) := by decide +kernel
theorem dX6_readNumber_55 : decode cX6_readNumber 55 = .ok (.aload_n 0, 1) := by decide +kernel
theorem dX6_readNumber_56 : decode cX6_readNumber 56 = .ok (.invokevirtual 66, 3) := by decide +kernel
theorem dX6_readNumber_59 : decode cX6_readNumber 59 = .ok (.invokestatic 111, 3) := by decide +kernel
theorem dX6_readNumber_62 : decode cX6_readNumber 62 = .ok (.ifCond .eq 11, 3) := by decide +kernel
theorem dX6_readNumber_65 : decode cX6_readNumber 65 = .ok (.aload_n 0, 1) := by decide +kernel
theorem dX6_readNumber_66 : decode cX6_readNumber 66 = .ok (.iconst 2, 1) := by decide +kernel
theorem dX6_readNumber_67 : decode cX6_readNumber 67 = .ok (.invokevirtual 70, 3) := by decide +kernel
theorem dX6_readNumber_70 : decode cX6_readNumber 70 = .ok (.goto 4, 3) := by decide +kernel
theorem dX6_readNumber_73 : decode cX6_readNumber 73 = .ok (.iconst 1, 1) := by decide +kernel
theorem dX6_readNumber_74 : decode cX6_readNumber 74 = .ok (.ireturn, 1) := by decide +kernel
theorem dX6_isDigit_0 : decode cX6_isDigit 0 = .ok (.iload_n 0, 1) := by decide +kernel
theorem dX6_isDigit_1 : decode cX6_isDigit 1 = .ok (.bipush 48, 2) := by decide +kernel
theorem dX6_isDigit_3 : decode cX6_isDigit 3 = .ok (.if_icmp .lt 13, 3) := by decide +kernel
theorem dX6_isDigit_6 : decode cX6_isDigit 6 = .ok (.iload_n 0, 1) := by decide +kernel
theorem dX6_isDigit_7 : decode cX6_isDigit 7 = .ok (.bipush 57, 2) := by decide +kernel
theorem dX6_isDigit_9 : decode cX6_isDigit 9 = .ok (.if_icmp .gt 7, 3) := by decide +kernel
theorem dX6_isDigit_12 : decode cX6_isDigit 12 = .ok (.iconst 1, 1) := by decide +kernel
theorem dX6_isDigit_13 : decode cX6_isDigit 13 = .ok (.goto 4, 3) := by decide +kernel
theorem dX6_isDigit_16 : decode cX6_isDigit 16 = .ok (.iconst 0, 1) := by decide +kernel
theorem dX6_isDigit_17 : decode cX6_isDigit 17 = .ok (.ireturn, 1) := by decide +kernel
theorem dX7_init_0 : decode cX7_init 0 = .ok (.aload_n 0, 1) := by decide +kernel
theorem dX7_init_1 : decode cX7_init 1 = .ok (.invokespecial 3, 3) := by decide +kernel
theorem dX7_init_4 : decode cX7_init 4 = .ok (.aload_n 0, 1) := by decide +kernel
theorem dX7_init_5 : decode cX7_init 5 = .ok (.bipush 8, 2) := by decide +kernel
theorem dX7_init_7 : decode cX7_init 7 = .ok (.newarray .int, 2) := by decide +kernel
theorem dX7_init_9 : decode cX7_init 9 = .ok (.putfield 9, 3) := by decide +kernel
theorem dX7_init_12 : decode cX7_init 12 = .ok (.aload_n 0, 1) := by decide +kernel
theorem dX7_init_13 : decode cX7_init 13 = .ok (.bipush 8, 2) := by decide +kernel
theorem dX7_init_15 : decode cX7_init 15 = .ok (.iconst 4, 1) := by decide +kernel
theorem dX7_init_16 : decode cX7_init 16 = .ok (.multianewarray 15 2, 4) := by decide +kernel
theorem dX7_init_20 : decode cX7_init 20 = .ok (.putfield 17, 3) := by decide +kernel
theorem dX7_init_23 : decode cX7_init 23 = .ok (.aload_n 0, 1) := by decide +kernel
theorem dX7_init_24 : decode cX7_init 24 = .ok (.bipush 9, 2) := by decide +kernel
theorem dX7_init_26 : decode cX7_init 26 = .ok (.newarray .int, 2) := by decide +kernel
theorem dX7_init_28 : decode cX7_init 28 = .ok (.putfield 20, 3) := by decide +kernel
theorem dX7_init_31 : decode cX7_init 31 = .ok (.aload_n 0, 1) := by decide +kernel
theorem dX7_init_32 : decode cX7_init 32 = .ok (.bipush 8, 2) := by decide +kernel
theorem dX7_init_34 : decode cX7_init 34 = .ok (.newarray .int, 2) := by decide +kernel
theorem dX7_init_36 : decode cX7_init 36 = .ok (.putfield 23, 3) := by decide +kernel
theorem dX7_init_39 : decode cX7_init 39 = .ok (.aload_n 0, 1) := by decide +kernel
theorem dX7_init_40 : decode cX7_init 40 = .ok (.bipush 8, 2) := by decide +kernel
theorem dX7_init_42 : decode cX7_init 42 = .ok (.newarray .int, 2) := by decide +kernel
theorem dX7_init_44 : decode cX7_init 44 = .ok (.putfield 26, 3) := by decide +kernel
theorem dX7_init_47 : decode cX7_init 47 = .ok (.return_, 1) := by decide +kernel
theorem dX7_begin_0 : decode cX7_begin 0 = .ok (.aload_n 0, 1) := by decide +kernel
theorem dX7_begin_1 : decode cX7_begin 1 = .ok (.iconst 0, 1) := by decide +kernel
theorem dX7_begin_2 : decode cX7_begin 2 = .ok (.putfield 29, 3) := by decide +kernel
theorem dX7_begin_5 : decode cX7_begin 5 = .ok (.aload_n 0, 1) := by decide +kernel
theorem dX7_begin_6 : decode cX7_begin 6 = .ok (.iload_n 1, 1) := by decide +kernel
theorem dX7_begin_7 : decode cX7_begin 7 = .ok (.putfield 33, 3) := by decide +kernel
theorem dX7_begin_10 : decode cX7_begin 10 = .ok (.aload_n 0, 1) := by decide +kernel
theorem dX7_begin_11 : decode cX7_begin 11 = .ok (.iconst 0, 1) := by decide +kernel
theorem dX7_begin_12 : decode cX7_begin 12 = .ok (.putfield 36, 3) := by decide +kernel
theorem dX7_begin_15 : decode cX7_begin 15 = .ok (.aload_n 0, 1) := by decide +kernel
theorem dX7_begin_16 : decode cX7_begin 16 = .ok (.iconst (-1), 1) := by decide +kernel
theorem dX7_begin_17 : decode cX7_begin 17 = .ok (.putfield 39, 3) := by decide +kernel
theorem dX7_begin_20 : decode cX7_begin 20 = .ok (.aload_n 0, 1) := by decide +kernel
theorem dX7_begin_21 : decode cX7_begin 21 = .ok (.iconst 0, 1) := by decide +kernel
theorem dX7_begin_22 : decode cX7_begin 22 = .ok (.putfield 42, 3) := by decide +kernel
theorem dX7_begin_25 : decode cX7_begin 25 = .ok (.return_, 1) := by decide +kernel
theorem dX7_offer_0 : decode cX7_offer 0 = .ok (.aload_n 0, 1) := by decide +kernel
theorem dX7_offer_1 : decode cX7_offer 1 = .ok (.getfield 29, 3) := by decide +kernel
theorem dX7_offer_4 : decode cX7_offer 4 = .ok (.bipush 8, 2) := by decide +kernel
theorem dX7_offer_6 : decode cX7_offer 6 = .ok (.if_icmp .lt 4, 3) := by decide +kernel
theorem dX7_offer_9 : decode cX7_offer 9 = .ok (.return_, 1) := by decide +kernel
theorem dX7_offer_10 : decode cX7_offer 10 = .ok (.aload_n 0, 1) := by decide +kernel
theorem dX7_offer_11 : decode cX7_offer 11 = .ok (.getfield 9, 3) := by decide +kernel
theorem dX7_offer_14 : decode cX7_offer 14 = .ok (.aload_n 0, 1) := by decide +kernel
theorem dX7_offer_15 : decode cX7_offer 15 = .ok (.getfield 29, 3) := by decide +kernel
theorem dX7_offer_18 : decode cX7_offer 18 = .ok (.iload_n 1, 1) := by decide +kernel
theorem dX7_offer_19 : decode cX7_offer 19 = .ok (.iastore, 1) := by decide +kernel
theorem dX7_offer_20 : decode cX7_offer 20 = .ok (.iconst 0, 1) := by decide +kernel
theorem dX7_offer_21 : decode cX7_offer 21 = .ok (.istore 5, 2) := by decide +kernel
theorem dX7_offer_23 : decode cX7_offer 23 = .ok (.iload 5, 2) := by decide +kernel
theorem dX7_offer_25 : decode cX7_offer 25 = .ok (.iconst 3, 1) := by decide +kernel
theorem dX7_offer_26 : decode cX7_offer 26 = .ok (.if_icmp .gt 34, 3) := by decide +kernel
theorem dX7_offer_29 : decode cX7_offer 29 = .ok (.aload_n 0, 1) := by decide +kernel
theorem dX7_offer_30 : decode cX7_offer 30 = .ok (.getfield 17, 3) := by decide +kernel
theorem dX7_offer_33 : decode cX7_offer 33 = .ok (.aload_n 0, 1) := by decide +kernel
theorem dX7_offer_34 : decode cX7_offer 34 = .ok (.getfield 29, 3) := by decide +kernel
theorem dX7_offer_37 : decode cX7_offer 37 = .ok (.aaload, 1) := by decide +kernel
theorem dX7_offer_38 : decode cX7_offer 38 = .ok (.iload 5, 2) := by decide +kernel
theorem dX7_offer_40 : decode cX7_offer 40 = .ok (.iload_n 2, 1) := by decide +kernel
theorem dX7_offer_41 : decode cX7_offer 41 = .ok (.iload_n 3, 1) := by decide +kernel
theorem dX7_offer_42 : decode cX7_offer 42 = .ok (.iload 5, 2) := by decide +kernel
theorem dX7_offer_44 : decode cX7_offer 44 = .ok (.iadd, 1) := by decide +kernel
theorem dX7_offer_45 : decode cX7_offer 45 = .ok (.iload 4, 2) := by decide +kernel
theorem dX7_offer_47 : decode cX7_offer 47 = .ok (.imul, 1) := by decide +kernel
theorem dX7_offer_48 : decode cX7_offer 48 = .ok (.iconst 3, 1) := by decide +kernel
theorem dX7_offer_49 : decode cX7_offer 49 = .ok (.idiv, 1) := by decide +kernel
theorem dX7_offer_50 : decode cX7_offer 50 = .ok (.invokestatic 45, 3) := by decide +kernel
theorem dX7_offer_53 : decode cX7_offer 53 = .ok (.iastore, 1) := by decide +kernel
theorem dX7_offer_54 : decode cX7_offer 54 = .ok (.iinc 5 1, 3) := by decide +kernel
theorem dX7_offer_57 : decode cX7_offer 57 = .ok (.goto (-34), 3) := by decide +kernel
theorem dX7_offer_60 : decode cX7_offer 60 = .ok (.aload_n 0, 1) := by decide +kernel
theorem dX7_offer_61 : decode cX7_offer 61 = .ok (.dup, 1) := by decide +kernel
theorem dX7_offer_62 : decode cX7_offer 62 = .ok (.getfield 36, 3) := by decide +kernel
theorem dX7_offer_65 : decode cX7_offer 65 = .ok (.aload_n 0, 1) := by decide +kernel
theorem dX7_offer_66 : decode cX7_offer 66 = .ok (.getfield 17, 3) := by decide +kernel
theorem dX7_offer_69 : decode cX7_offer 69 = .ok (.aload_n 0, 1) := by decide +kernel
theorem dX7_offer_70 : decode cX7_offer 70 = .ok (.getfield 29, 3) := by decide +kernel
theorem dX7_offer_73 : decode cX7_offer 73 = .ok (.aaload, 1) := by decide +kernel
theorem dX7_offer_74 : decode cX7_offer 74 = .ok (.iconst 0, 1) := by decide +kernel
theorem dX7_offer_75 : decode cX7_offer 75 = .ok (.iaload, 1) := by decide +kernel
theorem dX7_offer_76 : decode cX7_offer 76 = .ok (.iadd, 1) := by decide +kernel
theorem dX7_offer_77 : decode cX7_offer 77 = .ok (.putfield 36, 3) := by decide +kernel
theorem dX7_offer_80 : decode cX7_offer 80 = .ok (.aload_n 0, 1) := by decide +kernel
theorem dX7_offer_81 : decode cX7_offer 81 = .ok (.dup, 1) := by decide +kernel
theorem dX7_offer_82 : decode cX7_offer 82 = .ok (.getfield 29, 3) := by decide +kernel
theorem dX7_offer_85 : decode cX7_offer 85 = .ok (.iconst 1, 1) := by decide +kernel
theorem dX7_offer_86 : decode cX7_offer 86 = .ok (.iadd, 1) := by decide +kernel
theorem dX7_offer_87 : decode cX7_offer 87 = .ok (.putfield 29, 3) := by decide +kernel
theorem dX7_offer_90 : decode cX7_offer 90 = .ok (.return_, 1) := by decide +kernel
theorem dX7_search_0 : decode cX7_search 0 = .ok (.aload_n 0, 1) := by decide +kernel
theorem dX7_search_1 : decode cX7_search 1 = .ok (.getfield 20, 3) := by decide +kernel
theorem dX7_search_4 : decode cX7_search 4 = .ok (.aload_n 0, 1) := by decide +kernel
theorem dX7_search_5 : decode cX7_search 5 = .ok (.getfield 29, 3) := by decide +kernel
theorem dX7_search_8 : decode cX7_search 8 = .ok (.iconst 0, 1) := by decide +kernel
theorem dX7_search_9 : decode cX7_search 9 = .ok (.iastore, 1) := by decide +kernel
theorem dX7_search_10 : decode cX7_search 10 = .ok (.aload_n 0, 1) := by decide +kernel
theorem dX7_search_11 : decode cX7_search 11 = .ok (.getfield 29, 3) := by decide +kernel
theorem dX7_search_14 : decode cX7_search 14 = .ok (.iconst 1, 1) := by decide +kernel
theorem dX7_search_15 : decode cX7_search 15 = .ok (.isub, 1) := by decide +kernel
theorem dX7_search_16 : decode cX7_search 16 = .ok (.istore_n 1, 1) := by decide +kernel
theorem dX7_search_17 : decode cX7_search 17 = .ok (.iload_n 1, 1) := by decide +kernel
theorem dX7_search_18 : decode cX7_search 18 = .ok (.ifCond .lt 32, 3) := by decide +kernel
theorem dX7_search_21 : decode cX7_search 21 = .ok (.aload_n 0, 1) := by decide +kernel
theorem dX7_search_22 : decode cX7_search 22 = .ok (.getfield 20, 3) := by decide +kernel
theorem dX7_search_25 : decode cX7_search 25 = .ok (.iload_n 1, 1) := by decide +kernel
theorem dX7_search_26 : decode cX7_search 26 = .ok (.aload_n 0, 1) := by decide +kernel
theorem dX7_search_27 : decode cX7_search 27 = .ok (.getfield 20, 3) := by decide +kernel
theorem dX7_search_30 : decode cX7_search 30 = .ok (.iload_n 1, 1) := by decide +kernel
theorem dX7_search_31 : decode cX7_search 31 = .ok (.iconst 1, 1) := by decide +kernel
theorem dX7_search_32 : decode cX7_search 32 = .ok (.iadd, 1) := by decide +kernel
theorem dX7_search_33 : decode cX7_search 33 = .ok (.iaload, 1) := by decide +kernel
theorem dX7_search_34 : decode cX7_search 34 = .ok (.aload_n 0, 1) := by decide +kernel
theorem dX7_search_35 : decode cX7_search 35 = .ok (.getfield 17, 3) := by decide +kernel
theorem dX7_search_38 : decode cX7_search 38 = .ok (.iload_n 1, 1) := by decide +kernel
theorem dX7_search_39 : decode cX7_search 39 = .ok (.aaload, 1) := by decide +kernel
theorem dX7_search_40 : decode cX7_search 40 = .ok (.iconst 3, 1) := by decide +kernel
theorem dX7_search_41 : decode cX7_search 41 = .ok (.iaload, 1) := by decide +kernel
theorem dX7_search_42 : decode cX7_search 42 = .ok (.iadd, 1) := by decide +kernel
theorem dX7_search_43 : decode cX7_search 43 = .ok (.iastore, 1) := by decide +kernel
theorem dX7_search_44 : decode cX7_search 44 = .ok (.iinc 1 (-1), 3) := by decide +kernel
theorem dX7_search_47 : decode cX7_search 47 = .ok (.goto (-30), 3) := by decide +kernel
theorem dX7_search_50 : decode cX7_search 50 = .ok (.aload_n 0, 1) := by decide +kernel
theorem dX7_search_51 : decode cX7_search 51 = .ok (.iconst 0, 1) := by decide +kernel
theorem dX7_search_52 : decode cX7_search 52 = .ok (.iconst 0, 1) := by decide +kernel
theorem dX7_search_53 : decode cX7_search 53 = .ok (.iconst 0, 1) := by decide +kernel
theorem dX7_search_54 : decode cX7_search 54 = .ok (.invokevirtual 51, 3) := by decide +kernel
theorem dX7_search_57 : decode cX7_search 57 = .ok (.return_, 1) := by decide +kernel
theorem dX7_tryFrom_0 : decode cX7_tryFrom 0 = .ok (.iload_n 2, 1) := by decide +kernel
theorem dX7_tryFrom_1 : decode cX7_tryFrom 1 = .ok (.aload_n 0, 1) := by decide +kernel
theorem dX7_tryFrom_2 : decode cX7_tryFrom 2 = .ok (.getfield 33, 3) := by decide +kernel
theorem dX7_tryFrom_5 : decode cX7_tryFrom 5 = .ok (.if_icmp .gt 15, 3) := by decide +kernel
theorem dX7_tryFrom_8 : decode cX7_tryFrom 8 = .ok (.iload_n 1, 1) := by decide +kernel
theorem dX7_tryFrom_9 : decode cX7_tryFrom 9 = .ok (.iconst 0, 1) := by decide +kernel
theorem dX7_tryFrom_10 : decode cX7_tryFrom 10 = .ok (.aload_n 0, 1) := by decide +kernel
theorem dX7_tryFrom_11 : decode cX7_tryFrom 11 = .ok (.getfield 29, 3) := by decide +kernel
theorem dX7_tryFrom_14 : decode cX7_tryFrom 14 = .ok (.invokestatic 55, 3) := by decide +kernel
theorem dX7_tryFrom_17 : decode cX7_tryFrom 17 = .ok (.ifCond .ne 4, 3) := by decide +kernel
theorem dX7_tryFrom_20 : decode cX7_tryFrom 20 = .ok (.return_, 1) := by decide +kernel
theorem dX7_tryFrom_21 : decode cX7_tryFrom 21 = .ok (.iload_n 3, 1) := by decide +kernel
theorem dX7_tryFrom_22 : decode cX7_tryFrom 22 = .ok (.aload_n 0, 1) := by decide +kernel
theorem dX7_tryFrom_23 : decode cX7_tryFrom 23 = .ok (.getfield 20, 3) := by decide +kernel
theorem dX7_tryFrom_26 : decode cX7_tryFrom 26 = .ok (.iload_n 1, 1) := by decide +kernel
theorem dX7_tryFrom_27 : decode cX7_tryFrom 27 = .ok (.iaload, 1) := by decide +kernel
theorem dX7_tryFrom_28 : decode cX7_tryFrom 28 = .ok (.iadd, 1) := by decide +kernel
theorem dX7_tryFrom_29 : decode cX7_tryFrom 29 = .ok (.istore 4, 2) := by decide +kernel
theorem dX7_tryFrom_31 : decode cX7_tryFrom 31 = .ok (.iload 4, 2) := by decide +kernel
theorem dX7_tryFrom_33 : decode cX7_tryFrom 33 = .ok (.aload_n 0, 1) := by decide +kernel
theorem dX7_tryFrom_34 : decode cX7_tryFrom 34 = .ok (.getfield 39, 3) := by decide +kernel
theorem dX7_tryFrom_37 : decode cX7_tryFrom 37 = .ok (.if_icmp .lt 20, 3) := by decide +kernel
theorem dX7_tryFrom_40 : decode cX7_tryFrom 40 = .ok (.iload 4, 2) := by decide +kernel
theorem dX7_tryFrom_42 : decode cX7_tryFrom 42 = .ok (.aload_n 0, 1) := by decide +kernel
theorem dX7_tryFrom_43 : decode cX7_tryFrom 43 = .ok (.getfield 39, 3) := by decide +kernel
theorem dX7_tryFrom_46 : decode cX7_tryFrom 46 = .ok (.if_icmp .ne 12, 3) := by decide +kernel
theorem dX7_tryFrom_49 : decode cX7_tryFrom 49 = .ok (.iload_n 2, 1) := by decide +kernel
theorem dX7_tryFrom_50 : decode cX7_tryFrom 50 = .ok (.aload_n 0, 1) := by decide +kernel
theorem dX7_tryFrom_51 : decode cX7_tryFrom 51 = .ok (.getfield 42, 3) := by decide +kernel
theorem dX7_tryFrom_54 : decode cX7_tryFrom 54 = .ok (.if_icmp .lt 4, 3) := by decide +kernel
theorem dX7_tryFrom_57 : decode cX7_tryFrom 57 = .ok (.return_, 1) := by decide +kernel
theorem dX7_tryFrom_58 : decode cX7_tryFrom 58 = .ok (.iload_n 1, 1) := by decide +kernel
theorem dX7_tryFrom_59 : decode cX7_tryFrom 59 = .ok (.aload_n 0, 1) := by decide +kernel
theorem dX7_tryFrom_60 : decode cX7_tryFrom 60 = .ok (.getfield 29, 3) := by decide +kernel
theorem dX7_tryFrom_63 : decode cX7_tryFrom 63 = .ok (.if_icmp .ne 31, 3) := by decide +kernel
theorem dX7_tryFrom_66 : decode cX7_tryFrom 66 = .ok (.aload_n 0, 1) := by decide +kernel
theorem dX7_tryFrom_67 : decode cX7_tryFrom 67 = .ok (.iload_n 3, 1) := by decide +kernel
theorem dX7_tryFrom_68 : decode cX7_tryFrom 68 = .ok (.putfield 39, 3) := by decide +kernel
theorem dX7_tryFrom_71 : decode cX7_tryFrom 71 = .ok (.aload_n 0, 1) := by decide +kernel
theorem dX7_tryFrom_72 : decode cX7_tryFrom 72 = .ok (.iload_n 2, 1) := by decide +kernel
theorem dX7_tryFrom_73 : decode cX7_tryFrom 73 = .ok (.putfield 42, 3) := by decide +kernel
theorem dX7_tryFrom_76 : decode cX7_tryFrom 76 = .ok (.aload_n 0, 1) := by decide +kernel
theorem dX7_tryFrom_77 : decode cX7_tryFrom 77 = .ok (.getfield 23, 3) := by decide +kernel
theorem dX7_tryFrom_80 : decode cX7_tryFrom 80 = .ok (.iconst 0, 1) := by decide +kernel
theorem dX7_tryFrom_81 : decode cX7_tryFrom 81 = .ok (.aload_n 0, 1) := by decide +kernel
theorem dX7_tryFrom_82 : decode cX7_tryFrom 82 = .ok (.getfield 26, 3) := by decide +kernel
theorem dX7_tryFrom_85 : decode cX7_tryFrom 85 = .ok (.iconst 0, 1) := by decide +kernel
theorem dX7_tryFrom_86 : decode cX7_tryFrom 86 = .ok (.aload_n 0, 1) := by decide +kernel
theorem dX7_tryFrom_87 : decode cX7_tryFrom 87 = .ok (.getfield 29, 3) := by decide +kernel
theorem dX7_tryFrom_90 : decode cX7_tryFrom 90 = .ok (.invokestatic 59, 3) := by decide +kernel
theorem dX7_tryFrom_93 : decode cX7_tryFrom 93 = .ok (.return_, 1) := by decide +kernel
theorem dX7_tryFrom_94 : decode cX7_tryFrom 94 = .ok (.iconst 0, 1) := by decide +kernel
theorem dX7_tryFrom_95 : decode cX7_tryFrom 95 = .ok (.istore 5, 2) := by decide +kernel
theorem dX7_tryFrom_97 : decode cX7_tryFrom 97 = .ok (.iload 5, 2) := by decide +kernel
theorem dX7_tryFrom_99 : decode cX7_tryFrom 99 = .ok (.iconst 3, 1) := by decide +kernel
theorem dX7_tryFrom_100 : decode cX7_tryFrom 100 = .ok (.if_icmp .gt 74, 3) := by decide +kernel
theorem dX7_tryFrom_103 : decode cX7_tryFrom 103 = .ok (.iload 5, 2) := by decide +kernel
theorem dX7_tryFrom_105 : decode cX7_tryFrom 105 = .ok (.ifCond .eq 26, 3) := by decide +kernel
theorem dX7_tryFrom_108 : decode cX7_tryFrom 108 = .ok (.aload_n 0, 1) := by decide +kernel
theorem dX7_tryFrom_109 : decode cX7_tryFrom 109 = .ok (.getfield 17, 3) := by decide +kernel
theorem dX7_tryFrom_112 : decode cX7_tryFrom 112 = .ok (.iload_n 1, 1) := by decide +kernel
theorem dX7_tryFrom_113 : decode cX7_tryFrom 113 = .ok (.aaload, 1) := by decide +kernel
theorem dX7_tryFrom_114 : decode cX7_tryFrom 114 = .ok (.iload 5, 2) := by decide +kernel
theorem dX7_tryFrom_116 : decode cX7_tryFrom 116 = .ok (.iaload, 1) := by decide +kernel
theorem dX7_tryFrom_117 : decode cX7_tryFrom 117 = .ok (.aload_n 0, 1) := by decide +kernel
theorem dX7_tryFrom_118 : decode cX7_tryFrom 118 = .ok (.getfield 17, 3) := by decide +kernel
theorem dX7_tryFrom_121 : decode cX7_tryFrom 121 = .ok (.iload_n 1, 1) := by decide +kernel
theorem dX7_tryFrom_122 : decode cX7_tryFrom 122 = .ok (.aaload, 1) := by decide +kernel
theorem dX7_tryFrom_123 : decode cX7_tryFrom 123 = .ok (.iload 5, 2) := by decide +kernel
theorem dX7_tryFrom_125 : decode cX7_tryFrom 125 = .ok (.iconst 1, 1) := by decide +kernel
theorem dX7_tryFrom_126 : decode cX7_tryFrom 126 = .ok (.isub, 1) := by decide +kernel
theorem dX7_tryFrom_127 : decode cX7_tryFrom 127 = .ok (.iaload, 1) := by decide +kernel
theorem dX7_tryFrom_128 : decode cX7_tryFrom 128 = .ok (.if_icmp .le 40, 3) := by decide +kernel
theorem dX7_tryFrom_131 : decode cX7_tryFrom 131 = .ok (.aload_n 0, 1) := by decide +kernel
theorem dX7_tryFrom_132 : decode cX7_tryFrom 132 = .ok (.getfield 23, 3) := by decide +kernel
theorem dX7_tryFrom_135 : decode cX7_tryFrom 135 = .ok (.iload_n 1, 1) := by decide +kernel
theorem dX7_tryFrom_136 : decode cX7_tryFrom 136 = .ok (.iload 5, 2) := by decide +kernel
theorem dX7_tryFrom_138 : decode cX7_tryFrom 138 = .ok (.iastore, 1) := by decide +kernel
theorem dX7_tryFrom_139 : decode cX7_tryFrom 139 = .ok (.aload_n 0, 1) := by decide +kernel
theorem dX7_tryFrom_140 : decode cX7_tryFrom 140 = .ok (.iload_n 1, 1) := by decide +kernel
theorem dX7_tryFrom_141 : decode cX7_tryFrom 141 = .ok (.iconst 1, 1) := by decide +kernel
theorem dX7_tryFrom_142 : decode cX7_tryFrom 142 = .ok (.iadd, 1) := by decide +kernel
theorem dX7_tryFrom_143 : decode cX7_tryFrom 143 = .ok (.iload_n 2, 1) := by decide +kernel
theorem dX7_tryFrom_144 : decode cX7_tryFrom 144 = .ok (.iload 5, 2) := by decide +kernel
theorem dX7_tryFrom_146 : decode cX7_tryFrom 146 = .ok (.aload_n 0, 1) := by decide +kernel
theorem dX7_tryFrom_147 : decode cX7_tryFrom 147 = .ok (.getfield 9, 3) := by decide +kernel
theorem dX7_tryFrom_150 : decode cX7_tryFrom 150 = .ok (.iload_n 1, 1) := by decide +kernel
theorem dX7_tryFrom_151 : decode cX7_tryFrom 151 = .ok (.iaload, 1) := by decide +kernel
theorem dX7_tryFrom_152 : decode cX7_tryFrom 152 = .ok (.imul, 1) := by decide +kernel
theorem dX7_tryFrom_153 : decode cX7_tryFrom 153 = .ok (.iadd, 1) := by decide +kernel
theorem dX7_tryFrom_154 : decode cX7_tryFrom 154 = .ok (.iload_n 3, 1) := by decide +kernel
theorem dX7_tryFrom_155 : decode cX7_tryFrom 155 = .ok (.aload_n 0, 1) := by decide +kernel
theorem dX7_tryFrom_156 : decode cX7_tryFrom 156 = .ok (.getfield 17, 3) := by decide +kernel
theorem dX7_tryFrom_159 : decode cX7_tryFrom 159 = .ok (.iload_n 1, 1) := by decide +kernel
theorem dX7_tryFrom_160 : decode cX7_tryFrom 160 = .ok (.aaload, 1) := by decide +kernel
theorem dX7_tryFrom_161 : decode cX7_tryFrom 161 = .ok (.iload 5, 2) := by decide +kernel
theorem dX7_tryFrom_163 : decode cX7_tryFrom 163 = .ok (.iaload, 1) := by decide +kernel
theorem dX7_tryFrom_164 : decode cX7_tryFrom 164 = .ok (.iadd, 1) := by decide +kernel
theorem dX7_tryFrom_165 : decode cX7_tryFrom 165 = .ok (.invokevirtual 51, 3) := by decide +kernel
theorem dX7_tryFrom_168 : decode cX7_tryFrom 168 = .ok (.iinc 5 1, 3) := by decide +kernel
theorem dX7_tryFrom_171 : decode cX7_tryFrom 171 = .ok (.goto (-74), 3) := by decide +kernel
theorem dX7_tryFrom_174 : decode cX7_tryFrom 174 = .ok (.return_, 1) := by decide +kernel
theorem dX7_servedMore_0 : decode cX7_servedMore 0 = .ok (.aload_n 0, 1) := by decide +kernel
theorem dX7_servedMore_1 : decode cX7_servedMore 1 = .ok (.getfield 39, 3) := by decide +kernel
theorem dX7_servedMore_4 : decode cX7_servedMore 4 = .ok (.aload_n 0, 1) := by decide +kernel
theorem dX7_servedMore_5 : decode cX7_servedMore 5 = .ok (.getfield 36, 3) := by decide +kernel
theorem dX7_servedMore_8 : decode cX7_servedMore 8 = .ok (.isub, 1) := by decide +kernel
theorem dX7_servedMore_9 : decode cX7_servedMore 9 = .ok (.ireturn, 1) := by decide +kernel
theorem dX7_bought_0 : decode cX7_bought 0 = .ok (.iload_n 1, 1) := by decide +kernel
theorem dX7_bought_1 : decode cX7_bought 1 = .ok (.iconst 0, 1) := by decide +kernel
theorem dX7_bought_2 : decode cX7_bought 2 = .ok (.aload_n 0, 1) := by decide +kernel
theorem dX7_bought_3 : decode cX7_bought 3 = .ok (.getfield 29, 3) := by decide +kernel
theorem dX7_bought_6 : decode cX7_bought 6 = .ok (.iconst 1, 1) := by decide +kernel
theorem dX7_bought_7 : decode cX7_bought 7 = .ok (.isub, 1) := by decide +kernel
theorem dX7_bought_8 : decode cX7_bought 8 = .ok (.invokestatic 55, 3) := by decide +kernel
theorem dX7_bought_11 : decode cX7_bought 11 = .ok (.ifCond .eq 12, 3) := by decide +kernel
theorem dX7_bought_14 : decode cX7_bought 14 = .ok (.aload_n 0, 1) := by decide +kernel
theorem dX7_bought_15 : decode cX7_bought 15 = .ok (.getfield 26, 3) := by decide +kernel
theorem dX7_bought_18 : decode cX7_bought 18 = .ok (.iload_n 1, 1) := by decide +kernel
theorem dX7_bought_19 : decode cX7_bought 19 = .ok (.iaload, 1) := by decide +kernel
theorem dX7_bought_20 : decode cX7_bought 20 = .ok (.goto 4, 3) := by decide +kernel
theorem dX7_bought_23 : decode cX7_bought 23 = .ok (.iconst (-1), 1) := by decide +kernel
theorem dX7_bought_24 : decode cX7_bought 24 = .ok (.ireturn, 1) := by decide +kernel
theorem dX8_init_0 : decode cX8_init 0 = .ok (.aload_n 0, 1) := by decide +kernel
theorem dX8_init_1 : decode cX8_init 1 = .ok (.invokespecial 3, 3) := by decide +kernel
theorem dX8_init_4 : decode cX8_init 4 = .ok (.aload_n 0, 1) := by decide +kernel
theorem dX8_init_5 : decode cX8_init 5 = .ok (.iload_n 1, 1) := by decide +kernel
theorem dX8_init_6 : decode cX8_init 6 = .ok (.putfield 9, 3) := by decide +kernel
theorem dX8_init_9 : decode cX8_init 9 = .ok (.aload_n 0, 1) := by decide +kernel
theorem dX8_init_10 : decode cX8_init 10 = .ok (.aload_n 2, 1) := by decide +kernel
theorem dX8_init_11 : decode cX8_init 11 = .ok (.putfield 15, 3) := by decide +kernel
theorem dX8_init_14 : decode cX8_init 14 = .ok (.aload_n 0, 1) := by decide +kernel
theorem dX8_init_15 : decode cX8_init 15 = .ok (.iload_n 3, 1) := by decide +kernel
theorem dX8_init_16 : decode cX8_init 16 = .ok (.putfield 19, 3) := by decide +kernel
theorem dX8_init_19 : decode cX8_init 19 = .ok (.aload_n 0, 1) := by decide +kernel
theorem dX8_init_20 : decode cX8_init 20 = .ok (.aload_n 2, 1) := by decide +kernel
theorem dX8_init_21 : decode cX8_init 21 = .ok (.getfield 22, 3) := by decide +kernel
theorem dX8_init_24 : decode cX8_init 24 = .ok (.invokevirtual 28, 3) := by decide +kernel
theorem dX8_init_27 : decode cX8_init 27 = .ok (.checkcast 29, 3) := by decide +kernel
theorem dX8_init_30 : decode cX8_init 30 = .ok (.putfield 33, 3) := by decide +kernel
theorem dX8_init_33 : decode cX8_init 33 = .ok (.aload_n 0, 1) := by decide +kernel
theorem dX8_init_34 : decode cX8_init 34 = .ok (.bipush 20, 2) := by decide +kernel
theorem dX8_init_36 : decode cX8_init 36 = .ok (.newarray .int, 2) := by decide +kernel
theorem dX8_init_38 : decode cX8_init 38 = .ok (.putfield 36, 3) := by decide +kernel
theorem dX8_init_41 : decode cX8_init 41 = .ok (.aload_n 0, 1) := by decide +kernel
theorem dX8_init_42 : decode cX8_init 42 = .ok (.bipush 20, 2) := by decide +kernel
theorem dX8_init_44 : decode cX8_init 44 = .ok (.newarray .int, 2) := by decide +kernel
theorem dX8_init_46 : decode cX8_init 46 = .ok (.putfield 39, 3) := by decide +kernel
theorem dX8_init_49 : decode cX8_init 49 = .ok (.aload_n 0, 1) := by decide +kernel
theorem dX8_init_50 : decode cX8_init 50 = .ok (.iconst 0, 1) := by decide +kernel
theorem dX8_init_51 : decode cX8_init 51 = .ok (.putfield 42, 3) := by decide +kernel
theorem dX8_init_54 : decode cX8_init 54 = .ok (.aload_n 0, 1) := by decide +kernel
theorem dX8_init_55 : decode cX8_init 55 = .ok (.iconst (-1), 1) := by decide +kernel
theorem dX8_init_56 : decode cX8_init 56 = .ok (.putfield 45, 3) := by decide +kernel
theorem dX8_init_59 : decode cX8_init 59 = .ok (.aload_n 0, 1) := by decide +kernel
theorem dX8_init_60 : decode cX8_init 60 = .ok (.iconst (-1), 1) := by decide +kernel
theorem dX8_init_61 : decode cX8_init 61 = .ok (.putfield 48, 3) := by decide +kernel
theorem dX8_init_64 : decode cX8_init 64 = .ok (.aload_n 0, 1) := by decide +kernel
theorem dX8_init_65 : decode cX8_init 65 = .ok (.iload 4, 2) := by decide +kernel
theorem dX8_init_67 : decode cX8_init 67 = .ok (.putfield 51, 3) := by decide +kernel
theorem dX8_init_70 : decode cX8_init 70 = .ok (.return_, 1) := by decide +kernel
theorem dX8_addTerm_0 : decode cX8_addTerm 0 = .ok (.aload_n 0, 1) := by decide +kernel
theorem dX8_addTerm_1 : decode cX8_addTerm 1 = .ok (.getfield 54, 3) := by decide +kernel
theorem dX8_addTerm_4 : decode cX8_addTerm 4 = .ok (.bipush 20, 2) := by decide +kernel
theorem dX8_addTerm_6 : decode cX8_addTerm 6 = .ok (.if_icmp .lt 5, 3) := by decide +kernel
theorem dX8_addTerm_9 : decode cX8_addTerm 9 = .ok (.iconst 0, 1) := by decide +kernel
theorem dX8_addTerm_10 : decode cX8_addTerm 10 = .ok (.ireturn, 1) := by decide +kernel
theorem dX8_addTerm_11 : decode cX8_addTerm 11 = .ok (.aload_n 0, 1) := by decide +kernel
theorem dX8_addTerm_12 : decode cX8_addTerm 12 = .ok (.getfield 36, 3) := by decide +kernel
theorem dX8_addTerm_15 : decode cX8_addTerm 15 = .ok (.aload_n 0, 1) := by decide +kernel
theorem dX8_addTerm_16 : decode cX8_addTerm 16 = .ok (.getfield 54, 3) := by decide +kernel
theorem dX8_addTerm_19 : decode cX8_addTerm 19 = .ok (.iload_n 1, 1) := by decide +kernel
theorem dX8_addTerm_20 : decode cX8_addTerm 20 = .ok (.iastore, 1) := by decide +kernel
theorem dX8_addTerm_21 : decode cX8_addTerm 21 = .ok (.aload_n 0, 1) := by decide +kernel
theorem dX8_addTerm_22 : decode cX8_addTerm 22 = .ok (.getfield 39, 3) := by decide +kernel
theorem dX8_addTerm_25 : decode cX8_addTerm 25 = .ok (.aload_n 0, 1) := by decide +kernel
theorem dX8_addTerm_26 : decode cX8_addTerm 26 = .ok (.getfield 54, 3) := by decide +kernel
theorem dX8_addTerm_29 : decode cX8_addTerm 29 = .ok (.iload_n 2, 1) := by decide +kernel
theorem dX8_addTerm_30 : decode cX8_addTerm 30 = .ok (.iastore, 1) := by decide +kernel
theorem dX8_addTerm_31 : decode cX8_addTerm 31 = .ok (.aload_n 0, 1) := by decide +kernel
theorem dX8_addTerm_32 : decode cX8_addTerm 32 = .ok (.dup, 1) := by decide +kernel
theorem dX8_addTerm_33 : decode cX8_addTerm 33 = .ok (.getfield 54, 3) := by decide +kernel
theorem dX8_addTerm_36 : decode cX8_addTerm 36 = .ok (.iconst 1, 1) := by decide +kernel
theorem dX8_addTerm_37 : decode cX8_addTerm 37 = .ok (.iadd, 1) := by decide +kernel
theorem dX8_addTerm_38 : decode cX8_addTerm 38 = .ok (.putfield 54, 3) := by decide +kernel
theorem dX8_addTerm_41 : decode cX8_addTerm 41 = .ok (.iconst 1, 1) := by decide +kernel
theorem dX8_addTerm_42 : decode cX8_addTerm 42 = .ok (.ireturn, 1) := by decide +kernel
theorem dX8_termsBar_0 : decode cX8_termsBar 0 = .ok (.iconst 0, 1) := by decide +kernel
theorem dX8_termsBar_1 : decode cX8_termsBar 1 = .ok (.istore_n 3, 1) := by decide +kernel
theorem dX8_termsBar_2 : decode cX8_termsBar 2 = .ok (.iload_n 3, 1) := by decide +kernel
theorem dX8_termsBar_3 : decode cX8_termsBar 3 = .ok (.aload_n 0, 1) := by decide +kernel
theorem dX8_termsBar_4 : decode cX8_termsBar 4 = .ok (.getfield 54, 3) := by decide +kernel
theorem dX8_termsBar_7 : decode cX8_termsBar 7 = .ok (.if_icmp .ge 37, 3) := by decide +kernel
theorem dX8_termsBar_10 : decode cX8_termsBar 10 = .ok (.iload_n 3, 1) := by decide +kernel
theorem dX8_termsBar_11 : decode cX8_termsBar 11 = .ok (.bipush 20, 2) := by decide +kernel
theorem dX8_termsBar_13 : decode cX8_termsBar 13 = .ok (.if_icmp .ge 31, 3) := by decide +kernel
theorem dX8_termsBar_16 : decode cX8_termsBar 16 = .ok (.aload_n 0, 1) := by decide +kernel
theorem dX8_termsBar_17 : decode cX8_termsBar 17 = .ok (.getfield 36, 3) := by decide +kernel
theorem dX8_termsBar_20 : decode cX8_termsBar 20 = .ok (.iload_n 3, 1) := by decide +kernel
theorem dX8_termsBar_21 : decode cX8_termsBar 21 = .ok (.iaload, 1) := by decide +kernel
theorem dX8_termsBar_22 : decode cX8_termsBar 22 = .ok (.aload_n 0, 1) := by decide +kernel
theorem dX8_termsBar_23 : decode cX8_termsBar 23 = .ok (.getfield 39, 3) := by decide +kernel
theorem dX8_termsBar_26 : decode cX8_termsBar 26 = .ok (.iload_n 3, 1) := by decide +kernel
theorem dX8_termsBar_27 : decode cX8_termsBar 27 = .ok (.iaload, 1) := by decide +kernel
theorem dX8_termsBar_28 : decode cX8_termsBar 28 = .ok (.aload_n 1, 1) := by decide +kernel
theorem dX8_termsBar_29 : decode cX8_termsBar 29 = .ok (.iload_n 2, 1) := by decide +kernel
theorem dX8_termsBar_30 : decode cX8_termsBar 30 = .ok (.invokestatic 57, 3) := by decide +kernel
theorem dX8_termsBar_33 : decode cX8_termsBar 33 = .ok (.ifCond .eq 5, 3) := by decide +kernel
theorem dX8_termsBar_36 : decode cX8_termsBar 36 = .ok (.iconst 1, 1) := by decide +kernel
theorem dX8_termsBar_37 : decode cX8_termsBar 37 = .ok (.ireturn, 1) := by decide +kernel
theorem dX8_termsBar_38 : decode cX8_termsBar 38 = .ok (.iinc 3 1, 3) := by decide +kernel
theorem dX8_termsBar_41 : decode cX8_termsBar 41 = .ok (.goto (-39), 3) := by decide +kernel
theorem dX8_termsBar_44 : decode cX8_termsBar 44 = .ok (.iconst 0, 1) := by decide +kernel
theorem dX8_termsBar_45 : decode cX8_termsBar 45 = .ok (.ireturn, 1) := by decide +kernel
theorem dX8_termBars_0 : decode cX8_termBars 0 = .ok (.iload_n 0, 1) := by decide +kernel
theorem dX8_termBars_1 : decode cX8_termBars 1 = .ok (.tableswitch 66 0 2 #[27, 41, 55], 27) := by decide +kernel
theorem dX8_termBars_28 : decode cX8_termBars 28 = .ok (.aload_n 2, 1) := by decide +kernel
theorem dX8_termBars_29 : decode cX8_termBars 29 = .ok (.getfield 61, 3) := by decide +kernel
theorem dX8_termBars_32 : decode cX8_termBars 32 = .ok (.iload_n 1, 1) := by decide +kernel
theorem dX8_termBars_33 : decode cX8_termBars 33 = .ok (.if_icmp .eq 7, 3) := by decide +kernel
theorem dX8_termBars_36 : decode cX8_termBars 36 = .ok (.iconst 1, 1) := by decide +kernel
theorem dX8_termBars_37 : decode cX8_termBars 37 = .ok (.goto 4, 3) := by decide +kernel
theorem dX8_termBars_40 : decode cX8_termBars 40 = .ok (.iconst 0, 1) := by decide +kernel
theorem dX8_termBars_41 : decode cX8_termBars 41 = .ok (.ireturn, 1) := by decide +kernel
theorem dX8_termBars_42 : decode cX8_termBars 42 = .ok (.aload_n 2, 1) := by decide +kernel
theorem dX8_termBars_43 : decode cX8_termBars 43 = .ok (.getfield 66, 3) := by decide +kernel
theorem dX8_termBars_46 : decode cX8_termBars 46 = .ok (.iload_n 1, 1) := by decide +kernel
theorem dX8_termBars_47 : decode cX8_termBars 47 = .ok (.if_icmp .ne 7, 3) := by decide +kernel
theorem dX8_termBars_50 : decode cX8_termBars 50 = .ok (.iconst 1, 1) := by decide +kernel
theorem dX8_termBars_51 : decode cX8_termBars 51 = .ok (.goto 4, 3) := by decide +kernel
theorem dX8_termBars_54 : decode cX8_termBars 54 = .ok (.iconst 0, 1) := by decide +kernel
theorem dX8_termBars_55 : decode cX8_termBars 55 = .ok (.ireturn, 1) := by decide +kernel
theorem dX8_termBars_56 : decode cX8_termBars 56 = .ok (.iload_n 3, 1) := by decide +kernel
theorem dX8_termBars_57 : decode cX8_termBars 57 = .ok (.iload_n 1, 1) := by decide +kernel
theorem dX8_termBars_58 : decode cX8_termBars 58 = .ok (.if_icmp .le 7, 3) := by decide +kernel
theorem dX8_termBars_61 : decode cX8_termBars 61 = .ok (.iconst 1, 1) := by decide +kernel
theorem dX8_termBars_62 : decode cX8_termBars 62 = .ok (.goto 4, 3) := by decide +kernel
theorem dX8_termBars_65 : decode cX8_termBars 65 = .ok (.iconst 0, 1) := by decide +kernel
theorem dX8_termBars_66 : decode cX8_termBars 66 = .ok (.ireturn, 1) := by decide +kernel
theorem dX8_termBars_67 : decode cX8_termBars 67 = .ok (.aload_n 2, 1) := by decide +kernel
theorem dX8_termBars_68 : decode cX8_termBars 68 = .ok (.getfield 67, 3) := by decide +kernel
theorem dX8_termBars_71 : decode cX8_termBars 71 = .ok (.iload_n 1, 1) := by decide +kernel
theorem dX8_termBars_72 : decode cX8_termBars 72 = .ok (.if_icmp .ge 7, 3) := by decide +kernel
theorem dX8_termBars_75 : decode cX8_termBars 75 = .ok (.iconst 1, 1) := by decide +kernel
theorem dX8_termBars_76 : decode cX8_termBars 76 = .ok (.goto 4, 3) := by decide +kernel
theorem dX8_termBars_79 : decode cX8_termBars 79 = .ok (.iconst 0, 1) := by decide +kernel
theorem dX8_termBars_80 : decode cX8_termBars 80 = .ok (.ireturn, 1) := by decide +kernel
theorem dX8_goOut_0 : decode cX8_goOut 0 = .ok (.aload_n 0, 1) := by decide +kernel
theorem dX8_goOut_1 : decode cX8_goOut 1 = .ok (.iconst 1, 1) := by decide +kernel
theorem dX8_goOut_2 : decode cX8_goOut 2 = .ok (.putfield 42, 3) := by decide +kernel
theorem dX8_goOut_5 : decode cX8_goOut 5 = .ok (.aload_n 0, 1) := by decide +kernel
theorem dX8_goOut_6 : decode cX8_goOut 6 = .ok (.iload_n 1, 1) := by decide +kernel
theorem dX8_goOut_7 : decode cX8_goOut 7 = .ok (.putfield 45, 3) := by decide +kernel
theorem dX8_goOut_10 : decode cX8_goOut 10 = .ok (.aload_n 0, 1) := by decide +kernel
theorem dX8_goOut_11 : decode cX8_goOut 11 = .ok (.iload_n 2, 1) := by decide +kernel
theorem dX8_goOut_12 : decode cX8_goOut 12 = .ok (.putfield 70, 3) := by decide +kernel
theorem dX8_goOut_15 : decode cX8_goOut 15 = .ok (.aload_n 0, 1) := by decide +kernel
theorem dX8_goOut_16 : decode cX8_goOut 16 = .ok (.iload_n 3, 1) := by decide +kernel
theorem dX8_goOut_17 : decode cX8_goOut 17 = .ok (.putfield 48, 3) := by decide +kernel
theorem dX8_goOut_20 : decode cX8_goOut 20 = .ok (.aload_n 0, 1) := by decide +kernel
theorem dX8_goOut_21 : decode cX8_goOut 21 = .ok (.dup, 1) := by decide +kernel
theorem dX8_goOut_22 : decode cX8_goOut 22 = .ok (.getfield 73, 3) := by decide +kernel
theorem dX8_goOut_25 : decode cX8_goOut 25 = .ok (.iconst 1, 1) := by decide +kernel
theorem dX8_goOut_26 : decode cX8_goOut 26 = .ok (.iadd, 1) := by decide +kernel
theorem dX8_goOut_27 : decode cX8_goOut 27 = .ok (.putfield 73, 3) := by decide +kernel
theorem dX8_goOut_30 : decode cX8_goOut 30 = .ok (.return_, 1) := by decide +kernel
theorem dX8_couldHave_0 : decode cX8_couldHave 0 = .ok (.iconst 0, 1) := by decide +kernel
theorem dX8_couldHave_1 : decode cX8_couldHave 1 = .ok (.istore_n 2, 1) := by decide +kernel
theorem dX8_couldHave_2 : decode cX8_couldHave 2 = .ok (.iload_n 2, 1) := by decide +kernel
theorem dX8_couldHave_3 : decode cX8_couldHave 3 = .ok (.bipush 6, 2) := by decide +kernel
theorem dX8_couldHave_5 : decode cX8_couldHave 5 = .ok (.if_icmp .ge 29, 3) := by decide +kernel
theorem dX8_couldHave_8 : decode cX8_couldHave 8 = .ok (.iload_n 2, 1) := by decide +kernel
theorem dX8_couldHave_9 : decode cX8_couldHave 9 = .ok (.aload_n 1, 1) := by decide +kernel
theorem dX8_couldHave_10 : decode cX8_couldHave 10 = .ok (.arraylength, 1) := by decide +kernel
theorem dX8_couldHave_11 : decode cX8_couldHave 11 = .ok (.if_icmp .ge 23, 3) := by decide +kernel
theorem dX8_couldHave_14 : decode cX8_couldHave 14 = .ok (.aload_n 1, 1) := by decide +kernel
theorem dX8_couldHave_15 : decode cX8_couldHave 15 = .ok (.iload_n 2, 1) := by decide +kernel
theorem dX8_couldHave_16 : decode cX8_couldHave 16 = .ok (.iaload, 1) := by decide +kernel
theorem dX8_couldHave_17 : decode cX8_couldHave 17 = .ok (.aload_n 0, 1) := by decide +kernel
theorem dX8_couldHave_18 : decode cX8_couldHave 18 = .ok (.getfield 33, 3) := by decide +kernel
theorem dX8_couldHave_21 : decode cX8_couldHave 21 = .ok (.iload_n 2, 1) := by decide +kernel
theorem dX8_couldHave_22 : decode cX8_couldHave 22 = .ok (.iaload, 1) := by decide +kernel
theorem dX8_couldHave_23 : decode cX8_couldHave 23 = .ok (.if_icmp .le 5, 3) := by decide +kernel
theorem dX8_couldHave_26 : decode cX8_couldHave 26 = .ok (.iconst 0, 1) := by decide +kernel
theorem dX8_couldHave_27 : decode cX8_couldHave 27 = .ok (.ireturn, 1) := by decide +kernel
theorem dX8_couldHave_28 : decode cX8_couldHave 28 = .ok (.iinc 2 1, 3) := by decide +kernel
theorem dX8_couldHave_31 : decode cX8_couldHave 31 = .ok (.goto (-29), 3) := by decide +kernel
theorem dX8_couldHave_34 : decode cX8_couldHave 34 = .ok (.iconst 1, 1) := by decide +kernel
theorem dX8_couldHave_35 : decode cX8_couldHave 35 = .ok (.ireturn, 1) := by decide +kernel
theorem dX8_comeBack_0 : decode cX8_comeBack 0 = .ok (.iconst 0, 1) := by decide +kernel
theorem dX8_comeBack_1 : decode cX8_comeBack 1 = .ok (.istore_n 3, 1) := by decide +kernel
theorem dX8_comeBack_2 : decode cX8_comeBack 2 = .ok (.iconst 0, 1) := by decide +kernel
theorem dX8_comeBack_3 : decode cX8_comeBack 3 = .ok (.istore 4, 2) := by decide +kernel
theorem dX8_comeBack_5 : decode cX8_comeBack 5 = .ok (.iload 4, 2) := by decide +kernel
theorem dX8_comeBack_7 : decode cX8_comeBack 7 = .ok (.bipush 6, 2) := by decide +kernel
theorem dX8_comeBack_9 : decode cX8_comeBack 9 = .ok (.if_icmp .ge 42, 3) := by decide +kernel
theorem dX8_comeBack_12 : decode cX8_comeBack 12 = .ok (.iload 4, 2) := by decide +kernel
theorem dX8_comeBack_14 : decode cX8_comeBack 14 = .ok (.aload_n 1, 1) := by decide +kernel
theorem dX8_comeBack_15 : decode cX8_comeBack 15 = .ok (.arraylength, 1) := by decide +kernel
theorem dX8_comeBack_16 : decode cX8_comeBack 16 = .ok (.if_icmp .ge 35, 3) := by decide +kernel
theorem dX8_comeBack_19 : decode cX8_comeBack 19 = .ok (.iload_n 3, 1) := by decide +kernel
theorem dX8_comeBack_20 : decode cX8_comeBack 20 = .ok (.aload_n 0, 1) := by decide +kernel
theorem dX8_comeBack_21 : decode cX8_comeBack 21 = .ok (.getfield 33, 3) := by decide +kernel
theorem dX8_comeBack_24 : decode cX8_comeBack 24 = .ok (.iload 4, 2) := by decide +kernel
theorem dX8_comeBack_26 : decode cX8_comeBack 26 = .ok (.iaload, 1) := by decide +kernel
theorem dX8_comeBack_27 : decode cX8_comeBack 27 = .ok (.aload_n 1, 1) := by decide +kernel
theorem dX8_comeBack_28 : decode cX8_comeBack 28 = .ok (.iload 4, 2) := by decide +kernel
theorem dX8_comeBack_30 : decode cX8_comeBack 30 = .ok (.iaload, 1) := by decide +kernel
theorem dX8_comeBack_31 : decode cX8_comeBack 31 = .ok (.isub, 1) := by decide +kernel
theorem dX8_comeBack_32 : decode cX8_comeBack 32 = .ok (.iadd, 1) := by decide +kernel
theorem dX8_comeBack_33 : decode cX8_comeBack 33 = .ok (.istore_n 3, 1) := by decide +kernel
theorem dX8_comeBack_34 : decode cX8_comeBack 34 = .ok (.aload_n 0, 1) := by decide +kernel
theorem dX8_comeBack_35 : decode cX8_comeBack 35 = .ok (.getfield 33, 3) := by decide +kernel
theorem dX8_comeBack_38 : decode cX8_comeBack 38 = .ok (.iload 4, 2) := by decide +kernel
theorem dX8_comeBack_40 : decode cX8_comeBack 40 = .ok (.aload_n 1, 1) := by decide +kernel
theorem dX8_comeBack_41 : decode cX8_comeBack 41 = .ok (.iload 4, 2) := by decide +kernel
theorem dX8_comeBack_43 : decode cX8_comeBack 43 = .ok (.iaload, 1) := by decide +kernel
theorem dX8_comeBack_44 : decode cX8_comeBack 44 = .ok (.iastore, 1) := by decide +kernel
theorem dX8_comeBack_45 : decode cX8_comeBack 45 = .ok (.iinc 4 1, 3) := by decide +kernel
theorem dX8_comeBack_48 : decode cX8_comeBack 48 = .ok (.goto (-43), 3) := by decide +kernel
theorem dX8_comeBack_51 : decode cX8_comeBack 51 = .ok (.aload_n 0, 1) := by decide +kernel
theorem dX8_comeBack_52 : decode cX8_comeBack 52 = .ok (.dup, 1) := by decide +kernel
theorem dX8_comeBack_53 : decode cX8_comeBack 53 = .ok (.getfield 76, 3) := by decide +kernel
theorem dX8_comeBack_56 : decode cX8_comeBack 56 = .ok (.iconst 1, 1) := by decide +kernel
theorem dX8_comeBack_57 : decode cX8_comeBack 57 = .ok (.iload_n 2, 1) := by decide +kernel
theorem dX8_comeBack_58 : decode cX8_comeBack 58 = .ok (.aload_n 0, 1) := by decide +kernel
theorem dX8_comeBack_59 : decode cX8_comeBack 59 = .ok (.getfield 70, 3) := by decide +kernel
theorem dX8_comeBack_62 : decode cX8_comeBack 62 = .ok (.isub, 1) := by decide +kernel
theorem dX8_comeBack_63 : decode cX8_comeBack 63 = .ok (.invokestatic 79, 3) := by decide +kernel
theorem dX8_comeBack_66 : decode cX8_comeBack 66 = .ok (.iadd, 1) := by decide +kernel
theorem dX8_comeBack_67 : decode cX8_comeBack 67 = .ok (.putfield 76, 3) := by decide +kernel
theorem dX8_comeBack_70 : decode cX8_comeBack 70 = .ok (.aload_n 0, 1) := by decide +kernel
theorem dX8_comeBack_71 : decode cX8_comeBack 71 = .ok (.iload_n 2, 1) := by decide +kernel
theorem dX8_comeBack_72 : decode cX8_comeBack 72 = .ok (.putfield 51, 3) := by decide +kernel
theorem dX8_comeBack_75 : decode cX8_comeBack 75 = .ok (.iload_n 3, 1) := by decide +kernel
theorem dX8_comeBack_76 : decode cX8_comeBack 76 = .ok (.ireturn, 1) := by decide +kernel
theorem dX8_leaveFamily_0 : decode cX8_leaveFamily 0 = .ok (.aload_n 0, 1) := by decide +kernel
theorem dX8_leaveFamily_1 : decode cX8_leaveFamily 1 = .ok (.iload_n 1, 1) := by decide +kernel
theorem dX8_leaveFamily_2 : decode cX8_leaveFamily 2 = .ok (.putfield 42, 3) := by decide +kernel
theorem dX8_leaveFamily_5 : decode cX8_leaveFamily 5 = .ok (.aload_n 0, 1) := by decide +kernel
theorem dX8_leaveFamily_6 : decode cX8_leaveFamily 6 = .ok (.iconst (-1), 1) := by decide +kernel
theorem dX8_leaveFamily_7 : decode cX8_leaveFamily 7 = .ok (.putfield 45, 3) := by decide +kernel
theorem dX8_leaveFamily_10 : decode cX8_leaveFamily 10 = .ok (.aload_n 0, 1) := by decide +kernel
theorem dX8_leaveFamily_11 : decode cX8_leaveFamily 11 = .ok (.iconst (-1), 1) := by decide +kernel
theorem dX8_leaveFamily_12 : decode cX8_leaveFamily 12 = .ok (.putfield 48, 3) := by decide +kernel
theorem dX8_leaveFamily_15 : decode cX8_leaveFamily 15 = .ok (.return_, 1) := by decide +kernel
theorem dX8_isWorn_0 : decode cX8_isWorn 0 = .ok (.aload_n 0, 1) := by decide +kernel
theorem dX8_isWorn_1 : decode cX8_isWorn 1 = .ok (.getfield 76, 3) := by decide +kernel
theorem dX8_isWorn_4 : decode cX8_isWorn 4 = .ok (.aload_n 0, 1) := by decide +kernel
theorem dX8_isWorn_5 : decode cX8_isWorn 5 = .ok (.getfield 15, 3) := by decide +kernel
theorem dX8_isWorn_8 : decode cX8_isWorn 8 = .ok (.getfield 85, 3) := by decide +kernel
theorem dX8_isWorn_11 : decode cX8_isWorn 11 = .ok (.if_icmp .lt 7, 3) := by decide +kernel
theorem dX8_isWorn_14 : decode cX8_isWorn 14 = .ok (.iconst 1, 1) := by decide +kernel
theorem dX8_isWorn_15 : decode cX8_isWorn 15 = .ok (.goto 4, 3) := by decide +kernel
theorem dX8_isWorn_18 : decode cX8_isWorn 18 = .ok (.iconst 0, 1) := by decide +kernel
theorem dX8_isWorn_19 : decode cX8_isWorn 19 = .ok (.ireturn, 1) := by decide +kernel
theorem dX8_piecesTogether_0 : decode cX8_piecesTogether 0 = .ok (.iconst 0, 1) := by decide +kernel
theorem dX8_piecesTogether_1 : decode cX8_piecesTogether 1 = .ok (.istore_n 1, 1) := by decide +kernel
theorem dX8_piecesTogether_2 : decode cX8_piecesTogether 2 = .ok (.iconst 0, 1) := by decide +kernel
theorem dX8_piecesTogether_3 : decode cX8_piecesTogether 3 = .ok (.istore_n 2, 1) := by decide +kernel
theorem dX8_piecesTogether_4 : decode cX8_piecesTogether 4 = .ok (.iload_n 2, 1) := by decide +kernel
theorem dX8_piecesTogether_5 : decode cX8_piecesTogether 5 = .ok (.bipush 6, 2) := by decide +kernel
theorem dX8_piecesTogether_7 : decode cX8_piecesTogether 7 = .ok (.if_icmp .ge 18, 3) := by decide +kernel
theorem dX8_piecesTogether_10 : decode cX8_piecesTogether 10 = .ok (.iload_n 1, 1) := by decide +kernel
theorem dX8_piecesTogether_11 : decode cX8_piecesTogether 11 = .ok (.aload_n 0, 1) := by decide +kernel
theorem dX8_piecesTogether_12 : decode cX8_piecesTogether 12 = .ok (.getfield 33, 3) := by decide +kernel
theorem dX8_piecesTogether_15 : decode cX8_piecesTogether 15 = .ok (.iload_n 2, 1) := by decide +kernel
theorem dX8_piecesTogether_16 : decode cX8_piecesTogether 16 = .ok (.iaload, 1) := by decide +kernel
theorem dX8_piecesTogether_17 : decode cX8_piecesTogether 17 = .ok (.iadd, 1) := by decide +kernel
theorem dX8_piecesTogether_18 : decode cX8_piecesTogether 18 = .ok (.istore_n 1, 1) := by decide +kernel
theorem dX8_piecesTogether_19 : decode cX8_piecesTogether 19 = .ok (.iinc 2 1, 3) := by decide +kernel
theorem dX8_piecesTogether_22 : decode cX8_piecesTogether 22 = .ok (.goto (-18), 3) := by decide +kernel
theorem dX8_piecesTogether_25 : decode cX8_piecesTogether 25 = .ok (.iload_n 1, 1) := by decide +kernel
theorem dX8_piecesTogether_26 : decode cX8_piecesTogether 26 = .ok (.ireturn, 1) := by decide +kernel
theorem dX8_lacking_0 : decode cX8_lacking 0 = .ok (.iconst 0, 1) := by decide +kernel
theorem dX8_lacking_1 : decode cX8_lacking 1 = .ok (.istore_n 1, 1) := by decide +kernel
theorem dX8_lacking_2 : decode cX8_lacking 2 = .ok (.iconst 0, 1) := by decide +kernel
theorem dX8_lacking_3 : decode cX8_lacking 3 = .ok (.istore_n 2, 1) := by decide +kernel
theorem dX8_lacking_4 : decode cX8_lacking 4 = .ok (.iload_n 2, 1) := by decide +kernel
theorem dX8_lacking_5 : decode cX8_lacking 5 = .ok (.bipush 6, 2) := by decide +kernel
theorem dX8_lacking_7 : decode cX8_lacking 7 = .ok (.if_icmp .ge 28, 3) := by decide +kernel
theorem dX8_lacking_10 : decode cX8_lacking 10 = .ok (.iload_n 1, 1) := by decide +kernel
theorem dX8_lacking_11 : decode cX8_lacking 11 = .ok (.aload_n 0, 1) := by decide +kernel
theorem dX8_lacking_12 : decode cX8_lacking 12 = .ok (.getfield 15, 3) := by decide +kernel
theorem dX8_lacking_15 : decode cX8_lacking 15 = .ok (.getfield 22, 3) := by decide +kernel
theorem dX8_lacking_18 : decode cX8_lacking 18 = .ok (.iload_n 2, 1) := by decide +kernel
theorem dX8_lacking_19 : decode cX8_lacking 19 = .ok (.iaload, 1) := by decide +kernel
theorem dX8_lacking_20 : decode cX8_lacking 20 = .ok (.aload_n 0, 1) := by decide +kernel
theorem dX8_lacking_21 : decode cX8_lacking 21 = .ok (.getfield 33, 3) := by decide +kernel
theorem dX8_lacking_24 : decode cX8_lacking 24 = .ok (.iload_n 2, 1) := by decide +kernel
theorem dX8_lacking_25 : decode cX8_lacking 25 = .ok (.iaload, 1) := by decide +kernel
theorem dX8_lacking_26 : decode cX8_lacking 26 = .ok (.isub, 1) := by decide +kernel
theorem dX8_lacking_27 : decode cX8_lacking 27 = .ok (.iadd, 1) := by decide +kernel
theorem dX8_lacking_28 : decode cX8_lacking 28 = .ok (.istore_n 1, 1) := by decide +kernel
theorem dX8_lacking_29 : decode cX8_lacking 29 = .ok (.iinc 2 1, 3) := by decide +kernel
theorem dX8_lacking_32 : decode cX8_lacking 32 = .ok (.goto (-28), 3) := by decide +kernel
theorem dX8_lacking_35 : decode cX8_lacking 35 = .ok (.iload_n 1, 1) := by decide +kernel
theorem dX8_lacking_36 : decode cX8_lacking 36 = .ok (.ireturn, 1) := by decide +kernel
theorem dX8_weightOfPieces_0 : decode cX8_weightOfPieces 0 = .ok (.iconst 0, 1) := by decide +kernel
theorem dX8_weightOfPieces_1 : decode cX8_weightOfPieces 1 = .ok (.istore_n 1, 1) := by decide +kernel
theorem dX8_weightOfPieces_2 : decode cX8_weightOfPieces 2 = .ok (.iconst 0, 1) := by decide +kernel
theorem dX8_weightOfPieces_3 : decode cX8_weightOfPieces 3 = .ok (.istore_n 2, 1) := by decide +kernel
theorem dX8_weightOfPieces_4 : decode cX8_weightOfPieces 4 = .ok (.iload_n 2, 1) := by decide +kernel
theorem dX8_weightOfPieces_5 : decode cX8_weightOfPieces 5 = .ok (.bipush 6, 2) := by decide +kernel
theorem dX8_weightOfPieces_7 : decode cX8_weightOfPieces 7 = .ok (.if_icmp .ge 28, 3) := by decide +kernel
theorem dX8_weightOfPieces_10 : decode cX8_weightOfPieces 10 = .ok (.iload_n 1, 1) := by decide +kernel
theorem dX8_weightOfPieces_11 : decode cX8_weightOfPieces 11 = .ok (.aload_n 0, 1) := by decide +kernel
theorem dX8_weightOfPieces_12 : decode cX8_weightOfPieces 12 = .ok (.getfield 33, 3) := by decide +kernel
theorem dX8_weightOfPieces_15 : decode cX8_weightOfPieces 15 = .ok (.iload_n 2, 1) := by decide +kernel
theorem dX8_weightOfPieces_16 : decode cX8_weightOfPieces 16 = .ok (.iaload, 1) := by decide +kernel
theorem dX8_weightOfPieces_17 : decode cX8_weightOfPieces 17 = .ok (.aload_n 0, 1) := by decide +kernel
theorem dX8_weightOfPieces_18 : decode cX8_weightOfPieces 18 = .ok (.getfield 15, 3) := by decide +kernel
theorem dX8_weightOfPieces_21 : decode cX8_weightOfPieces 21 = .ok (.getfield 88, 3) := by decide +kernel
theorem dX8_weightOfPieces_24 : decode cX8_weightOfPieces 24 = .ok (.iload_n 2, 1) := by decide +kernel
theorem dX8_weightOfPieces_25 : decode cX8_weightOfPieces 25 = .ok (.iaload, 1) := by decide +kernel
theorem dX8_weightOfPieces_26 : decode cX8_weightOfPieces 26 = .ok (.imul, 1) := by decide +kernel
theorem dX8_weightOfPieces_27 : decode cX8_weightOfPieces 27 = .ok (.iadd, 1) := by decide +kernel
theorem dX8_weightOfPieces_28 : decode cX8_weightOfPieces 28 = .ok (.istore_n 1, 1) := by decide +kernel
theorem dX8_weightOfPieces_29 : decode cX8_weightOfPieces 29 = .ok (.iinc 2 1, 3) := by decide +kernel
theorem dX8_weightOfPieces_32 : decode cX8_weightOfPieces 32 = .ok (.goto (-28), 3) := by decide +kernel
theorem dX8_weightOfPieces_35 : decode cX8_weightOfPieces 35 = .ok (.iload_n 1, 1) := by decide +kernel
theorem dX8_weightOfPieces_36 : decode cX8_weightOfPieces 36 = .ok (.ireturn, 1) := by decide +kernel
theorem dX8_minutesToMend_0 : decode cX8_minutesToMend 0 = .ok (.iconst 0, 1) := by decide +kernel
theorem dX8_minutesToMend_1 : decode cX8_minutesToMend 1 = .ok (.istore_n 2, 1) := by decide +kernel
theorem dX8_minutesToMend_2 : decode cX8_minutesToMend 2 = .ok (.iconst 0, 1) := by decide +kernel
theorem dX8_minutesToMend_3 : decode cX8_minutesToMend 3 = .ok (.istore_n 3, 1) := by decide +kernel
theorem dX8_minutesToMend_4 : decode cX8_minutesToMend 4 = .ok (.iload_n 3, 1) := by decide +kernel
theorem dX8_minutesToMend_5 : decode cX8_minutesToMend 5 = .ok (.bipush 6, 2) := by decide +kernel
theorem dX8_minutesToMend_7 : decode cX8_minutesToMend 7 = .ok (.if_icmp .ge 38, 3) := by decide +kernel
theorem dX8_minutesToMend_10 : decode cX8_minutesToMend 10 = .ok (.iload_n 3, 1) := by decide +kernel
theorem dX8_minutesToMend_11 : decode cX8_minutesToMend 11 = .ok (.aload_n 1, 1) := by decide +kernel
theorem dX8_minutesToMend_12 : decode cX8_minutesToMend 12 = .ok (.arraylength, 1) := by decide +kernel
theorem dX8_minutesToMend_13 : decode cX8_minutesToMend 13 = .ok (.if_icmp .ge 32, 3) := by decide +kernel
theorem dX8_minutesToMend_16 : decode cX8_minutesToMend 16 = .ok (.iload_n 2, 1) := by decide +kernel
theorem dX8_minutesToMend_17 : decode cX8_minutesToMend 17 = .ok (.aload_n 0, 1) := by decide +kernel
theorem dX8_minutesToMend_18 : decode cX8_minutesToMend 18 = .ok (.getfield 15, 3) := by decide +kernel
theorem dX8_minutesToMend_21 : decode cX8_minutesToMend 21 = .ok (.getfield 22, 3) := by decide +kernel
theorem dX8_minutesToMend_24 : decode cX8_minutesToMend 24 = .ok (.iload_n 3, 1) := by decide +kernel
theorem dX8_minutesToMend_25 : decode cX8_minutesToMend 25 = .ok (.iaload, 1) := by decide +kernel
theorem dX8_minutesToMend_26 : decode cX8_minutesToMend 26 = .ok (.aload_n 0, 1) := by decide +kernel
theorem dX8_minutesToMend_27 : decode cX8_minutesToMend 27 = .ok (.getfield 33, 3) := by decide +kernel
theorem dX8_minutesToMend_30 : decode cX8_minutesToMend 30 = .ok (.iload_n 3, 1) := by decide +kernel
theorem dX8_minutesToMend_31 : decode cX8_minutesToMend 31 = .ok (.iaload, 1) := by decide +kernel
theorem dX8_minutesToMend_32 : decode cX8_minutesToMend 32 = .ok (.isub, 1) := by decide +kernel
theorem dX8_minutesToMend_33 : decode cX8_minutesToMend 33 = .ok (.aload_n 1, 1) := by decide +kernel
theorem dX8_minutesToMend_34 : decode cX8_minutesToMend 34 = .ok (.iload_n 3, 1) := by decide +kernel
theorem dX8_minutesToMend_35 : decode cX8_minutesToMend 35 = .ok (.iaload, 1) := by decide +kernel
theorem dX8_minutesToMend_36 : decode cX8_minutesToMend 36 = .ok (.imul, 1) := by decide +kernel
theorem dX8_minutesToMend_37 : decode cX8_minutesToMend 37 = .ok (.iadd, 1) := by decide +kernel
theorem dX8_minutesToMend_38 : decode cX8_minutesToMend 38 = .ok (.istore_n 2, 1) := by decide +kernel
theorem dX8_minutesToMend_39 : decode cX8_minutesToMend 39 = .ok (.iinc 3 1, 3) := by decide +kernel
theorem dX8_minutesToMend_42 : decode cX8_minutesToMend 42 = .ok (.goto (-38), 3) := by decide +kernel
theorem dX8_minutesToMend_45 : decode cX8_minutesToMend 45 = .ok (.iload_n 2, 1) := by decide +kernel
theorem dX8_minutesToMend_46 : decode cX8_minutesToMend 46 = .ok (.ireturn, 1) := by decide +kernel
theorem dX8_makeWhole_0 : decode cX8_makeWhole 0 = .ok (.aload_n 0, 1) := by decide +kernel
theorem dX8_makeWhole_1 : decode cX8_makeWhole 1 = .ok (.getfield 15, 3) := by decide +kernel
theorem dX8_makeWhole_4 : decode cX8_makeWhole 4 = .ok (.getfield 22, 3) := by decide +kernel
theorem dX8_makeWhole_7 : decode cX8_makeWhole 7 = .ok (.iconst 0, 1) := by decide +kernel
theorem dX8_makeWhole_8 : decode cX8_makeWhole 8 = .ok (.aload_n 0, 1) := by decide +kernel
theorem dX8_makeWhole_9 : decode cX8_makeWhole 9 = .ok (.getfield 33, 3) := by decide +kernel
theorem dX8_makeWhole_12 : decode cX8_makeWhole 12 = .ok (.iconst 0, 1) := by decide +kernel
theorem dX8_makeWhole_13 : decode cX8_makeWhole 13 = .ok (.bipush 6, 2) := by decide +kernel
theorem dX8_makeWhole_15 : decode cX8_makeWhole 15 = .ok (.invokestatic 91, 3) := by decide +kernel
theorem dX8_makeWhole_18 : decode cX8_makeWhole 18 = .ok (.return_, 1) := by decide +kernel
theorem dX9_init_0 : decode cX9_init 0 = .ok (.aload_n 0, 1) := by decide +kernel
theorem dX9_init_1 : decode cX9_init 1 = .ok (.invokespecial 3, 3) := by decide +kernel
theorem dX9_init_4 : decode cX9_init 4 = .ok (.aload_n 0, 1) := by decide +kernel
theorem dX9_init_5 : decode cX9_init 5 = .ok (.bipush 6, 2) := by decide +kernel
theorem dX9_init_7 : decode cX9_init 7 = .ok (.newarray .int, 2) := by decide +kernel
theorem dX9_init_9 : decode cX9_init 9 = .ok (.putfield 9, 3) := by decide +kernel
theorem dX9_init_12 : decode cX9_init 12 = .ok (.aload_n 0, 1) := by decide +kernel
theorem dX9_init_13 : decode cX9_init 13 = .ok (.bipush 6, 2) := by decide +kernel
theorem dX9_init_15 : decode cX9_init 15 = .ok (.newarray .int, 2) := by decide +kernel
theorem dX9_init_17 : decode cX9_init 17 = .ok (.putfield 15, 3) := by decide +kernel
theorem dX9_init_20 : decode cX9_init 20 = .ok (.aload_n 0, 1) := by decide +kernel
theorem dX9_init_21 : decode cX9_init 21 = .ok (.bipush 7, 2) := by decide +kernel
theorem dX9_init_23 : decode cX9_init 23 = .ok (.newarray .int, 2) := by decide +kernel
theorem dX9_init_25 : decode cX9_init 25 = .ok (.putfield 18, 3) := by decide +kernel
theorem dX9_init_28 : decode cX9_init 28 = .ok (.aload_n 0, 1) := by decide +kernel
theorem dX9_init_29 : decode cX9_init 29 = .ok (.bipush 7, 2) := by decide +kernel
theorem dX9_init_31 : decode cX9_init 31 = .ok (.newarray .int, 2) := by decide +kernel
theorem dX9_init_33 : decode cX9_init 33 = .ok (.putfield 21, 3) := by decide +kernel
theorem dX9_init_36 : decode cX9_init 36 = .ok (.aload_n 0, 1) := by decide +kernel
theorem dX9_init_37 : decode cX9_init 37 = .ok (.bipush 7, 2) := by decide +kernel
theorem dX9_init_39 : decode cX9_init 39 = .ok (.newarray .int, 2) := by decide +kernel
theorem dX9_init_41 : decode cX9_init 41 = .ok (.putfield 24, 3) := by decide +kernel
theorem dX9_init_44 : decode cX9_init 44 = .ok (.aload_n 0, 1) := by decide +kernel
theorem dX9_init_45 : decode cX9_init 45 = .ok (.getfield 21, 3) := by decide +kernel
theorem dX9_init_48 : decode cX9_init 48 = .ok (.bipush 6, 2) := by decide +kernel
theorem dX9_init_50 : decode cX9_init 50 = .ok (.iconst 1, 1) := by decide +kernel
theorem dX9_init_51 : decode cX9_init 51 = .ok (.iastore, 1) := by decide +kernel
theorem dX9_init_52 : decode cX9_init 52 = .ok (.return_, 1) := by decide +kernel
theorem dX9_search_0 : decode cX9_search 0 = .ok (.aload_n 0, 1) := by decide +kernel
theorem dX9_search_1 : decode cX9_search 1 = .ok (.iload_n 2, 1) := by decide +kernel
theorem dX9_search_2 : decode cX9_search 2 = .ok (.iload_n 3, 1) := by decide +kernel
theorem dX9_search_3 : decode cX9_search 3 = .ok (.isub, 1) := by decide +kernel
theorem dX9_search_4 : decode cX9_search 4 = .ok (.putfield 27, 3) := by decide +kernel
theorem dX9_search_7 : decode cX9_search 7 = .ok (.aload_n 0, 1) := by decide +kernel
theorem dX9_search_8 : decode cX9_search 8 = .ok (.iload_n 2, 1) := by decide +kernel
theorem dX9_search_9 : decode cX9_search 9 = .ok (.iload_n 3, 1) := by decide +kernel
theorem dX9_search_10 : decode cX9_search 10 = .ok (.iadd, 1) := by decide +kernel
theorem dX9_search_11 : decode cX9_search 11 = .ok (.putfield 31, 3) := by decide +kernel
theorem dX9_search_14 : decode cX9_search 14 = .ok (.aload_n 0, 1) := by decide +kernel
theorem dX9_search_15 : decode cX9_search 15 = .ok (.iconst 0, 1) := by decide +kernel
theorem dX9_search_16 : decode cX9_search 16 = .ok (.putfield 34, 3) := by decide +kernel
theorem dX9_search_19 : decode cX9_search 19 = .ok (.aload_n 0, 1) := by decide +kernel
theorem dX9_search_20 : decode cX9_search 20 = .ok (.iconst 0, 1) := by decide +kernel
theorem dX9_search_21 : decode cX9_search 21 = .ok (.putfield 37, 3) := by decide +kernel
theorem dX9_search_24 : decode cX9_search 24 = .ok (.aload_n 0, 1) := by decide +kernel
theorem dX9_search_25 : decode cX9_search 25 = .ok (.iconst 0, 1) := by decide +kernel
theorem dX9_search_26 : decode cX9_search 26 = .ok (.putfield 40, 3) := by decide +kernel
theorem dX9_search_29 : decode cX9_search 29 = .ok (.aload_n 0, 1) := by decide +kernel
theorem dX9_search_30 : decode cX9_search 30 = .ok (.iconst 0, 1) := by decide +kernel
theorem dX9_search_31 : decode cX9_search 31 = .ok (.putfield 43, 3) := by decide +kernel
theorem dX9_search_34 : decode cX9_search 34 = .ok (.iconst 5, 1) := by decide +kernel
theorem dX9_search_35 : decode cX9_search 35 = .ok (.istore 4, 2) := by decide +kernel
theorem dX9_search_37 : decode cX9_search 37 = .ok (.iload 4, 2) := by decide +kernel
theorem dX9_search_39 : decode cX9_search 39 = .ok (.ifCond .lt 107, 3) := by decide +kernel
theorem dX9_search_42 : decode cX9_search 42 = .ok (.aload_n 1, 1) := by decide +kernel
theorem dX9_search_43 : decode cX9_search 43 = .ok (.getfield 46, 3) := by decide +kernel
theorem dX9_search_46 : decode cX9_search 46 = .ok (.iload 4, 2) := by decide +kernel
theorem dX9_search_48 : decode cX9_search 48 = .ok (.iaload, 1) := by decide +kernel
theorem dX9_search_49 : decode cX9_search 49 = .ok (.istore 5, 2) := by decide +kernel
theorem dX9_search_51 : decode cX9_search 51 = .ok (.aload_n 0, 1) := by decide +kernel
theorem dX9_search_52 : decode cX9_search 52 = .ok (.getfield 18, 3) := by decide +kernel
theorem dX9_search_55 : decode cX9_search 55 = .ok (.iload 4, 2) := by decide +kernel
theorem dX9_search_57 : decode cX9_search 57 = .ok (.aload_n 0, 1) := by decide +kernel
theorem dX9_search_58 : decode cX9_search 58 = .ok (.getfield 18, 3) := by decide +kernel
theorem dX9_search_61 : decode cX9_search 61 = .ok (.iload 4, 2) := by decide +kernel
theorem dX9_search_63 : decode cX9_search 63 = .ok (.iconst 1, 1) := by decide +kernel
theorem dX9_search_64 : decode cX9_search 64 = .ok (.iadd, 1) := by decide +kernel
theorem dX9_search_65 : decode cX9_search 65 = .ok (.iaload, 1) := by decide +kernel
theorem dX9_search_66 : decode cX9_search 66 = .ok (.iload 5, 2) := by decide +kernel
theorem dX9_search_68 : decode cX9_search 68 = .ok (.aload_n 1, 1) := by decide +kernel
theorem dX9_search_69 : decode cX9_search 69 = .ok (.getfield 51, 3) := by decide +kernel
theorem dX9_search_72 : decode cX9_search 72 = .ok (.getfield 55, 3) := by decide +kernel
theorem dX9_search_75 : decode cX9_search 75 = .ok (.iload 4, 2) := by decide +kernel
theorem dX9_search_77 : decode cX9_search 77 = .ok (.iaload, 1) := by decide +kernel
theorem dX9_search_78 : decode cX9_search 78 = .ok (.imul, 1) := by decide +kernel
theorem dX9_search_79 : decode cX9_search 79 = .ok (.iadd, 1) := by decide +kernel
theorem dX9_search_80 : decode cX9_search 80 = .ok (.iastore, 1) := by decide +kernel
theorem dX9_search_81 : decode cX9_search 81 = .ok (.aload_n 0, 1) := by decide +kernel
theorem dX9_search_82 : decode cX9_search 82 = .ok (.getfield 21, 3) := by decide +kernel
theorem dX9_search_85 : decode cX9_search 85 = .ok (.iload 4, 2) := by decide +kernel
theorem dX9_search_87 : decode cX9_search 87 = .ok (.aload_n 0, 1) := by decide +kernel
theorem dX9_search_88 : decode cX9_search 88 = .ok (.getfield 21, 3) := by decide +kernel
theorem dX9_search_91 : decode cX9_search 91 = .ok (.iload 4, 2) := by decide +kernel
theorem dX9_search_93 : decode cX9_search 93 = .ok (.iconst 1, 1) := by decide +kernel
theorem dX9_search_94 : decode cX9_search 94 = .ok (.iadd, 1) := by decide +kernel
theorem dX9_search_95 : decode cX9_search 95 = .ok (.iaload, 1) := by decide +kernel
theorem dX9_search_96 : decode cX9_search 96 = .ok (.iload 5, 2) := by decide +kernel
theorem dX9_search_98 : decode cX9_search 98 = .ok (.iconst 1, 1) := by decide +kernel
theorem dX9_search_99 : decode cX9_search 99 = .ok (.iadd, 1) := by decide +kernel
theorem dX9_search_100 : decode cX9_search 100 = .ok (.imul, 1) := by decide +kernel
theorem dX9_search_101 : decode cX9_search 101 = .ok (.iastore, 1) := by decide +kernel
theorem dX9_search_102 : decode cX9_search 102 = .ok (.aload_n 0, 1) := by decide +kernel
theorem dX9_search_103 : decode cX9_search 103 = .ok (.getfield 24, 3) := by decide +kernel
theorem dX9_search_106 : decode cX9_search 106 = .ok (.iload 4, 2) := by decide +kernel
theorem dX9_search_108 : decode cX9_search 108 = .ok (.iload 5, 2) := by decide +kernel
theorem dX9_search_110 : decode cX9_search 110 = .ok (.ifCond .ne 15, 3) := by decide +kernel
theorem dX9_search_113 : decode cX9_search 113 = .ok (.aload_n 0, 1) := by decide +kernel
theorem dX9_search_114 : decode cX9_search 114 = .ok (.getfield 24, 3) := by decide +kernel
theorem dX9_search_117 : decode cX9_search 117 = .ok (.iload 4, 2) := by decide +kernel
theorem dX9_search_119 : decode cX9_search 119 = .ok (.iconst 1, 1) := by decide +kernel
theorem dX9_search_120 : decode cX9_search 120 = .ok (.iadd, 1) := by decide +kernel
theorem dX9_search_121 : decode cX9_search 121 = .ok (.iaload, 1) := by decide +kernel
theorem dX9_search_122 : decode cX9_search 122 = .ok (.goto 17, 3) := by decide +kernel
theorem dX9_search_125 : decode cX9_search 125 = .ok (.aload_n 0, 1) := by decide +kernel
theorem dX9_search_126 : decode cX9_search 126 = .ok (.getfield 24, 3) := by decide +kernel
theorem dX9_search_129 : decode cX9_search 129 = .ok (.iload 4, 2) := by decide +kernel
theorem dX9_search_131 : decode cX9_search 131 = .ok (.iconst 1, 1) := by decide +kernel
theorem dX9_search_132 : decode cX9_search 132 = .ok (.iadd, 1) := by decide +kernel
theorem dX9_search_133 : decode cX9_search 133 = .ok (.iaload, 1) := by decide +kernel
theorem dX9_search_134 : decode cX9_search 134 = .ok (.iconst 1, 1) := by decide +kernel
theorem dX9_search_135 : decode cX9_search 135 = .ok (.iload 4, 2) := by decide +kernel
theorem dX9_search_137 : decode cX9_search 137 = .ok (.ishl, 1) := by decide +kernel
theorem dX9_search_138 : decode cX9_search 138 = .ok (.ior, 1) := by decide +kernel
theorem dX9_search_139 : decode cX9_search 139 = .ok (.iastore, 1) := by decide +kernel
theorem dX9_search_140 : decode cX9_search 140 = .ok (.iinc 4 (-1), 3) := by decide +kernel
theorem dX9_search_143 : decode cX9_search 143 = .ok (.goto (-106), 3) := by decide +kernel
theorem dX9_search_146 : decode cX9_search 146 = .ok (.aload_n 0, 1) := by decide +kernel
theorem dX9_search_147 : decode cX9_search 147 = .ok (.aload_n 1, 1) := by decide +kernel
theorem dX9_search_148 : decode cX9_search 148 = .ok (.iconst 0, 1) := by decide +kernel
theorem dX9_search_149 : decode cX9_search 149 = .ok (.iconst 0, 1) := by decide +kernel
theorem dX9_search_150 : decode cX9_search 150 = .ok (.iconst 0, 1) := by decide +kernel
theorem dX9_search_151 : decode cX9_search 151 = .ok (.iconst 0, 1) := by decide +kernel
theorem dX9_search_152 : decode cX9_search 152 = .ok (.invokevirtual 60, 3) := by decide +kernel
theorem dX9_search_155 : decode cX9_search 155 = .ok (.return_, 1) := by decide +kernel
theorem dX9_tryFrom_0 : decode cX9_tryFrom 0 = .ok (.iload_n 3, 1) := by decide +kernel
theorem dX9_tryFrom_1 : decode cX9_tryFrom 1 = .ok (.aload_n 0, 1) := by decide +kernel
theorem dX9_tryFrom_2 : decode cX9_tryFrom 2 = .ok (.getfield 31, 3) := by decide +kernel
theorem dX9_tryFrom_5 : decode cX9_tryFrom 5 = .ok (.if_icmp .gt 28, 3) := by decide +kernel
theorem dX9_tryFrom_8 : decode cX9_tryFrom 8 = .ok (.iload_n 2, 1) := by decide +kernel
theorem dX9_tryFrom_9 : decode cX9_tryFrom 9 = .ok (.iconst 0, 1) := by decide +kernel
theorem dX9_tryFrom_10 : decode cX9_tryFrom 10 = .ok (.bipush 6, 2) := by decide +kernel
theorem dX9_tryFrom_12 : decode cX9_tryFrom 12 = .ok (.invokestatic 64, 3) := by decide +kernel
theorem dX9_tryFrom_15 : decode cX9_tryFrom 15 = .ok (.ifCond .eq 18, 3) := by decide +kernel
theorem dX9_tryFrom_18 : decode cX9_tryFrom 18 = .ok (.iload_n 3, 1) := by decide +kernel
theorem dX9_tryFrom_19 : decode cX9_tryFrom 19 = .ok (.aload_n 0, 1) := by decide +kernel
theorem dX9_tryFrom_20 : decode cX9_tryFrom 20 = .ok (.getfield 18, 3) := by decide +kernel
theorem dX9_tryFrom_23 : decode cX9_tryFrom 23 = .ok (.iload_n 2, 1) := by decide +kernel
theorem dX9_tryFrom_24 : decode cX9_tryFrom 24 = .ok (.iaload, 1) := by decide +kernel
theorem dX9_tryFrom_25 : decode cX9_tryFrom 25 = .ok (.iadd, 1) := by decide +kernel
theorem dX9_tryFrom_26 : decode cX9_tryFrom 26 = .ok (.aload_n 0, 1) := by decide +kernel
theorem dX9_tryFrom_27 : decode cX9_tryFrom 27 = .ok (.getfield 27, 3) := by decide +kernel
theorem dX9_tryFrom_30 : decode cX9_tryFrom 30 = .ok (.if_icmp .ge 4, 3) := by decide +kernel
theorem dX9_tryFrom_33 : decode cX9_tryFrom 33 = .ok (.return_, 1) := by decide +kernel
theorem dX9_tryFrom_34 : decode cX9_tryFrom 34 = .ok (.iload_n 3, 1) := by decide +kernel
theorem dX9_tryFrom_35 : decode cX9_tryFrom 35 = .ok (.aload_n 0, 1) := by decide +kernel
theorem dX9_tryFrom_36 : decode cX9_tryFrom 36 = .ok (.getfield 27, 3) := by decide +kernel
theorem dX9_tryFrom_39 : decode cX9_tryFrom 39 = .ok (.if_icmp .lt 18, 3) := by decide +kernel
theorem dX9_tryFrom_42 : decode cX9_tryFrom 42 = .ok (.iload_n 3, 1) := by decide +kernel
theorem dX9_tryFrom_43 : decode cX9_tryFrom 43 = .ok (.aload_n 0, 1) := by decide +kernel
theorem dX9_tryFrom_44 : decode cX9_tryFrom 44 = .ok (.getfield 18, 3) := by decide +kernel
theorem dX9_tryFrom_47 : decode cX9_tryFrom 47 = .ok (.iload_n 2, 1) := by decide +kernel
theorem dX9_tryFrom_48 : decode cX9_tryFrom 48 = .ok (.iaload, 1) := by decide +kernel
theorem dX9_tryFrom_49 : decode cX9_tryFrom 49 = .ok (.iadd, 1) := by decide +kernel
theorem dX9_tryFrom_50 : decode cX9_tryFrom 50 = .ok (.aload_n 0, 1) := by decide +kernel
theorem dX9_tryFrom_51 : decode cX9_tryFrom 51 = .ok (.getfield 31, 3) := by decide +kernel
theorem dX9_tryFrom_54 : decode cX9_tryFrom 54 = .ok (.if_icmp .le 9, 3) := by decide +kernel
theorem dX9_tryFrom_57 : decode cX9_tryFrom 57 = .ok (.iload_n 2, 1) := by decide +kernel
theorem dX9_tryFrom_58 : decode cX9_tryFrom 58 = .ok (.bipush 6, 2) := by decide +kernel
theorem dX9_tryFrom_60 : decode cX9_tryFrom 60 = .ok (.if_icmp .ne 13, 3) := by decide +kernel
theorem dX9_tryFrom_63 : decode cX9_tryFrom 63 = .ok (.aload_n 0, 1) := by decide +kernel
theorem dX9_tryFrom_64 : decode cX9_tryFrom 64 = .ok (.iload_n 2, 1) := by decide +kernel
theorem dX9_tryFrom_65 : decode cX9_tryFrom 65 = .ok (.iload 4, 2) := by decide +kernel
theorem dX9_tryFrom_67 : decode cX9_tryFrom 67 = .ok (.iload 5, 2) := by decide +kernel
theorem dX9_tryFrom_69 : decode cX9_tryFrom 69 = .ok (.invokevirtual 68, 3) := by decide +kernel
theorem dX9_tryFrom_72 : decode cX9_tryFrom 72 = .ok (.return_, 1) := by decide +kernel
theorem dX9_tryFrom_73 : decode cX9_tryFrom 73 = .ok (.iconst 0, 1) := by decide +kernel
theorem dX9_tryFrom_74 : decode cX9_tryFrom 74 = .ok (.istore 6, 2) := by decide +kernel
theorem dX9_tryFrom_76 : decode cX9_tryFrom 76 = .ok (.iload 6, 2) := by decide +kernel
theorem dX9_tryFrom_78 : decode cX9_tryFrom 78 = .ok (.aload_n 1, 1) := by decide +kernel
theorem dX9_tryFrom_79 : decode cX9_tryFrom 79 = .ok (.getfield 46, 3) := by decide +kernel
theorem dX9_tryFrom_82 : decode cX9_tryFrom 82 = .ok (.iload_n 2, 1) := by decide +kernel
theorem dX9_tryFrom_83 : decode cX9_tryFrom 83 = .ok (.iaload, 1) := by decide +kernel
theorem dX9_tryFrom_84 : decode cX9_tryFrom 84 = .ok (.if_icmp .gt 64, 3) := by decide +kernel
theorem dX9_tryFrom_87 : decode cX9_tryFrom 87 = .ok (.aload_n 0, 1) := by decide +kernel
theorem dX9_tryFrom_88 : decode cX9_tryFrom 88 = .ok (.getfield 9, 3) := by decide +kernel
theorem dX9_tryFrom_91 : decode cX9_tryFrom 91 = .ok (.iload_n 2, 1) := by decide +kernel
theorem dX9_tryFrom_92 : decode cX9_tryFrom 92 = .ok (.iload 6, 2) := by decide +kernel
theorem dX9_tryFrom_94 : decode cX9_tryFrom 94 = .ok (.iastore, 1) := by decide +kernel
theorem dX9_tryFrom_95 : decode cX9_tryFrom 95 = .ok (.iload 6, 2) := by decide +kernel
theorem dX9_tryFrom_97 : decode cX9_tryFrom 97 = .ok (.ifCond .ne 8, 3) := by decide +kernel
theorem dX9_tryFrom_100 : decode cX9_tryFrom 100 = .ok (.iload 5, 2) := by decide +kernel
theorem dX9_tryFrom_102 : decode cX9_tryFrom 102 = .ok (.goto 9, 3) := by decide +kernel
theorem dX9_tryFrom_105 : decode cX9_tryFrom 105 = .ok (.iload 5, 2) := by decide +kernel
theorem dX9_tryFrom_107 : decode cX9_tryFrom 107 = .ok (.iconst 1, 1) := by decide +kernel
theorem dX9_tryFrom_108 : decode cX9_tryFrom 108 = .ok (.iload_n 2, 1) := by decide +kernel
theorem dX9_tryFrom_109 : decode cX9_tryFrom 109 = .ok (.ishl, 1) := by decide +kernel
theorem dX9_tryFrom_110 : decode cX9_tryFrom 110 = .ok (.ior, 1) := by decide +kernel
theorem dX9_tryFrom_111 : decode cX9_tryFrom 111 = .ok (.istore 7, 2) := by decide +kernel
theorem dX9_tryFrom_113 : decode cX9_tryFrom 113 = .ok (.aload_n 0, 1) := by decide +kernel
theorem dX9_tryFrom_114 : decode cX9_tryFrom 114 = .ok (.aload_n 1, 1) := by decide +kernel
theorem dX9_tryFrom_115 : decode cX9_tryFrom 115 = .ok (.iload_n 2, 1) := by decide +kernel
theorem dX9_tryFrom_116 : decode cX9_tryFrom 116 = .ok (.iconst 1, 1) := by decide +kernel
theorem dX9_tryFrom_117 : decode cX9_tryFrom 117 = .ok (.iadd, 1) := by decide +kernel
theorem dX9_tryFrom_118 : decode cX9_tryFrom 118 = .ok (.iload_n 3, 1) := by decide +kernel
theorem dX9_tryFrom_119 : decode cX9_tryFrom 119 = .ok (.iload 6, 2) := by decide +kernel
theorem dX9_tryFrom_121 : decode cX9_tryFrom 121 = .ok (.aload_n 1, 1) := by decide +kernel
theorem dX9_tryFrom_122 : decode cX9_tryFrom 122 = .ok (.getfield 51, 3) := by decide +kernel
theorem dX9_tryFrom_125 : decode cX9_tryFrom 125 = .ok (.getfield 55, 3) := by decide +kernel
theorem dX9_tryFrom_128 : decode cX9_tryFrom 128 = .ok (.iload_n 2, 1) := by decide +kernel
theorem dX9_tryFrom_129 : decode cX9_tryFrom 129 = .ok (.iaload, 1) := by decide +kernel
theorem dX9_tryFrom_130 : decode cX9_tryFrom 130 = .ok (.imul, 1) := by decide +kernel
theorem dX9_tryFrom_131 : decode cX9_tryFrom 131 = .ok (.iadd, 1) := by decide +kernel
theorem dX9_tryFrom_132 : decode cX9_tryFrom 132 = .ok (.iload 4, 2) := by decide +kernel
theorem dX9_tryFrom_134 : decode cX9_tryFrom 134 = .ok (.iload 6, 2) := by decide +kernel
theorem dX9_tryFrom_136 : decode cX9_tryFrom 136 = .ok (.iadd, 1) := by decide +kernel
theorem dX9_tryFrom_137 : decode cX9_tryFrom 137 = .ok (.iload 7, 2) := by decide +kernel
theorem dX9_tryFrom_139 : decode cX9_tryFrom 139 = .ok (.invokevirtual 60, 3) := by decide +kernel
theorem dX9_tryFrom_142 : decode cX9_tryFrom 142 = .ok (.iinc 6 1, 3) := by decide +kernel
theorem dX9_tryFrom_145 : decode cX9_tryFrom 145 = .ok (.goto (-69), 3) := by decide +kernel
theorem dX9_tryFrom_148 : decode cX9_tryFrom 148 = .ok (.return_, 1) := by decide +kernel
theorem dX9_keepAllFrom_0 : decode cX9_keepAllFrom 0 = .ok (.aload_n 0, 1) := by decide +kernel
theorem dX9_keepAllFrom_1 : decode cX9_keepAllFrom 1 = .ok (.getfield 34, 3) := by decide +kernel
theorem dX9_keepAllFrom_4 : decode cX9_keepAllFrom 4 = .ok (.ifCond .eq 11, 3) := by decide +kernel
theorem dX9_keepAllFrom_7 : decode cX9_keepAllFrom 7 = .ok (.iload_n 2, 1) := by decide +kernel
theorem dX9_keepAllFrom_8 : decode cX9_keepAllFrom 8 = .ok (.aload_n 0, 1) := by decide +kernel
theorem dX9_keepAllFrom_9 : decode cX9_keepAllFrom 9 = .ok (.getfield 37, 3) := by decide +kernel
theorem dX9_keepAllFrom_12 : decode cX9_keepAllFrom 12 = .ok (.if_icmp .ge 30, 3) := by decide +kernel
theorem dX9_keepAllFrom_15 : decode cX9_keepAllFrom 15 = .ok (.aload_n 0, 1) := by decide +kernel
theorem dX9_keepAllFrom_16 : decode cX9_keepAllFrom 16 = .ok (.iload_n 2, 1) := by decide +kernel
theorem dX9_keepAllFrom_17 : decode cX9_keepAllFrom 17 = .ok (.putfield 37, 3) := by decide +kernel
theorem dX9_keepAllFrom_20 : decode cX9_keepAllFrom 20 = .ok (.aload_n 0, 1) := by decide +kernel
theorem dX9_keepAllFrom_21 : decode cX9_keepAllFrom 21 = .ok (.getfield 15, 3) := by decide +kernel
theorem dX9_keepAllFrom_24 : decode cX9_keepAllFrom 24 = .ok (.iconst 0, 1) := by decide +kernel
theorem dX9_keepAllFrom_25 : decode cX9_keepAllFrom 25 = .ok (.invokestatic 72, 3) := by decide +kernel
theorem dX9_keepAllFrom_28 : decode cX9_keepAllFrom 28 = .ok (.aload_n 0, 1) := by decide +kernel
theorem dX9_keepAllFrom_29 : decode cX9_keepAllFrom 29 = .ok (.getfield 9, 3) := by decide +kernel
theorem dX9_keepAllFrom_32 : decode cX9_keepAllFrom 32 = .ok (.iconst 0, 1) := by decide +kernel
theorem dX9_keepAllFrom_33 : decode cX9_keepAllFrom 33 = .ok (.aload_n 0, 1) := by decide +kernel
theorem dX9_keepAllFrom_34 : decode cX9_keepAllFrom 34 = .ok (.getfield 15, 3) := by decide +kernel
theorem dX9_keepAllFrom_37 : decode cX9_keepAllFrom 37 = .ok (.iconst 0, 1) := by decide +kernel
theorem dX9_keepAllFrom_38 : decode cX9_keepAllFrom 38 = .ok (.iload_n 1, 1) := by decide +kernel
theorem dX9_keepAllFrom_39 : decode cX9_keepAllFrom 39 = .ok (.invokestatic 78, 3) := by decide +kernel
theorem dX9_keepAllFrom_42 : decode cX9_keepAllFrom 42 = .ok (.aload_n 0, 1) := by decide +kernel
theorem dX9_keepAllFrom_43 : decode cX9_keepAllFrom 43 = .ok (.dup, 1) := by decide +kernel
theorem dX9_keepAllFrom_44 : decode cX9_keepAllFrom 44 = .ok (.getfield 34, 3) := by decide +kernel
theorem dX9_keepAllFrom_47 : decode cX9_keepAllFrom 47 = .ok (.aload_n 0, 1) := by decide +kernel
theorem dX9_keepAllFrom_48 : decode cX9_keepAllFrom 48 = .ok (.getfield 21, 3) := by decide +kernel
theorem dX9_keepAllFrom_51 : decode cX9_keepAllFrom 51 = .ok (.iload_n 1, 1) := by decide +kernel
theorem dX9_keepAllFrom_52 : decode cX9_keepAllFrom 52 = .ok (.iaload, 1) := by decide +kernel
theorem dX9_keepAllFrom_53 : decode cX9_keepAllFrom 53 = .ok (.iadd, 1) := by decide +kernel
theorem dX9_keepAllFrom_54 : decode cX9_keepAllFrom 54 = .ok (.putfield 34, 3) := by decide +kernel
theorem dX9_keepAllFrom_57 : decode cX9_keepAllFrom 57 = .ok (.aload_n 0, 1) := by decide +kernel
theorem dX9_keepAllFrom_58 : decode cX9_keepAllFrom 58 = .ok (.dup, 1) := by decide +kernel
theorem dX9_keepAllFrom_59 : decode cX9_keepAllFrom 59 = .ok (.getfield 40, 3) := by decide +kernel
theorem dX9_keepAllFrom_62 : decode cX9_keepAllFrom 62 = .ok (.iload_n 3, 1) := by decide +kernel
theorem dX9_keepAllFrom_63 : decode cX9_keepAllFrom 63 = .ok (.aload_n 0, 1) := by decide +kernel
theorem dX9_keepAllFrom_64 : decode cX9_keepAllFrom 64 = .ok (.getfield 24, 3) := by decide +kernel
theorem dX9_keepAllFrom_67 : decode cX9_keepAllFrom 67 = .ok (.iload_n 1, 1) := by decide +kernel
theorem dX9_keepAllFrom_68 : decode cX9_keepAllFrom 68 = .ok (.iaload, 1) := by decide +kernel
theorem dX9_keepAllFrom_69 : decode cX9_keepAllFrom 69 = .ok (.ior, 1) := by decide +kernel
theorem dX9_keepAllFrom_70 : decode cX9_keepAllFrom 70 = .ok (.ior, 1) := by decide +kernel
theorem dX9_keepAllFrom_71 : decode cX9_keepAllFrom 71 = .ok (.putfield 40, 3) := by decide +kernel
theorem dX9_keepAllFrom_74 : decode cX9_keepAllFrom 74 = .ok (.aload_n 0, 1) := by decide +kernel
theorem dX9_keepAllFrom_75 : decode cX9_keepAllFrom 75 = .ok (.dup, 1) := by decide +kernel
theorem dX9_keepAllFrom_76 : decode cX9_keepAllFrom 76 = .ok (.getfield 43, 3) := by decide +kernel
theorem dX9_keepAllFrom_79 : decode cX9_keepAllFrom 79 = .ok (.bipush 63, 2) := by decide +kernel
theorem dX9_keepAllFrom_81 : decode cX9_keepAllFrom 81 = .ok (.iload_n 3, 1) := by decide +kernel
theorem dX9_keepAllFrom_82 : decode cX9_keepAllFrom 82 = .ok (.iconst (-1), 1) := by decide +kernel
theorem dX9_keepAllFrom_83 : decode cX9_keepAllFrom 83 = .ok (.ixor, 1) := by decide +kernel
theorem dX9_keepAllFrom_84 : decode cX9_keepAllFrom 84 = .ok (.iand, 1) := by decide +kernel
theorem dX9_keepAllFrom_85 : decode cX9_keepAllFrom 85 = .ok (.ior, 1) := by decide +kernel
theorem dX9_keepAllFrom_86 : decode cX9_keepAllFrom 86 = .ok (.putfield 43, 3) := by decide +kernel
theorem dX9_keepAllFrom_89 : decode cX9_keepAllFrom 89 = .ok (.return_, 1) := by decide +kernel
theorem dX9_answer_0 : decode cX9_answer 0 = .ok (.iload_n 1, 1) := by decide +kernel
theorem dX9_answer_1 : decode cX9_answer 1 = .ok (.tableswitch 61 0 3 #[31, 36, 46, 56], 31) := by decide +kernel
theorem dX9_answer_32 : decode cX9_answer 32 = .ok (.aload_n 0, 1) := by decide +kernel
theorem dX9_answer_33 : decode cX9_answer 33 = .ok (.getfield 34, 3) := by decide +kernel
theorem dX9_answer_36 : decode cX9_answer 36 = .ok (.ireturn, 1) := by decide +kernel
theorem dX9_answer_37 : decode cX9_answer 37 = .ok (.bipush 63, 2) := by decide +kernel
theorem dX9_answer_39 : decode cX9_answer 39 = .ok (.aload_n 0, 1) := by decide +kernel
theorem dX9_answer_40 : decode cX9_answer 40 = .ok (.getfield 40, 3) := by decide +kernel
theorem dX9_answer_43 : decode cX9_answer 43 = .ok (.iconst (-1), 1) := by decide +kernel
theorem dX9_answer_44 : decode cX9_answer 44 = .ok (.ixor, 1) := by decide +kernel
theorem dX9_answer_45 : decode cX9_answer 45 = .ok (.iand, 1) := by decide +kernel
theorem dX9_answer_46 : decode cX9_answer 46 = .ok (.ireturn, 1) := by decide +kernel
theorem dX9_answer_47 : decode cX9_answer 47 = .ok (.bipush 63, 2) := by decide +kernel
theorem dX9_answer_49 : decode cX9_answer 49 = .ok (.aload_n 0, 1) := by decide +kernel
theorem dX9_answer_50 : decode cX9_answer 50 = .ok (.getfield 43, 3) := by decide +kernel
theorem dX9_answer_53 : decode cX9_answer 53 = .ok (.iconst (-1), 1) := by decide +kernel
theorem dX9_answer_54 : decode cX9_answer 54 = .ok (.ixor, 1) := by decide +kernel
theorem dX9_answer_55 : decode cX9_answer 55 = .ok (.iand, 1) := by decide +kernel
theorem dX9_answer_56 : decode cX9_answer 56 = .ok (.ireturn, 1) := by decide +kernel
theorem dX9_answer_57 : decode cX9_answer 57 = .ok (.aload_n 0, 1) := by decide +kernel
theorem dX9_answer_58 : decode cX9_answer 58 = .ok (.getfield 37, 3) := by decide +kernel
theorem dX9_answer_61 : decode cX9_answer 61 = .ok (.ireturn, 1) := by decide +kernel
theorem dX9_answer_62 : decode cX9_answer 62 = .ok (.iload_n 1, 1) := by decide +kernel
theorem dX9_answer_63 : decode cX9_answer 63 = .ok (.bipush 10, 2) := by decide +kernel
theorem dX9_answer_65 : decode cX9_answer 65 = .ok (.bipush 15, 2) := by decide +kernel
theorem dX9_answer_67 : decode cX9_answer 67 = .ok (.invokestatic 64, 3) := by decide +kernel
theorem dX9_answer_70 : decode cX9_answer 70 = .ok (.ifCond .eq 15, 3) := by decide +kernel
theorem dX9_answer_73 : decode cX9_answer 73 = .ok (.aload_n 0, 1) := by decide +kernel
theorem dX9_answer_74 : decode cX9_answer 74 = .ok (.getfield 15, 3) := by decide +kernel
theorem dX9_answer_77 : decode cX9_answer 77 = .ok (.iload_n 1, 1) := by decide +kernel
theorem dX9_answer_78 : decode cX9_answer 78 = .ok (.bipush 10, 2) := by decide +kernel
theorem dX9_answer_80 : decode cX9_answer 80 = .ok (.isub, 1) := by decide +kernel
theorem dX9_answer_81 : decode cX9_answer 81 = .ok (.iaload, 1) := by decide +kernel
theorem dX9_answer_82 : decode cX9_answer 82 = .ok (.goto 4, 3) := by decide +kernel
theorem dX9_answer_85 : decode cX9_answer 85 = .ok (.iconst (-1), 1) := by decide +kernel
theorem dX9_answer_86 : decode cX9_answer 86 = .ok (.ireturn, 1) := by decide +kernel
theorem dX10_init_0 : decode cX10_init 0 = .ok (.aload_n 0, 1) := by decide +kernel
theorem dX10_init_1 : decode cX10_init 1 = .ok (.invokespecial 3, 3) := by decide +kernel
theorem dX10_init_4 : decode cX10_init 4 = .ok (.aload_n 0, 1) := by decide +kernel
theorem dX10_init_5 : decode cX10_init 5 = .ok (.bipush 16, 2) := by decide +kernel
theorem dX10_init_7 : decode cX10_init 7 = .ok (.newarray .int, 2) := by decide +kernel
theorem dX10_init_9 : decode cX10_init 9 = .ok (.putfield 9, 3) := by decide +kernel
theorem dX10_init_12 : decode cX10_init 12 = .ok (.aload_n 0, 1) := by decide +kernel
theorem dX10_init_13 : decode cX10_init 13 = .ok (.bipush 16, 2) := by decide +kernel
theorem dX10_init_15 : decode cX10_init 15 = .ok (.newarray .int, 2) := by decide +kernel
theorem dX10_init_17 : decode cX10_init 17 = .ok (.putfield 15, 3) := by decide +kernel
theorem dX10_init_20 : decode cX10_init 20 = .ok (.aload_n 0, 1) := by decide +kernel
theorem dX10_init_21 : decode cX10_init 21 = .ok (.bipush 16, 2) := by decide +kernel
theorem dX10_init_23 : decode cX10_init 23 = .ok (.newarray .int, 2) := by decide +kernel
theorem dX10_init_25 : decode cX10_init 25 = .ok (.putfield 18, 3) := by decide +kernel
theorem dX10_init_28 : decode cX10_init 28 = .ok (.aload_n 0, 1) := by decide +kernel
theorem dX10_init_29 : decode cX10_init 29 = .ok (.bipush 17, 2) := by decide +kernel
theorem dX10_init_31 : decode cX10_init 31 = .ok (.newarray .int, 2) := by decide +kernel
theorem dX10_init_33 : decode cX10_init 33 = .ok (.putfield 21, 3) := by decide +kernel
theorem dX10_init_36 : decode cX10_init 36 = .ok (.return_, 1) := by decide +kernel
theorem dX10_begin_0 : decode cX10_begin 0 = .ok (.aload_n 0, 1) := by decide +kernel
theorem dX10_begin_1 : decode cX10_begin 1 = .ok (.iconst 0, 1) := by decide +kernel
theorem dX10_begin_2 : decode cX10_begin 2 = .ok (.putfield 24, 3) := by decide +kernel
theorem dX10_begin_5 : decode cX10_begin 5 = .ok (.aload_n 0, 1) := by decide +kernel
theorem dX10_begin_6 : decode cX10_begin 6 = .ok (.iload_n 1, 1) := by decide +kernel
theorem dX10_begin_7 : decode cX10_begin 7 = .ok (.putfield 28, 3) := by decide +kernel
theorem dX10_begin_10 : decode cX10_begin 10 = .ok (.aload_n 0, 1) := by decide +kernel
theorem dX10_begin_11 : decode cX10_begin 11 = .ok (.iconst 0, 1) := by decide +kernel
theorem dX10_begin_12 : decode cX10_begin 12 = .ok (.putfield 31, 3) := by decide +kernel
theorem dX10_begin_15 : decode cX10_begin 15 = .ok (.aload_n 0, 1) := by decide +kernel
theorem dX10_begin_16 : decode cX10_begin 16 = .ok (.iconst 0, 1) := by decide +kernel
theorem dX10_begin_17 : decode cX10_begin 17 = .ok (.putfield 34, 3) := by decide +kernel
theorem dX10_begin_20 : decode cX10_begin 20 = .ok (.aload_n 0, 1) := by decide +kernel
theorem dX10_begin_21 : decode cX10_begin 21 = .ok (.iconst (-1), 1) := by decide +kernel
theorem dX10_begin_22 : decode cX10_begin 22 = .ok (.putfield 37, 3) := by decide +kernel
theorem dX10_begin_25 : decode cX10_begin 25 = .ok (.return_, 1) := by decide +kernel
theorem dX10_offer_0 : decode cX10_offer 0 = .ok (.aload_n 0, 1) := by decide +kernel
theorem dX10_offer_1 : decode cX10_offer 1 = .ok (.getfield 24, 3) := by decide +kernel
theorem dX10_offer_4 : decode cX10_offer 4 = .ok (.bipush 16, 2) := by decide +kernel
theorem dX10_offer_6 : decode cX10_offer 6 = .ok (.if_icmp .lt 4, 3) := by decide +kernel
theorem dX10_offer_9 : decode cX10_offer 9 = .ok (.return_, 1) := by decide +kernel
theorem dX10_offer_10 : decode cX10_offer 10 = .ok (.aload_n 0, 1) := by decide +kernel
theorem dX10_offer_11 : decode cX10_offer 11 = .ok (.getfield 9, 3) := by decide +kernel
theorem dX10_offer_14 : decode cX10_offer 14 = .ok (.aload_n 0, 1) := by decide +kernel
theorem dX10_offer_15 : decode cX10_offer 15 = .ok (.getfield 24, 3) := by decide +kernel
theorem dX10_offer_18 : decode cX10_offer 18 = .ok (.iload_n 1, 1) := by decide +kernel
theorem dX10_offer_19 : decode cX10_offer 19 = .ok (.iastore, 1) := by decide +kernel
theorem dX10_offer_20 : decode cX10_offer 20 = .ok (.aload_n 0, 1) := by decide +kernel
theorem dX10_offer_21 : decode cX10_offer 21 = .ok (.getfield 15, 3) := by decide +kernel
theorem dX10_offer_24 : decode cX10_offer 24 = .ok (.aload_n 0, 1) := by decide +kernel
theorem dX10_offer_25 : decode cX10_offer 25 = .ok (.getfield 24, 3) := by decide +kernel
theorem dX10_offer_28 : decode cX10_offer 28 = .ok (.iload_n 2, 1) := by decide +kernel
theorem dX10_offer_29 : decode cX10_offer 29 = .ok (.iastore, 1) := by decide +kernel
theorem dX10_offer_30 : decode cX10_offer 30 = .ok (.aload_n 0, 1) := by decide +kernel
theorem dX10_offer_31 : decode cX10_offer 31 = .ok (.getfield 18, 3) := by decide +kernel
theorem dX10_offer_34 : decode cX10_offer 34 = .ok (.aload_n 0, 1) := by decide +kernel
theorem dX10_offer_35 : decode cX10_offer 35 = .ok (.getfield 24, 3) := by decide +kernel
theorem dX10_offer_38 : decode cX10_offer 38 = .ok (.iload_n 3, 1) := by decide +kernel
theorem dX10_offer_39 : decode cX10_offer 39 = .ok (.iastore, 1) := by decide +kernel
theorem dX10_offer_40 : decode cX10_offer 40 = .ok (.aload_n 0, 1) := by decide +kernel
theorem dX10_offer_41 : decode cX10_offer 41 = .ok (.getfield 21, 3) := by decide +kernel
theorem dX10_offer_44 : decode cX10_offer 44 = .ok (.aload_n 0, 1) := by decide +kernel
theorem dX10_offer_45 : decode cX10_offer 45 = .ok (.getfield 24, 3) := by decide +kernel
theorem dX10_offer_48 : decode cX10_offer 48 = .ok (.iconst 1, 1) := by decide +kernel
theorem dX10_offer_49 : decode cX10_offer 49 = .ok (.iadd, 1) := by decide +kernel
theorem dX10_offer_50 : decode cX10_offer 50 = .ok (.aload_n 0, 1) := by decide +kernel
theorem dX10_offer_51 : decode cX10_offer 51 = .ok (.getfield 21, 3) := by decide +kernel
theorem dX10_offer_54 : decode cX10_offer 54 = .ok (.aload_n 0, 1) := by decide +kernel
theorem dX10_offer_55 : decode cX10_offer 55 = .ok (.getfield 24, 3) := by decide +kernel
theorem dX10_offer_58 : decode cX10_offer 58 = .ok (.iaload, 1) := by decide +kernel
theorem dX10_offer_59 : decode cX10_offer 59 = .ok (.iload_n 3, 1) := by decide +kernel
theorem dX10_offer_60 : decode cX10_offer 60 = .ok (.iadd, 1) := by decide +kernel
theorem dX10_offer_61 : decode cX10_offer 61 = .ok (.iastore, 1) := by decide +kernel
theorem dX10_offer_62 : decode cX10_offer 62 = .ok (.aload_n 0, 1) := by decide +kernel
theorem dX10_offer_63 : decode cX10_offer 63 = .ok (.dup, 1) := by decide +kernel
theorem dX10_offer_64 : decode cX10_offer 64 = .ok (.getfield 24, 3) := by decide +kernel
theorem dX10_offer_67 : decode cX10_offer 67 = .ok (.iconst 1, 1) := by decide +kernel
theorem dX10_offer_68 : decode cX10_offer 68 = .ok (.iadd, 1) := by decide +kernel
theorem dX10_offer_69 : decode cX10_offer 69 = .ok (.putfield 24, 3) := by decide +kernel
theorem dX10_offer_72 : decode cX10_offer 72 = .ok (.return_, 1) := by decide +kernel
theorem dX10_search_0 : decode cX10_search 0 = .ok (.aload_n 0, 1) := by decide +kernel
theorem dX10_search_1 : decode cX10_search 1 = .ok (.aload_n 0, 1) := by decide +kernel
theorem dX10_search_2 : decode cX10_search 2 = .ok (.getfield 24, 3) := by decide +kernel
theorem dX10_search_5 : decode cX10_search 5 = .ok (.iconst 0, 1) := by decide +kernel
theorem dX10_search_6 : decode cX10_search 6 = .ok (.iconst 0, 1) := by decide +kernel
theorem dX10_search_7 : decode cX10_search 7 = .ok (.iconst 0, 1) := by decide +kernel
theorem dX10_search_8 : decode cX10_search 8 = .ok (.invokevirtual 40, 3) := by decide +kernel
theorem dX10_search_11 : decode cX10_search 11 = .ok (.return_, 1) := by decide +kernel
theorem dX10_tryBelow_0 : decode cX10_tryBelow 0 = .ok (.iload_n 3, 1) := by decide +kernel
theorem dX10_tryBelow_1 : decode cX10_tryBelow 1 = .ok (.aload_n 0, 1) := by decide +kernel
theorem dX10_tryBelow_2 : decode cX10_tryBelow 2 = .ok (.getfield 28, 3) := by decide +kernel
theorem dX10_tryBelow_5 : decode cX10_tryBelow 5 = .ok (.if_icmp .gt 15, 3) := by decide +kernel
theorem dX10_tryBelow_8 : decode cX10_tryBelow 8 = .ok (.iload_n 1, 1) := by decide +kernel
theorem dX10_tryBelow_9 : decode cX10_tryBelow 9 = .ok (.iconst 0, 1) := by decide +kernel
theorem dX10_tryBelow_10 : decode cX10_tryBelow 10 = .ok (.aload_n 0, 1) := by decide +kernel
theorem dX10_tryBelow_11 : decode cX10_tryBelow 11 = .ok (.getfield 24, 3) := by decide +kernel
theorem dX10_tryBelow_14 : decode cX10_tryBelow 14 = .ok (.invokestatic 44, 3) := by decide +kernel
theorem dX10_tryBelow_17 : decode cX10_tryBelow 17 = .ok (.ifCond .ne 4, 3) := by decide +kernel
theorem dX10_tryBelow_20 : decode cX10_tryBelow 20 = .ok (.return_, 1) := by decide +kernel
theorem dX10_tryBelow_21 : decode cX10_tryBelow 21 = .ok (.iload 4, 2) := by decide +kernel
theorem dX10_tryBelow_23 : decode cX10_tryBelow 23 = .ok (.aload_n 0, 1) := by decide +kernel
theorem dX10_tryBelow_24 : decode cX10_tryBelow 24 = .ok (.getfield 21, 3) := by decide +kernel
theorem dX10_tryBelow_27 : decode cX10_tryBelow 27 = .ok (.iload_n 1, 1) := by decide +kernel
theorem dX10_tryBelow_28 : decode cX10_tryBelow 28 = .ok (.iaload, 1) := by decide +kernel
theorem dX10_tryBelow_29 : decode cX10_tryBelow 29 = .ok (.iadd, 1) := by decide +kernel
theorem dX10_tryBelow_30 : decode cX10_tryBelow 30 = .ok (.istore 5, 2) := by decide +kernel
theorem dX10_tryBelow_32 : decode cX10_tryBelow 32 = .ok (.iload 5, 2) := by decide +kernel
theorem dX10_tryBelow_34 : decode cX10_tryBelow 34 = .ok (.aload_n 0, 1) := by decide +kernel
theorem dX10_tryBelow_35 : decode cX10_tryBelow 35 = .ok (.getfield 37, 3) := by decide +kernel
theorem dX10_tryBelow_38 : decode cX10_tryBelow 38 = .ok (.if_icmp .lt 20, 3) := by decide +kernel
theorem dX10_tryBelow_41 : decode cX10_tryBelow 41 = .ok (.iload 5, 2) := by decide +kernel
theorem dX10_tryBelow_43 : decode cX10_tryBelow 43 = .ok (.aload_n 0, 1) := by decide +kernel
theorem dX10_tryBelow_44 : decode cX10_tryBelow 44 = .ok (.getfield 37, 3) := by decide +kernel
theorem dX10_tryBelow_47 : decode cX10_tryBelow 47 = .ok (.if_icmp .ne 12, 3) := by decide +kernel
theorem dX10_tryBelow_50 : decode cX10_tryBelow 50 = .ok (.iload_n 3, 1) := by decide +kernel
theorem dX10_tryBelow_51 : decode cX10_tryBelow 51 = .ok (.aload_n 0, 1) := by decide +kernel
theorem dX10_tryBelow_52 : decode cX10_tryBelow 52 = .ok (.getfield 34, 3) := by decide +kernel
theorem dX10_tryBelow_55 : decode cX10_tryBelow 55 = .ok (.if_icmp .lt 4, 3) := by decide +kernel
theorem dX10_tryBelow_58 : decode cX10_tryBelow 58 = .ok (.return_, 1) := by decide +kernel
theorem dX10_tryBelow_59 : decode cX10_tryBelow 59 = .ok (.iload_n 1, 1) := by decide +kernel
theorem dX10_tryBelow_60 : decode cX10_tryBelow 60 = .ok (.ifCond .ne 20, 3) := by decide +kernel
theorem dX10_tryBelow_63 : decode cX10_tryBelow 63 = .ok (.aload_n 0, 1) := by decide +kernel
theorem dX10_tryBelow_64 : decode cX10_tryBelow 64 = .ok (.iload_n 2, 1) := by decide +kernel
theorem dX10_tryBelow_65 : decode cX10_tryBelow 65 = .ok (.putfield 31, 3) := by decide +kernel
theorem dX10_tryBelow_68 : decode cX10_tryBelow 68 = .ok (.aload_n 0, 1) := by decide +kernel
theorem dX10_tryBelow_69 : decode cX10_tryBelow 69 = .ok (.iload_n 3, 1) := by decide +kernel
theorem dX10_tryBelow_70 : decode cX10_tryBelow 70 = .ok (.putfield 34, 3) := by decide +kernel
theorem dX10_tryBelow_73 : decode cX10_tryBelow 73 = .ok (.aload_n 0, 1) := by decide +kernel
theorem dX10_tryBelow_74 : decode cX10_tryBelow 74 = .ok (.iload 4, 2) := by decide +kernel
theorem dX10_tryBelow_76 : decode cX10_tryBelow 76 = .ok (.putfield 37, 3) := by decide +kernel
theorem dX10_tryBelow_79 : decode cX10_tryBelow 79 = .ok (.return_, 1) := by decide +kernel
theorem dX10_tryBelow_80 : decode cX10_tryBelow 80 = .ok (.aload_n 0, 1) := by decide +kernel
theorem dX10_tryBelow_81 : decode cX10_tryBelow 81 = .ok (.iload_n 1, 1) := by decide +kernel
theorem dX10_tryBelow_82 : decode cX10_tryBelow 82 = .ok (.iconst 1, 1) := by decide +kernel
theorem dX10_tryBelow_83 : decode cX10_tryBelow 83 = .ok (.isub, 1) := by decide +kernel
theorem dX10_tryBelow_84 : decode cX10_tryBelow 84 = .ok (.iload_n 2, 1) := by decide +kernel
theorem dX10_tryBelow_85 : decode cX10_tryBelow 85 = .ok (.iload_n 3, 1) := by decide +kernel
theorem dX10_tryBelow_86 : decode cX10_tryBelow 86 = .ok (.iload 4, 2) := by decide +kernel
theorem dX10_tryBelow_88 : decode cX10_tryBelow 88 = .ok (.invokevirtual 40, 3) := by decide +kernel
theorem dX10_tryBelow_91 : decode cX10_tryBelow 91 = .ok (.aload_n 0, 1) := by decide +kernel
theorem dX10_tryBelow_92 : decode cX10_tryBelow 92 = .ok (.iload_n 1, 1) := by decide +kernel
theorem dX10_tryBelow_93 : decode cX10_tryBelow 93 = .ok (.iconst 1, 1) := by decide +kernel
theorem dX10_tryBelow_94 : decode cX10_tryBelow 94 = .ok (.isub, 1) := by decide +kernel
theorem dX10_tryBelow_95 : decode cX10_tryBelow 95 = .ok (.iload_n 2, 1) := by decide +kernel
theorem dX10_tryBelow_96 : decode cX10_tryBelow 96 = .ok (.iconst 1, 1) := by decide +kernel
theorem dX10_tryBelow_97 : decode cX10_tryBelow 97 = .ok (.aload_n 0, 1) := by decide +kernel
theorem dX10_tryBelow_98 : decode cX10_tryBelow 98 = .ok (.getfield 9, 3) := by decide +kernel
theorem dX10_tryBelow_101 : decode cX10_tryBelow 101 = .ok (.iload_n 1, 1) := by decide +kernel
theorem dX10_tryBelow_102 : decode cX10_tryBelow 102 = .ok (.iconst 1, 1) := by decide +kernel
theorem dX10_tryBelow_103 : decode cX10_tryBelow 103 = .ok (.isub, 1) := by decide +kernel
theorem dX10_tryBelow_104 : decode cX10_tryBelow 104 = .ok (.iaload, 1) := by decide +kernel
theorem dX10_tryBelow_105 : decode cX10_tryBelow 105 = .ok (.ishl, 1) := by decide +kernel
theorem dX10_tryBelow_106 : decode cX10_tryBelow 106 = .ok (.ior, 1) := by decide +kernel
theorem dX10_tryBelow_107 : decode cX10_tryBelow 107 = .ok (.iload_n 3, 1) := by decide +kernel
theorem dX10_tryBelow_108 : decode cX10_tryBelow 108 = .ok (.aload_n 0, 1) := by decide +kernel
theorem dX10_tryBelow_109 : decode cX10_tryBelow 109 = .ok (.getfield 15, 3) := by decide +kernel
theorem dX10_tryBelow_112 : decode cX10_tryBelow 112 = .ok (.iload_n 1, 1) := by decide +kernel
theorem dX10_tryBelow_113 : decode cX10_tryBelow 113 = .ok (.iconst 1, 1) := by decide +kernel
theorem dX10_tryBelow_114 : decode cX10_tryBelow 114 = .ok (.isub, 1) := by decide +kernel
theorem dX10_tryBelow_115 : decode cX10_tryBelow 115 = .ok (.iaload, 1) := by decide +kernel
theorem dX10_tryBelow_116 : decode cX10_tryBelow 116 = .ok (.iadd, 1) := by decide +kernel
theorem dX10_tryBelow_117 : decode cX10_tryBelow 117 = .ok (.iload 4, 2) := by decide +kernel
theorem dX10_tryBelow_119 : decode cX10_tryBelow 119 = .ok (.aload_n 0, 1) := by decide +kernel
theorem dX10_tryBelow_120 : decode cX10_tryBelow 120 = .ok (.getfield 18, 3) := by decide +kernel
theorem dX10_tryBelow_123 : decode cX10_tryBelow 123 = .ok (.iload_n 1, 1) := by decide +kernel
theorem dX10_tryBelow_124 : decode cX10_tryBelow 124 = .ok (.iconst 1, 1) := by decide +kernel
theorem dX10_tryBelow_125 : decode cX10_tryBelow 125 = .ok (.isub, 1) := by decide +kernel
theorem dX10_tryBelow_126 : decode cX10_tryBelow 126 = .ok (.iaload, 1) := by decide +kernel
theorem dX10_tryBelow_127 : decode cX10_tryBelow 127 = .ok (.iadd, 1) := by decide +kernel
theorem dX10_tryBelow_128 : decode cX10_tryBelow 128 = .ok (.invokevirtual 40, 3) := by decide +kernel
theorem dX10_tryBelow_131 : decode cX10_tryBelow 131 = .ok (.return_, 1) := by decide +kernel
