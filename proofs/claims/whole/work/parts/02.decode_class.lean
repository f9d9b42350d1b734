theorem dX0_init_0 : decode cX0_init 0 = .ok (.aload_n 0, 1) := by decide +kernel
theorem dX0_init_1 : decode cX0_init 1 = .ok (.invokespecial 3, 3) := by decide +kernel
theorem dX0_init_4 : decode cX0_init 4 = .ok (.aload_n 0, 1) := by decide +kernel
theorem dX0_init_5 : decode cX0_init 5 = .ok (.aconst_null, 1) := by decide +kernel
theorem dX0_init_6 : decode cX0_init 6 = .ok (.putfield 9, 3) := by decide +kernel
theorem dX0_init_9 : decode cX0_init 9 = .ok (.aload_n 0, 1) := by decide +kernel
theorem dX0_init_10 : decode cX0_init 10 = .ok (.iconst 0, 1) := by decide +kernel
theorem dX0_init_11 : decode cX0_init 11 = .ok (.putfield 15, 3) := by decide +kernel
theorem dX0_init_14 : decode cX0_init 14 = .ok (.aload_n 0, 1) := by decide +kernel
theorem dX0_init_15 : decode cX0_init 15 = .ok (.iconst 0, 1) := by decide +kernel
theorem dX0_init_16 : decode cX0_init 16 = .ok (.putfield 19, 3) := by decide +kernel
theorem dX0_init_19 : decode cX0_init 19 = .ok (.aload_n 0, 1) := by decide +kernel
theorem dX0_init_20 : decode cX0_init 20 = .ok (.iconst 0, 1) := by decide +kernel
theorem dX0_init_21 : decode cX0_init 21 = .ok (.putfield 22, 3) := by decide +kernel
theorem dX0_init_24 : decode cX0_init 24 = .ok (.aload_n 0, 1) := by decide +kernel
theorem dX0_init_25 : decode cX0_init 25 = .ok (.iconst 0, 1) := by decide +kernel
theorem dX0_init_26 : decode cX0_init 26 = .ok (.putfield 25, 3) := by decide +kernel
theorem dX0_init_29 : decode cX0_init 29 = .ok (.aload_n 0, 1) := by decide +kernel
theorem dX0_init_30 : decode cX0_init 30 = .ok (.iconst 0, 1) := by decide +kernel
theorem dX0_init_31 : decode cX0_init 31 = .ok (.putfield 28, 3) := by decide +kernel
theorem dX0_init_34 : decode cX0_init 34 = .ok (.aload_n 0, 1) := by decide +kernel
theorem dX0_init_35 : decode cX0_init 35 = .ok (.iconst 0, 1) := by decide +kernel
theorem dX0_init_36 : decode cX0_init 36 = .ok (.putfield 31, 3) := by decide +kernel
theorem dX0_init_39 : decode cX0_init 39 = .ok (.aload_n 0, 1) := by decide +kernel
theorem dX0_init_40 : decode cX0_init 40 = .ok (.iconst 0, 1) := by decide +kernel
theorem dX0_init_41 : decode cX0_init 41 = .ok (.putfield 34, 3) := by decide +kernel
theorem dX0_init_44 : decode cX0_init 44 = .ok (.aload_n 0, 1) := by decide +kernel
theorem dX0_init_45 : decode cX0_init 45 = .ok (.iconst 0, 1) := by decide +kernel
theorem dX0_init_46 : decode cX0_init 46 = .ok (.putfield 37, 3) := by decide +kernel
theorem dX0_init_49 : decode cX0_init 49 = .ok (.return_, 1) := by decide +kernel
theorem dX0_open_0 : decode cX0_open 0 = .ok (.aload_n 0, 1) := by decide +kernel
theorem dX0_open_1 : decode cX0_open 1 = .ok (.aload_n 1, 1) := by decide +kernel
theorem dX0_open_2 : decode cX0_open 2 = .ok (.putfield 9, 3) := by decide +kernel
theorem dX0_open_5 : decode cX0_open 5 = .ok (.return_, 1) := by decide +kernel
theorem dX0_rewind_0 : decode cX0_rewind 0 = .ok (.aload_n 0, 1) := by decide +kernel
theorem dX0_rewind_1 : decode cX0_rewind 1 = .ok (.iconst 0, 1) := by decide +kernel
theorem dX0_rewind_2 : decode cX0_rewind 2 = .ok (.putfield 15, 3) := by decide +kernel
theorem dX0_rewind_5 : decode cX0_rewind 5 = .ok (.return_, 1) := by decide +kernel
theorem dX0_isAtEnd_0 : decode cX0_isAtEnd 0 = .ok (.aload_n 0, 1) := by decide +kernel
theorem dX0_isAtEnd_1 : decode cX0_isAtEnd 1 = .ok (.getfield 9, 3) := by decide +kernel
theorem dX0_isAtEnd_4 : decode cX0_isAtEnd 4 = .ok (.ifnull 17, 3) := by decide +kernel
theorem dX0_isAtEnd_7 : decode cX0_isAtEnd 7 = .ok (.aload_n 0, 1) := by decide +kernel
theorem dX0_isAtEnd_8 : decode cX0_isAtEnd 8 = .ok (.getfield 15, 3) := by decide +kernel
theorem dX0_isAtEnd_11 : decode cX0_isAtEnd 11 = .ok (.aload_n 0, 1) := by decide +kernel
theorem dX0_isAtEnd_12 : decode cX0_isAtEnd 12 = .ok (.getfield 9, 3) := by decide +kernel
theorem dX0_isAtEnd_15 : decode cX0_isAtEnd 15 = .ok (.getfield 40, 3) := by decide +kernel
theorem dX0_isAtEnd_18 : decode cX0_isAtEnd 18 = .ok (.if_icmp .lt 7, 3) := by decide +kernel
theorem dX0_isAtEnd_21 : decode cX0_isAtEnd 21 = .ok (.iconst 1, 1) := by decide +kernel
theorem dX0_isAtEnd_22 : decode cX0_isAtEnd 22 = .ok (.goto 4, 3) := by decide +kernel
theorem dX0_isAtEnd_25 : decode cX0_isAtEnd 25 = .ok (.iconst 0, 1) := by decide +kernel
theorem dX0_isAtEnd_26 : decode cX0_isAtEnd 26 = .ok (.ireturn, 1) := by decide +kernel
theorem dX0_next_0 : decode cX0_next 0 = .ok (.aload_n 0, 1) := by decide +kernel
theorem dX0_next_1 : decode cX0_next 1 = .ok (.getfield 9, 3) := by decide +kernel
theorem dX0_next_4 : decode cX0_next 4 = .ok (.ifnull 32, 3) := by decide +kernel
theorem dX0_next_7 : decode cX0_next 7 = .ok (.aload_n 0, 1) := by decide +kernel
theorem dX0_next_8 : decode cX0_next 8 = .ok (.getfield 9, 3) := by decide +kernel
theorem dX0_next_11 : decode cX0_next 11 = .ok (.aload_n 0, 1) := by decide +kernel
theorem dX0_next_12 : decode cX0_next 12 = .ok (.getfield 15, 3) := by decide +kernel
theorem dX0_next_15 : decode cX0_next 15 = .ok (.invokevirtual 45, 3) := by decide +kernel
theorem dX0_next_18 : decode cX0_next 18 = .ok (.ifCond .eq 18, 3) := by decide +kernel
theorem dX0_next_21 : decode cX0_next 21 = .ok (.aload_n 0, 1) := by decide +kernel
theorem dX0_next_22 : decode cX0_next 22 = .ok (.getfield 9, 3) := by decide +kernel
theorem dX0_next_25 : decode cX0_next 25 = .ok (.getfield 49, 3) := by decide +kernel
theorem dX0_next_28 : decode cX0_next 28 = .ok (.aload_n 0, 1) := by decide +kernel
theorem dX0_next_29 : decode cX0_next 29 = .ok (.getfield 15, 3) := by decide +kernel
theorem dX0_next_32 : decode cX0_next 32 = .ok (.iaload, 1) := by decide +kernel
theorem dX0_next_33 : decode cX0_next 33 = .ok (.goto 4, 3) := by decide +kernel
theorem dX0_next_36 : decode cX0_next 36 = .ok (.iconst (-1), 1) := by decide +kernel
theorem dX0_next_37 : decode cX0_next 37 = .ok (.ireturn, 1) := by decide +kernel
theorem dX0_readStatement_0 : decode cX0_readStatement 0 = .ok (.aload_n 0, 1) := by decide +kernel
theorem dX0_readStatement_1 : decode cX0_readStatement 1 = .ok (.aload_n 0, 1) := by decide +kernel
theorem dX0_readStatement_2 : decode cX0_readStatement 2 = .ok (.getfield 15, 3) := by decide +kernel
theorem dX0_readStatement_5 : decode cX0_readStatement 5 = .ok (.putfield 22, 3) := by decide +kernel
theorem dX0_readStatement_8 : decode cX0_readStatement 8 = .ok (.aload_n 0, 1) := by decide +kernel
theorem dX0_readStatement_9 : decode cX0_readStatement 9 = .ok (.aload_n 0, 1) := by decide +kernel
theorem dX0_readStatement_10 : decode cX0_readStatement 10 = .ok (.invokevirtual 53, 3) := by decide +kernel
theorem dX0_readStatement_13 : decode cX0_readStatement 13 = .ok (.putfield 19, 3) := by decide +kernel
theorem dX0_readStatement_16 : decode cX0_readStatement 16 = .ok (.aload_n 0, 1) := by decide +kernel
theorem dX0_readStatement_17 : decode cX0_readStatement 17 = .ok (.getfield 19, 3) := by decide +kernel
theorem dX0_readStatement_20 : decode cX0_readStatement 20 = .ok (.bipush 112, 2) := by decide +kernel
theorem dX0_readStatement_22 : decode cX0_readStatement 22 = .ok (.if_icmp .eq 23, 3) := by decide +kernel
theorem dX0_readStatement_25 : decode cX0_readStatement 25 = .ok (.aload_n 0, 1) := by decide +kernel
theorem dX0_readStatement_26 : decode cX0_readStatement 26 = .ok (.getfield 19, 3) := by decide +kernel
theorem dX0_readStatement_29 : decode cX0_readStatement 29 = .ok (.bipush 108, 2) := by decide +kernel
theorem dX0_readStatement_31 : decode cX0_readStatement 31 = .ok (.if_icmp .eq 14, 3) := by decide +kernel
theorem dX0_readStatement_34 : decode cX0_readStatement 34 = .ok (.aload_n 0, 1) := by decide +kernel
theorem dX0_readStatement_35 : decode cX0_readStatement 35 = .ok (.getfield 19, 3) := by decide +kernel
theorem dX0_readStatement_38 : decode cX0_readStatement 38 = .ok (.bipush 119, 2) := by decide +kernel
theorem dX0_readStatement_40 : decode cX0_readStatement 40 = .ok (.if_icmp .eq 5, 3) := by decide +kernel
theorem dX0_readStatement_43 : decode cX0_readStatement 43 = .ok (.iconst 0, 1) := by decide +kernel
theorem dX0_readStatement_44 : decode cX0_readStatement 44 = .ok (.ireturn, 1) := by decide +kernel
theorem dX0_readStatement_45 : decode cX0_readStatement 45 = .ok (.aload_n 0, 1) := by decide +kernel
theorem dX0_readStatement_46 : decode cX0_readStatement 46 = .ok (.dup, 1) := by decide +kernel
theorem dX0_readStatement_47 : decode cX0_readStatement 47 = .ok (.getfield 15, 3) := by decide +kernel
theorem dX0_readStatement_50 : decode cX0_readStatement 50 = .ok (.iconst 1, 1) := by decide +kernel
theorem dX0_readStatement_51 : decode cX0_readStatement 51 = .ok (.iadd, 1) := by decide +kernel
theorem dX0_readStatement_52 : decode cX0_readStatement 52 = .ok (.putfield 15, 3) := by decide +kernel
theorem dX0_readStatement_55 : decode cX0_readStatement 55 = .ok (.aload_n 0, 1) := by decide +kernel
theorem dX0_readStatement_56 : decode cX0_readStatement 56 = .ok (.invokevirtual 57, 3) := by decide +kernel
theorem dX0_readStatement_59 : decode cX0_readStatement 59 = .ok (.ifCond .ne 5, 3) := by decide +kernel
theorem dX0_readStatement_62 : decode cX0_readStatement 62 = .ok (.iconst 0, 1) := by decide +kernel
theorem dX0_readStatement_63 : decode cX0_readStatement 63 = .ok (.ireturn, 1) := by decide +kernel
theorem dX0_readStatement_64 : decode cX0_readStatement 64 = .ok (.aload_n 0, 1) := by decide +kernel
theorem dX0_readStatement_65 : decode cX0_readStatement 65 = .ok (.aload_n 0, 1) := by decide +kernel
theorem dX0_readStatement_66 : decode cX0_readStatement 66 = .ok (.getfield 37, 3) := by decide +kernel
theorem dX0_readStatement_69 : decode cX0_readStatement 69 = .ok (.putfield 25, 3) := by decide +kernel
theorem dX0_readStatement_72 : decode cX0_readStatement 72 = .ok (.aload_n 0, 1) := by decide +kernel
theorem dX0_readStatement_73 : decode cX0_readStatement 73 = .ok (.getfield 19, 3) := by decide +kernel
theorem dX0_readStatement_76 : decode cX0_readStatement 76 = .ok (.bipush 108, 2) := by decide +kernel
theorem dX0_readStatement_78 : decode cX0_readStatement 78 = .ok (.if_icmp .eq 12, 3) := by decide +kernel
theorem dX0_readStatement_81 : decode cX0_readStatement 81 = .ok (.aload_n 0, 1) := by decide +kernel
theorem dX0_readStatement_82 : decode cX0_readStatement 82 = .ok (.invokevirtual 61, 3) := by decide +kernel
theorem dX0_readStatement_85 : decode cX0_readStatement 85 = .ok (.ifCond .ne 5, 3) := by decide +kernel
theorem dX0_readStatement_88 : decode cX0_readStatement 88 = .ok (.iconst 0, 1) := by decide +kernel
theorem dX0_readStatement_89 : decode cX0_readStatement 89 = .ok (.ireturn, 1) := by decide +kernel
theorem dX0_readStatement_90 : decode cX0_readStatement 90 = .ok (.aload_n 0, 1) := by decide +kernel
theorem dX0_readStatement_91 : decode cX0_readStatement 91 = .ok (.invokevirtual 64, 3) := by decide +kernel
theorem dX0_readStatement_94 : decode cX0_readStatement 94 = .ok (.aload_n 0, 1) := by decide +kernel
theorem dX0_readStatement_95 : decode cX0_readStatement 95 = .ok (.bipush 59, 2) := by decide +kernel
theorem dX0_readStatement_97 : decode cX0_readStatement 97 = .ok (.invokevirtual 67, 3) := by decide +kernel
theorem dX0_readStatement_100 : decode cX0_readStatement 100 = .ok (.ireturn, 1) := by decide +kernel
theorem dX0_readTwoMore_0 : decode cX0_readTwoMore 0 = .ok (.aload_n 0, 1) := by decide +kernel
theorem dX0_readTwoMore_1 : decode cX0_readTwoMore 1 = .ok (.bipush 32, 2) := by decide +kernel
theorem dX0_readTwoMore_3 : decode cX0_readTwoMore 3 = .ok (.invokevirtual 67, 3) := by decide +kernel
theorem dX0_readTwoMore_6 : decode cX0_readTwoMore 6 = .ok (.ifCond .eq 10, 3) := by decide +kernel
theorem dX0_readTwoMore_9 : decode cX0_readTwoMore 9 = .ok (.aload_n 0, 1) := by decide +kernel
theorem dX0_readTwoMore_10 : decode cX0_readTwoMore 10 = .ok (.invokevirtual 57, 3) := by decide +kernel
theorem dX0_readTwoMore_13 : decode cX0_readTwoMore 13 = .ok (.ifCond .ne 5, 3) := by decide +kernel
theorem dX0_readTwoMore_16 : decode cX0_readTwoMore 16 = .ok (.iconst 0, 1) := by decide +kernel
theorem dX0_readTwoMore_17 : decode cX0_readTwoMore 17 = .ok (.ireturn, 1) := by decide +kernel
theorem dX0_readTwoMore_18 : decode cX0_readTwoMore 18 = .ok (.aload_n 0, 1) := by decide +kernel
theorem dX0_readTwoMore_19 : decode cX0_readTwoMore 19 = .ok (.aload_n 0, 1) := by decide +kernel
theorem dX0_readTwoMore_20 : decode cX0_readTwoMore 20 = .ok (.getfield 37, 3) := by decide +kernel
theorem dX0_readTwoMore_23 : decode cX0_readTwoMore 23 = .ok (.putfield 28, 3) := by decide +kernel
theorem dX0_readTwoMore_26 : decode cX0_readTwoMore 26 = .ok (.aload_n 0, 1) := by decide +kernel
theorem dX0_readTwoMore_27 : decode cX0_readTwoMore 27 = .ok (.bipush 32, 2) := by decide +kernel
theorem dX0_readTwoMore_29 : decode cX0_readTwoMore 29 = .ok (.invokevirtual 67, 3) := by decide +kernel
theorem dX0_readTwoMore_32 : decode cX0_readTwoMore 32 = .ok (.ifCond .eq 10, 3) := by decide +kernel
theorem dX0_readTwoMore_35 : decode cX0_readTwoMore 35 = .ok (.aload_n 0, 1) := by decide +kernel
theorem dX0_readTwoMore_36 : decode cX0_readTwoMore 36 = .ok (.invokevirtual 57, 3) := by decide +kernel
theorem dX0_readTwoMore_39 : decode cX0_readTwoMore 39 = .ok (.ifCond .ne 5, 3) := by decide +kernel
theorem dX0_readTwoMore_42 : decode cX0_readTwoMore 42 = .ok (.iconst 0, 1) := by decide +kernel
theorem dX0_readTwoMore_43 : decode cX0_readTwoMore 43 = .ok (.ireturn, 1) := by decide +kernel
theorem dX0_readTwoMore_44 : decode cX0_readTwoMore 44 = .ok (.aload_n 0, 1) := by decide +kernel
theorem dX0_readTwoMore_45 : decode cX0_readTwoMore 45 = .ok (.aload_n 0, 1) := by decide +kernel
theorem dX0_readTwoMore_46 : decode cX0_readTwoMore 46 = .ok (.getfield 37, 3) := by decide +kernel
theorem dX0_readTwoMore_49 : decode cX0_readTwoMore 49 = .ok (.putfield 31, 3) := by decide +kernel
theorem dX0_readTwoMore_52 : decode cX0_readTwoMore 52 = .ok (.iconst 1, 1) := by decide +kernel
theorem dX0_readTwoMore_53 : decode cX0_readTwoMore 53 = .ok (.ireturn, 1) := by decide +kernel
theorem dX0_readChoice_0 : decode cX0_readChoice 0 = .ok (.aload_n 0, 1) := by decide +kernel
theorem dX0_readChoice_1 : decode cX0_readChoice 1 = .ok (.iconst 0, 1) := by decide +kernel
theorem dX0_readChoice_2 : decode cX0_readChoice 2 = .ok (.putfield 34, 3) := by decide +kernel
theorem dX0_readChoice_5 : decode cX0_readChoice 5 = .ok (.aload_n 0, 1) := by decide +kernel
theorem dX0_readChoice_6 : decode cX0_readChoice 6 = .ok (.getfield 19, 3) := by decide +kernel
theorem dX0_readChoice_9 : decode cX0_readChoice 9 = .ok (.bipush 112, 2) := by decide +kernel
theorem dX0_readChoice_11 : decode cX0_readChoice 11 = .ok (.if_icmp .eq 4, 3) := by decide +kernel
theorem dX0_readChoice_14 : decode cX0_readChoice 14 = .ok (.return_, 1) := by decide +kernel
theorem dX0_readChoice_15 : decode cX0_readChoice 15 = .ok (.aload_n 0, 1) := by decide +kernel
theorem dX0_readChoice_16 : decode cX0_readChoice 16 = .ok (.bipush 43, 2) := by decide +kernel
theorem dX0_readChoice_18 : decode cX0_readChoice 18 = .ok (.invokevirtual 67, 3) := by decide +kernel
theorem dX0_readChoice_21 : decode cX0_readChoice 21 = .ok (.ifCond .eq 11, 3) := by decide +kernel
theorem dX0_readChoice_24 : decode cX0_readChoice 24 = .ok (.aload_n 0, 1) := by decide +kernel
theorem dX0_readChoice_25 : decode cX0_readChoice 25 = .ok (.iconst 1, 1) := by decide +kernel
theorem dX0_readChoice_26 : decode cX0_readChoice 26 = .ok (.putfield 34, 3) := by decide +kernel
theorem dX0_readChoice_29 : decode cX0_readChoice 29 = .ok (.goto 17, 3) := by decide +kernel
theorem dX0_readChoice_32 : decode cX0_readChoice 32 = .ok (.aload_n 0, 1) := by decide +kernel
theorem dX0_readChoice_33 : decode cX0_readChoice 33 = .ok (.bipush 45, 2) := by decide +kernel
theorem dX0_readChoice_35 : decode cX0_readChoice 35 = .ok (.invokevirtual 67, 3) := by decide +kernel
theorem dX0_readChoice_38 : decode cX0_readChoice 38 = .ok (.ifCond .eq 8, 3) := by decide +kernel
theorem dX0_readChoice_41 : decode cX0_readChoice 41 = .ok (.aload_n 0, 1) := by decide +kernel
theorem dX0_readChoice_42 : decode cX0_readChoice 42 = .ok (.iconst (-1), 1) := by decide +kernel
theorem dX0_readChoice_43 : decode cX0_readChoice 43 = .ok (.putfield 34, 3) := by decide +kernel
theorem dX0_readChoice_46 : decode cX0_readChoice 46 = .ok (.return_, 1) := by decide +kernel
theorem dX0_readNumber_0 : decode cX0_readNumber 0 = .ok (.aload_n 0, 1) := by decide +kernel
theorem dX0_readNumber_1 : decode cX0_readNumber 1 = .ok (.invokevirtual 53, 3) := by decide +kernel
theorem dX0_readNumber_4 : decode cX0_readNumber 4 = .ok (.invokestatic 70, 3) := by decide +kernel
theorem dX0_readNumber_7 : decode cX0_readNumber 7 = .ok (.ifCond .ne 5, 3) := by decide +kernel
theorem dX0_readNumber_10 : decode cX0_readNumber 10 = .ok (.iconst 0, 1) := by decide +kernel
theorem dX0_readNumber_11 : decode cX0_readNumber 11 = .ok (.ireturn, 1) := by decide +kernel
theorem dX0_readNumber_12 : decode cX0_readNumber 12 = .ok (.aload_n 0, 1) := by decide +kernel
theorem dX0_readNumber_13 : decode cX0_readNumber 13 = .ok (.aload_n 0, 1) := by decide +kernel
theorem dX0_readNumber_14 : decode cX0_readNumber 14 = .ok (.invokevirtual 53, 3) := by decide +kernel
theorem dX0_readNumber_17 : decode cX0_readNumber 17 = .ok (.bipush 48, 2) := by decide +kernel
theorem dX0_readNumber_19 : decode cX0_readNumber 19 = .ok (.isub, 1) := by decide +kernel
theorem dX0_readNumber_20 : decode cX0_readNumber 20 = .ok (.putfield 37, 3) := by decide +kernel
theorem dX0_readNumber_23 : decode cX0_readNumber 23 = .ok (.aload_n 0, 1) := by decide +kernel
theorem dX0_readNumber_24 : decode cX0_readNumber 24 = .ok (.dup, 1) := by decide +kernel
theorem dX0_readNumber_25 : decode cX0_readNumber 25 = .ok (.getfield 15, 3) := by decide +kernel
theorem dX0_readNumber_28 : decode cX0_readNumber 28 = .ok (.iconst 1, 1) := by decide +kernel
theorem dX0_readNumber_29 : decode cX0_readNumber 29 = .ok (.iadd, 1) := by decide +kernel
theorem dX0_readNumber_30 : decode cX0_readNumber 30 = .ok (.putfield 15, 3) := by decide +kernel
theorem dX0_readNumber_33 : decode cX0_readNumber 33 = .ok (.iconst 1, 1) := by decide +kernel
theorem dX0_readNumber_34 : decode cX0_readNumber 34 = .ok (.istore_n 1, 1) := by decide +kernel
theorem dX0_readNumber_35 : decode cX0_readNumber 35 = .ok (.iload_n 1, 1) := by decide +kernel
theorem dX0_readNumber_36 : decode cX0_readNumber 36 = .ok (.iconst 3, 1) := by decide +kernel
theorem dX0_readNumber_37 : decode cX0_readNumber 37 = .ok (.if_icmp .ge 55, 3) := by decide +kernel
theorem dX0_readNumber_40 : decode cX0_readNumber 40 = .ok (.aload_n 0, 1) := by decide +kernel
theorem dX0_readNumber_41 : decode cX0_readNumber 41 = .ok (.getfield 37, 3) := by decide +kernel
theorem dX0_readNumber_44 : decode cX0_readNumber 44 = .ok (.ifCond .eq 48, 3) := by decide +kernel
theorem dX0_readNumber_47 : decode cX0_readNumber 47 = .ok (.aload_n 0, 1) := by decide +kernel
theorem dX0_readNumber_48 : decode cX0_readNumber 48 = .ok (.invokevirtual 53, 3) := by decide +kernel
theorem dX0_readNumber_51 : decode cX0_readNumber 51 = .ok (.invokestatic 70, 3) := by decide +kernel
theorem dX0_readNumber_54 : decode cX0_readNumber 54 = .ok (.ifCond .eq 38, 3) := by decide +kernel
theorem dX0_readNumber_57 : decode cX0_readNumber 57 = .ok (.aload_n 0, 1) := by decide +kernel
theorem dX0_readNumber_58 : decode cX0_readNumber 58 = .ok (.bipush 10, 2) := by decide +kernel
theorem dX0_readNumber_60 : decode cX0_readNumber 60 = .ok (.aload_n 0, 1) := by decide +kernel
theorem dX0_readNumber_61 : decode cX0_readNumber 61 = .ok (.getfield 37, 3) := by decide +kernel
theorem dX0_readNumber_64 : decode cX0_readNumber 64 = .ok (.imul, 1) := by decide +kernel
theorem dX0_readNumber_65 : decode cX0_readNumber 65 = .ok (.aload_n 0, 1) := by decide +kernel
theorem dX0_readNumber_66 : decode cX0_readNumber 66 = .ok (.invokevirtual 53, 3) := by decide +kernel
theorem dX0_readNumber_69 : decode cX0_readNumber 69 = .ok (.iadd, 1) := by decide +kernel
theorem dX0_readNumber_70 : decode cX0_readNumber 70 = .ok (.bipush 48, 2) := by decide +kernel
theorem dX0_readNumber_72 : decode cX0_readNumber 72 = .ok (.isub, 1) := by decide +kernel
theorem dX0_readNumber_73 : decode cX0_readNumber 73 = .ok (.putfield 37, 3) := by decide +kernel
theorem dX0_readNumber_76 : decode cX0_readNumber 76 = .ok (.aload_n 0, 1) := by decide +kernel
theorem dX0_readNumber_77 : decode cX0_readNumber 77 = .ok (.dup, 1) := by decide +kernel
theorem dX0_readNumber_78 : decode cX0_readNumber 78 = .ok (.getfield 15, 3) := by decide +kernel
theorem dX0_readNumber_81 : decode cX0_readNumber 81 = .ok (.iconst 1, 1) := by decide +kernel
theorem dX0_readNumber_82 : decode cX0_readNumber 82 = .ok (.iadd, 1) := by decide +kernel
theorem dX0_readNumber_83 : decode cX0_readNumber 83 = .ok (.putfield 15, 3) := by decide +kernel
theorem dX0_readNumber_86 : decode cX0_readNumber 86 = .ok (.iinc 1 1, 3) := by decide +kernel
theorem dX0_readNumber_89 : decode cX0_readNumber 89 = .ok (.goto (-54), 3) := by decide +kernel
theorem dX0_readNumber_92 : decode cX0_readNumber 92 = .ok (.iconst 1, 1) := by decide +kernel
theorem dX0_readNumber_93 : decode cX0_readNumber 93 = .ok (.ireturn, 1) := by decide +kernel
theorem dX0_pass_0 : decode cX0_pass 0 = .ok (.aload_n 0, 1) := by decide +kernel
theorem dX0_pass_1 : decode cX0_pass 1 = .ok (.invokevirtual 53, 3) := by decide +kernel
theorem dX0_pass_4 : decode cX0_pass 4 = .ok (.iload_n 1, 1) := by decide +kernel
theorem dX0_pass_5 : decode cX0_pass 5 = .ok (.if_icmp .eq 5, 3) := by decide +kernel
theorem dX0_pass_8 : decode cX0_pass 8 = .ok (.iconst 0, 1) := by decide +kernel
theorem dX0_pass_9 : decode cX0_pass 9 = .ok (.ireturn, 1) := by decide +kernel
theorem dX0_pass_10 : decode cX0_pass 10 = .ok (.aload_n 0, 1) := by decide +kernel
theorem dX0_pass_11 : decode cX0_pass 11 = .ok (.dup, 1) := by decide +kernel
theorem dX0_pass_12 : decode cX0_pass 12 = .ok (.getfield 15, 3) := by decide +kernel
theorem dX0_pass_15 : decode cX0_pass 15 = .ok (.iconst 1, 1) := by decide +kernel
theorem dX0_pass_16 : decode cX0_pass 16 = .ok (.iadd, 1) := by decide +kernel
theorem dX0_pass_17 : decode cX0_pass 17 = .ok (.putfield 15, 3) := by decide +kernel
theorem dX0_pass_20 : decode cX0_pass 20 = .ok (.iconst 1, 1) := by decide +kernel
theorem dX0_pass_21 : decode cX0_pass 21 = .ok (.ireturn, 1) := by decide +kernel
theorem dX0_isDigit_0 : decode cX0_isDigit 0 = .ok (.iload_n 0, 1) := by decide +kernel
theorem dX0_isDigit_1 : decode cX0_isDigit 1 = .ok (.bipush 48, 2) := by decide +kernel
theorem dX0_isDigit_3 : decode cX0_isDigit 3 = .ok (.if_icmp .lt 13, 3) := by decide +kernel
theorem dX0_isDigit_6 : decode cX0_isDigit 6 = .ok (.iload_n 0, 1) := by decide +kernel
theorem dX0_isDigit_7 : decode cX0_isDigit 7 = .ok (.bipush 57, 2) := by decide +kernel
theorem dX0_isDigit_9 : decode cX0_isDigit 9 = .ok (.if_icmp .gt 7, 3) := by decide +kernel
theorem dX0_isDigit_12 : decode cX0_isDigit 12 = .ok (.iconst 1, 1) := by decide +kernel
theorem dX0_isDigit_13 : decode cX0_isDigit 13 = .ok (.goto 4, 3) := by decide +kernel
theorem dX0_isDigit_16 : decode cX0_isDigit 16 = .ok (.iconst 0, 1) := by decide +kernel
theorem dX0_isDigit_17 : decode cX0_isDigit 17 = .ok (.ireturn, 1) := by decide +kernel
theorem dX0_makesSense_0 : decode cX0_makesSense 0 = .ok (.aload_n 0, 1) := by decide +kernel
theorem dX0_makesSense_1 : decode cX0_makesSense 1 = .ok (.getfield 19, 3) := by decide +kernel
theorem dX0_makesSense_4 : decode cX0_makesSense 4 = .ok (.bipush 112, 2) := by decide +kernel
theorem dX0_makesSense_6 : decode cX0_makesSense 6 = .ok (.if_icmp .ne 33, 3) := by decide +kernel
theorem dX0_makesSense_9 : decode cX0_makesSense 9 = .ok (.aload_n 0, 1) := by decide +kernel
theorem dX0_makesSense_10 : decode cX0_makesSense 10 = .ok (.getfield 25, 3) := by decide +kernel
theorem dX0_makesSense_13 : decode cX0_makesSense 13 = .ok (.invokestatic 73, 3) := by decide +kernel
theorem dX0_makesSense_16 : decode cX0_makesSense 16 = .ok (.ifCond .eq 21, 3) := by decide +kernel
theorem dX0_makesSense_19 : decode cX0_makesSense 19 = .ok (.aload_n 0, 1) := by decide +kernel
theorem dX0_makesSense_20 : decode cX0_makesSense 20 = .ok (.getfield 28, 3) := by decide +kernel
theorem dX0_makesSense_23 : decode cX0_makesSense 23 = .ok (.iconst 2, 1) := by decide +kernel
theorem dX0_makesSense_24 : decode cX0_makesSense 24 = .ok (.if_icmp .gt 13, 3) := by decide +kernel
theorem dX0_makesSense_27 : decode cX0_makesSense 27 = .ok (.iload_n 1, 1) := by decide +kernel
theorem dX0_makesSense_28 : decode cX0_makesSense 28 = .ok (.bipush 10, 2) := by decide +kernel
theorem dX0_makesSense_30 : decode cX0_makesSense 30 = .ok (.if_icmp .ge 7, 3) := by decide +kernel
theorem dX0_makesSense_33 : decode cX0_makesSense 33 = .ok (.iconst 1, 1) := by decide +kernel
theorem dX0_makesSense_34 : decode cX0_makesSense 34 = .ok (.goto 4, 3) := by decide +kernel
theorem dX0_makesSense_37 : decode cX0_makesSense 37 = .ok (.iconst 0, 1) := by decide +kernel
theorem dX0_makesSense_38 : decode cX0_makesSense 38 = .ok (.ireturn, 1) := by decide +kernel
theorem dX0_makesSense_39 : decode cX0_makesSense 39 = .ok (.aload_n 0, 1) := by decide +kernel
theorem dX0_makesSense_40 : decode cX0_makesSense 40 = .ok (.getfield 19, 3) := by decide +kernel
theorem dX0_makesSense_43 : decode cX0_makesSense 43 = .ok (.bipush 108, 2) := by decide +kernel
theorem dX0_makesSense_45 : decode cX0_makesSense 45 = .ok (.if_icmp .ne 11, 3) := by decide +kernel
theorem dX0_makesSense_48 : decode cX0_makesSense 48 = .ok (.aload_n 0, 1) := by decide +kernel
theorem dX0_makesSense_49 : decode cX0_makesSense 49 = .ok (.getfield 25, 3) := by decide +kernel
theorem dX0_makesSense_52 : decode cX0_makesSense 52 = .ok (.invokestatic 73, 3) := by decide +kernel
theorem dX0_makesSense_55 : decode cX0_makesSense 55 = .ok (.ireturn, 1) := by decide +kernel
theorem dX0_makesSense_56 : decode cX0_makesSense 56 = .ok (.aload_n 0, 1) := by decide +kernel
theorem dX0_makesSense_57 : decode cX0_makesSense 57 = .ok (.getfield 25, 3) := by decide +kernel
theorem dX0_makesSense_60 : decode cX0_makesSense 60 = .ok (.iload_n 1, 1) := by decide +kernel
theorem dX0_makesSense_61 : decode cX0_makesSense 61 = .ok (.if_icmp .ge 35, 3) := by decide +kernel
theorem dX0_makesSense_64 : decode cX0_makesSense 64 = .ok (.aload_n 0, 1) := by decide +kernel
theorem dX0_makesSense_65 : decode cX0_makesSense 65 = .ok (.getfield 28, 3) := by decide +kernel
theorem dX0_makesSense_68 : decode cX0_makesSense 68 = .ok (.iload_n 1, 1) := by decide +kernel
theorem dX0_makesSense_69 : decode cX0_makesSense 69 = .ok (.if_icmp .ge 27, 3) := by decide +kernel
theorem dX0_makesSense_72 : decode cX0_makesSense 72 = .ok (.aload_n 0, 1) := by decide +kernel
theorem dX0_makesSense_73 : decode cX0_makesSense 73 = .ok (.getfield 25, 3) := by decide +kernel
theorem dX0_makesSense_76 : decode cX0_makesSense 76 = .ok (.aload_n 0, 1) := by decide +kernel
theorem dX0_makesSense_77 : decode cX0_makesSense 77 = .ok (.getfield 28, 3) := by decide +kernel
theorem dX0_makesSense_80 : decode cX0_makesSense 80 = .ok (.if_icmp .eq 16, 3) := by decide +kernel
theorem dX0_makesSense_83 : decode cX0_makesSense 83 = .ok (.aload_n 0, 1) := by decide +kernel
theorem dX0_makesSense_84 : decode cX0_makesSense 84 = .ok (.getfield 31, 3) := by decide +kernel
theorem dX0_makesSense_87 : decode cX0_makesSense 87 = .ok (.bipush 99, 2) := by decide +kernel
theorem dX0_makesSense_89 : decode cX0_makesSense 89 = .ok (.if_icmp .gt 7, 3) := by decide +kernel
theorem dX0_makesSense_92 : decode cX0_makesSense 92 = .ok (.iconst 1, 1) := by decide +kernel
theorem dX0_makesSense_93 : decode cX0_makesSense 93 = .ok (.goto 4, 3) := by decide +kernel
theorem dX0_makesSense_96 : decode cX0_makesSense 96 = .ok (.iconst 0, 1) := by decide +kernel
theorem dX0_makesSense_97 : decode cX0_makesSense 97 = .ok (.ireturn, 1) := by decide +kernel
theorem dX1_init_0 : decode cX1_init 0 = .ok (.aload_n 0, 1) := by decide +kernel
theorem dX1_init_1 : decode cX1_init 1 = .ok (.invokespecial 3, 3) := by decide +kernel
theorem dX1_init_4 : decode cX1_init 4 = .ok (.aload_n 0, 1) := by decide +kernel
theorem dX1_init_5 : decode cX1_init 5 = .ok (.aconst_null, 1) := by decide +kernel
theorem dX1_init_6 : decode cX1_init 6 = .ok (.putfield 9, 3) := by decide +kernel
theorem dX1_init_9 : decode cX1_init 9 = .ok (.aload_n 0, 1) := by decide +kernel
theorem dX1_init_10 : decode cX1_init 10 = .ok (.iconst 0, 1) := by decide +kernel
theorem dX1_init_11 : decode cX1_init 11 = .ok (.putfield 15, 3) := by decide +kernel
theorem dX1_init_14 : decode cX1_init 14 = .ok (.aload_n 0, 1) := by decide +kernel
theorem dX1_init_15 : decode cX1_init 15 = .ok (.iconst 0, 1) := by decide +kernel
theorem dX1_init_16 : decode cX1_init 16 = .ok (.putfield 19, 3) := by decide +kernel
theorem dX1_init_19 : decode cX1_init 19 = .ok (.aload_n 0, 1) := by decide +kernel
theorem dX1_init_20 : decode cX1_init 20 = .ok (.iconst 0, 1) := by decide +kernel
theorem dX1_init_21 : decode cX1_init 21 = .ok (.putfield 23, 3) := by decide +kernel
theorem dX1_init_24 : decode cX1_init 24 = .ok (.aload_n 0, 1) := by decide +kernel
theorem dX1_init_25 : decode cX1_init 25 = .ok (.bipush 100, 2) := by decide +kernel
theorem dX1_init_27 : decode cX1_init 27 = .ok (.newarray .int, 2) := by decide +kernel
theorem dX1_init_29 : decode cX1_init 29 = .ok (.putfield 26, 3) := by decide +kernel
theorem dX1_init_32 : decode cX1_init 32 = .ok (.return_, 1) := by decide +kernel
theorem dX1_isEmpty_0 : decode cX1_isEmpty 0 = .ok (.aload_n 0, 1) := by decide +kernel
theorem dX1_isEmpty_1 : decode cX1_isEmpty 1 = .ok (.getfield 9, 3) := by decide +kernel
theorem dX1_isEmpty_4 : decode cX1_isEmpty 4 = .ok (.ifnonnull 14, 3) := by decide +kernel
theorem dX1_isEmpty_7 : decode cX1_isEmpty 7 = .ok (.aload_n 0, 1) := by decide +kernel
theorem dX1_isEmpty_8 : decode cX1_isEmpty 8 = .ok (.getfield 15, 3) := by decide +kernel
theorem dX1_isEmpty_11 : decode cX1_isEmpty 11 = .ok (.ifCond .ne 7, 3) := by decide +kernel
theorem dX1_isEmpty_14 : decode cX1_isEmpty 14 = .ok (.iconst 1, 1) := by decide +kernel
theorem dX1_isEmpty_15 : decode cX1_isEmpty 15 = .ok (.goto 4, 3) := by decide +kernel
theorem dX1_isEmpty_18 : decode cX1_isEmpty 18 = .ok (.iconst 0, 1) := by decide +kernel
theorem dX1_isEmpty_19 : decode cX1_isEmpty 19 = .ok (.ireturn, 1) := by decide +kernel
theorem dX1_hold_0 : decode cX1_hold 0 = .ok (.aload_n 0, 1) := by decide +kernel
theorem dX1_hold_1 : decode cX1_hold 1 = .ok (.aload_n 1, 1) := by decide +kernel
theorem dX1_hold_2 : decode cX1_hold 2 = .ok (.putfield 9, 3) := by decide +kernel
theorem dX1_hold_5 : decode cX1_hold 5 = .ok (.aload_n 0, 1) := by decide +kernel
theorem dX1_hold_6 : decode cX1_hold 6 = .ok (.iconst 0, 1) := by decide +kernel
theorem dX1_hold_7 : decode cX1_hold 7 = .ok (.putfield 15, 3) := by decide +kernel
theorem dX1_hold_10 : decode cX1_hold 10 = .ok (.return_, 1) := by decide +kernel
theorem dX1_holdRow_0 : decode cX1_holdRow 0 = .ok (.aload_n 0, 1) := by decide +kernel
theorem dX1_holdRow_1 : decode cX1_holdRow 1 = .ok (.aconst_null, 1) := by decide +kernel
theorem dX1_holdRow_2 : decode cX1_holdRow 2 = .ok (.putfield 9, 3) := by decide +kernel
theorem dX1_holdRow_5 : decode cX1_holdRow 5 = .ok (.aload_n 0, 1) := by decide +kernel
theorem dX1_holdRow_6 : decode cX1_holdRow 6 = .ok (.iconst 1, 1) := by decide +kernel
theorem dX1_holdRow_7 : decode cX1_holdRow 7 = .ok (.putfield 15, 3) := by decide +kernel
theorem dX1_holdRow_10 : decode cX1_holdRow 10 = .ok (.aload_n 0, 1) := by decide +kernel
theorem dX1_holdRow_11 : decode cX1_holdRow 11 = .ok (.iload_n 1, 1) := by decide +kernel
theorem dX1_holdRow_12 : decode cX1_holdRow 12 = .ok (.putfield 19, 3) := by decide +kernel
theorem dX1_holdRow_15 : decode cX1_holdRow 15 = .ok (.aload_n 0, 1) := by decide +kernel
theorem dX1_holdRow_16 : decode cX1_holdRow 16 = .ok (.iload_n 2, 1) := by decide +kernel
theorem dX1_holdRow_17 : decode cX1_holdRow 17 = .ok (.putfield 23, 3) := by decide +kernel
theorem dX1_holdRow_20 : decode cX1_holdRow 20 = .ok (.iconst 0, 1) := by decide +kernel
theorem dX1_holdRow_21 : decode cX1_holdRow 21 = .ok (.istore_n 3, 1) := by decide +kernel
theorem dX1_holdRow_22 : decode cX1_holdRow 22 = .ok (.iload_n 3, 1) := by decide +kernel
theorem dX1_holdRow_23 : decode cX1_holdRow 23 = .ok (.bipush 100, 2) := by decide +kernel
theorem dX1_holdRow_25 : decode cX1_holdRow 25 = .ok (.if_icmp .ge 16, 3) := by decide +kernel
theorem dX1_holdRow_28 : decode cX1_holdRow 28 = .ok (.aload_n 0, 1) := by decide +kernel
theorem dX1_holdRow_29 : decode cX1_holdRow 29 = .ok (.getfield 26, 3) := by decide +kernel
theorem dX1_holdRow_32 : decode cX1_holdRow 32 = .ok (.iload_n 3, 1) := by decide +kernel
theorem dX1_holdRow_33 : decode cX1_holdRow 33 = .ok (.iconst 0, 1) := by decide +kernel
theorem dX1_holdRow_34 : decode cX1_holdRow 34 = .ok (.iastore, 1) := by decide +kernel
theorem dX1_holdRow_35 : decode cX1_holdRow 35 = .ok (.iinc 3 1, 3) := by decide +kernel
theorem dX1_holdRow_38 : decode cX1_holdRow 38 = .ok (.goto (-16), 3) := by decide +kernel
theorem dX1_holdRow_41 : decode cX1_holdRow 41 = .ok (.return_, 1) := by decide +kernel
theorem dX1_hasElement_0 : decode cX1_hasElement 0 = .ok (.aload_n 0, 1) := by decide +kernel
theorem dX1_hasElement_1 : decode cX1_hasElement 1 = .ok (.getfield 15, 3) := by decide +kernel
theorem dX1_hasElement_4 : decode cX1_hasElement 4 = .ok (.ifCond .eq 19, 3) := by decide +kernel
theorem dX1_hasElement_7 : decode cX1_hasElement 7 = .ok (.iload_n 1, 1) := by decide +kernel
theorem dX1_hasElement_8 : decode cX1_hasElement 8 = .ok (.ifCond .lt 15, 3) := by decide +kernel
theorem dX1_hasElement_11 : decode cX1_hasElement 11 = .ok (.iload_n 1, 1) := by decide +kernel
theorem dX1_hasElement_12 : decode cX1_hasElement 12 = .ok (.aload_n 0, 1) := by decide +kernel
theorem dX1_hasElement_13 : decode cX1_hasElement 13 = .ok (.getfield 23, 3) := by decide +kernel
theorem dX1_hasElement_16 : decode cX1_hasElement 16 = .ok (.if_icmp .ge 7, 3) := by decide +kernel
theorem dX1_hasElement_19 : decode cX1_hasElement 19 = .ok (.iconst 1, 1) := by decide +kernel
theorem dX1_hasElement_20 : decode cX1_hasElement 20 = .ok (.goto 4, 3) := by decide +kernel
theorem dX1_hasElement_23 : decode cX1_hasElement 23 = .ok (.iconst 0, 1) := by decide +kernel
theorem dX1_hasElement_24 : decode cX1_hasElement 24 = .ok (.ireturn, 1) := by decide +kernel
theorem dX1_hasSpan_0 : decode cX1_hasSpan 0 = .ok (.aload_n 0, 1) := by decide +kernel
theorem dX1_hasSpan_1 : decode cX1_hasSpan 1 = .ok (.getfield 15, 3) := by decide +kernel
theorem dX1_hasSpan_4 : decode cX1_hasSpan 4 = .ok (.ifCond .eq 25, 3) := by decide +kernel
theorem dX1_hasSpan_7 : decode cX1_hasSpan 7 = .ok (.iload_n 1, 1) := by decide +kernel
theorem dX1_hasSpan_8 : decode cX1_hasSpan 8 = .ok (.ifCond .lt 21, 3) := by decide +kernel
theorem dX1_hasSpan_11 : decode cX1_hasSpan 11 = .ok (.iload_n 2, 1) := by decide +kernel
theorem dX1_hasSpan_12 : decode cX1_hasSpan 12 = .ok (.ifCond .lt 17, 3) := by decide +kernel
theorem dX1_hasSpan_15 : decode cX1_hasSpan 15 = .ok (.iload_n 2, 1) := by decide +kernel
theorem dX1_hasSpan_16 : decode cX1_hasSpan 16 = .ok (.aload_n 0, 1) := by decide +kernel
theorem dX1_hasSpan_17 : decode cX1_hasSpan 17 = .ok (.getfield 23, 3) := by decide +kernel
theorem dX1_hasSpan_20 : decode cX1_hasSpan 20 = .ok (.iload_n 1, 1) := by decide +kernel
theorem dX1_hasSpan_21 : decode cX1_hasSpan 21 = .ok (.isub, 1) := by decide +kernel
theorem dX1_hasSpan_22 : decode cX1_hasSpan 22 = .ok (.if_icmp .gt 7, 3) := by decide +kernel
theorem dX1_hasSpan_25 : decode cX1_hasSpan 25 = .ok (.iconst 1, 1) := by decide +kernel
theorem dX1_hasSpan_26 : decode cX1_hasSpan 26 = .ok (.goto 4, 3) := by decide +kernel
theorem dX1_hasSpan_29 : decode cX1_hasSpan 29 = .ok (.iconst 0, 1) := by decide +kernel
theorem dX1_hasSpan_30 : decode cX1_hasSpan 30 = .ok (.ireturn, 1) := by decide +kernel
theorem dX1_lowestBits_0 : decode cX1_lowestBits 0 = .ok (.aload_n 0, 1) := by decide +kernel
theorem dX1_lowestBits_1 : decode cX1_lowestBits 1 = .ok (.getfield 19, 3) := by decide +kernel
theorem dX1_lowestBits_4 : decode cX1_lowestBits 4 = .ok (.ifCond .ne 6, 3) := by decide +kernel
theorem dX1_lowestBits_7 : decode cX1_lowestBits 7 = .ok (.iload_n 1, 1) := by decide +kernel
theorem dX1_lowestBits_8 : decode cX1_lowestBits 8 = .ok (.i2b, 1) := by decide +kernel
theorem dX1_lowestBits_9 : decode cX1_lowestBits 9 = .ok (.ireturn, 1) := by decide +kernel
theorem dX1_lowestBits_10 : decode cX1_lowestBits 10 = .ok (.aload_n 0, 1) := by decide +kernel
theorem dX1_lowestBits_11 : decode cX1_lowestBits 11 = .ok (.getfield 19, 3) := by decide +kernel
theorem dX1_lowestBits_14 : decode cX1_lowestBits 14 = .ok (.iconst 1, 1) := by decide +kernel
theorem dX1_lowestBits_15 : decode cX1_lowestBits 15 = .ok (.if_icmp .ne 8, 3) := by decide +kernel
theorem dX1_lowestBits_18 : decode cX1_lowestBits 18 = .ok (.iload_n 1, 1) := by decide +kernel
theorem dX1_lowestBits_19 : decode cX1_lowestBits 19 = .ok (.i2s, 1) := by decide +kernel
theorem dX1_lowestBits_20 : decode cX1_lowestBits 20 = .ok (.goto 4, 3) := by decide +kernel
theorem dX1_lowestBits_23 : decode cX1_lowestBits 23 = .ok (.iload_n 1, 1) := by decide +kernel
theorem dX1_lowestBits_24 : decode cX1_lowestBits 24 = .ok (.ireturn, 1) := by decide +kernel
theorem dX1_leastNumber_0 : decode cX1_leastNumber 0 = .ok (.aload_n 0, 1) := by decide +kernel
theorem dX1_leastNumber_1 : decode cX1_leastNumber 1 = .ok (.getfield 19, 3) := by decide +kernel
theorem dX1_leastNumber_4 : decode cX1_leastNumber 4 = .ok (.ifCond .ne 6, 3) := by decide +kernel
theorem dX1_leastNumber_7 : decode cX1_leastNumber 7 = .ok (.bipush (-128), 2) := by decide +kernel
theorem dX1_leastNumber_9 : decode cX1_leastNumber 9 = .ok (.ireturn, 1) := by decide +kernel
theorem dX1_leastNumber_10 : decode cX1_leastNumber 10 = .ok (.aload_n 0, 1) := by decide +kernel
theorem dX1_leastNumber_11 : decode cX1_leastNumber 11 = .ok (.getfield 19, 3) := by decide +kernel
theorem dX1_leastNumber_14 : decode cX1_leastNumber 14 = .ok (.iconst 1, 1) := by decide +kernel
theorem dX1_leastNumber_15 : decode cX1_leastNumber 15 = .ok (.if_icmp .ne 9, 3) := by decide +kernel
theorem dX1_leastNumber_18 : decode cX1_leastNumber 18 = .ok (.sipush (-32768), 3) := by decide +kernel
theorem dX1_leastNumber_21 : decode cX1_leastNumber 21 = .ok (.goto 5, 3) := by decide +kernel
theorem dX1_leastNumber_24 : decode cX1_leastNumber 24 = .ok (.ldc 30, 2) := by decide +kernel
theorem dX1_leastNumber_26 : decode cX1_leastNumber 26 = .ok (.ireturn, 1) := by decide +kernel
theorem dX1_tellsPair_0 : decode cX1_tellsPair 0 = .ok (.aload_n 0, 1) := by decide +kernel
theorem dX1_tellsPair_1 : decode cX1_tellsPair 1 = .ok (.invokevirtual 31, 3) := by decide +kernel
theorem dX1_tellsPair_4 : decode cX1_tellsPair 4 = .ok (.istore_n 2, 1) := by decide +kernel
theorem dX1_tellsPair_5 : decode cX1_tellsPair 5 = .ok (.aload_n 0, 1) := by decide +kernel
theorem dX1_tellsPair_6 : decode cX1_tellsPair 6 = .ok (.iload_n 1, 1) := by decide +kernel
theorem dX1_tellsPair_7 : decode cX1_tellsPair 7 = .ok (.invokevirtual 35, 3) := by decide +kernel
theorem dX1_tellsPair_10 : decode cX1_tellsPair 10 = .ok (.ifCond .eq 39, 3) := by decide +kernel
theorem dX1_tellsPair_13 : decode cX1_tellsPair 13 = .ok (.aload_n 0, 1) := by decide +kernel
theorem dX1_tellsPair_14 : decode cX1_tellsPair 14 = .ok (.iload_n 1, 1) := by decide +kernel
theorem dX1_tellsPair_15 : decode cX1_tellsPair 15 = .ok (.iconst 1, 1) := by decide +kernel
theorem dX1_tellsPair_16 : decode cX1_tellsPair 16 = .ok (.iadd, 1) := by decide +kernel
theorem dX1_tellsPair_17 : decode cX1_tellsPair 17 = .ok (.invokevirtual 35, 3) := by decide +kernel
theorem dX1_tellsPair_20 : decode cX1_tellsPair 20 = .ok (.ifCond .eq 29, 3) := by decide +kernel
theorem dX1_tellsPair_23 : decode cX1_tellsPair 23 = .ok (.aload_n 0, 1) := by decide +kernel
theorem dX1_tellsPair_24 : decode cX1_tellsPair 24 = .ok (.getfield 26, 3) := by decide +kernel
theorem dX1_tellsPair_27 : decode cX1_tellsPair 27 = .ok (.iload_n 1, 1) := by decide +kernel
theorem dX1_tellsPair_28 : decode cX1_tellsPair 28 = .ok (.iaload, 1) := by decide +kernel
theorem dX1_tellsPair_29 : decode cX1_tellsPair 29 = .ok (.iload_n 2, 1) := by decide +kernel
theorem dX1_tellsPair_30 : decode cX1_tellsPair 30 = .ok (.if_icmp .eq 19, 3) := by decide +kernel
theorem dX1_tellsPair_33 : decode cX1_tellsPair 33 = .ok (.aload_n 0, 1) := by decide +kernel
theorem dX1_tellsPair_34 : decode cX1_tellsPair 34 = .ok (.getfield 26, 3) := by decide +kernel
theorem dX1_tellsPair_37 : decode cX1_tellsPair 37 = .ok (.iload_n 1, 1) := by decide +kernel
theorem dX1_tellsPair_38 : decode cX1_tellsPair 38 = .ok (.iconst 1, 1) := by decide +kernel
theorem dX1_tellsPair_39 : decode cX1_tellsPair 39 = .ok (.iadd, 1) := by decide +kernel
theorem dX1_tellsPair_40 : decode cX1_tellsPair 40 = .ok (.iaload, 1) := by decide +kernel
theorem dX1_tellsPair_41 : decode cX1_tellsPair 41 = .ok (.iload_n 2, 1) := by decide +kernel
theorem dX1_tellsPair_42 : decode cX1_tellsPair 42 = .ok (.if_icmp .eq 7, 3) := by decide +kernel
theorem dX1_tellsPair_45 : decode cX1_tellsPair 45 = .ok (.iconst 1, 1) := by decide +kernel
theorem dX1_tellsPair_46 : decode cX1_tellsPair 46 = .ok (.goto 4, 3) := by decide +kernel
theorem dX1_tellsPair_49 : decode cX1_tellsPair 49 = .ok (.iconst 0, 1) := by decide +kernel
theorem dX1_tellsPair_50 : decode cX1_tellsPair 50 = .ok (.ireturn, 1) := by decide +kernel
theorem dX2_init_0 : decode cX2_init 0 = .ok (.aload_n 0, 1) := by decide +kernel
theorem dX2_init_1 : decode cX2_init 1 = .ok (.invokespecial 3, 3) := by decide +kernel
theorem dX2_init_4 : decode cX2_init 4 = .ok (.aload_n 0, 1) := by decide +kernel
theorem dX2_init_5 : decode cX2_init 5 = .ok (.bipush (-4), 2) := by decide +kernel
theorem dX2_init_7 : decode cX2_init 7 = .ok (.putfield 9, 3) := by decide +kernel
theorem dX2_init_10 : decode cX2_init 10 = .ok (.aload_n 0, 1) := by decide +kernel
theorem dX2_init_11 : decode cX2_init 11 = .ok (.iconst 0, 1) := by decide +kernel
theorem dX2_init_12 : decode cX2_init 12 = .ok (.putfield 15, 3) := by decide +kernel
theorem dX2_init_15 : decode cX2_init 15 = .ok (.aload_n 0, 1) := by decide +kernel
theorem dX2_init_16 : decode cX2_init 16 = .ok (.iconst 0, 1) := by decide +kernel
theorem dX2_init_17 : decode cX2_init 17 = .ok (.putfield 18, 3) := by decide +kernel
theorem dX2_init_20 : decode cX2_init 20 = .ok (.aload_n 0, 1) := by decide +kernel
theorem dX2_init_21 : decode cX2_init 21 = .ok (.lconst 0, 1) := by decide +kernel
theorem dX2_init_22 : decode cX2_init 22 = .ok (.putfield 21, 3) := by decide +kernel
theorem dX2_init_25 : decode cX2_init 25 = .ok (.aload_n 0, 1) := by decide +kernel
theorem dX2_init_26 : decode cX2_init 26 = .ok (.lconst 0, 1) := by decide +kernel
theorem dX2_init_27 : decode cX2_init 27 = .ok (.putfield 25, 3) := by decide +kernel
theorem dX2_init_30 : decode cX2_init 30 = .ok (.aload_n 0, 1) := by decide +kernel
theorem dX2_init_31 : decode cX2_init 31 = .ok (.lconst 1, 1) := by decide +kernel
theorem dX2_init_32 : decode cX2_init 32 = .ok (.putfield 28, 3) := by decide +kernel
theorem dX2_init_35 : decode cX2_init 35 = .ok (.return_, 1) := by decide +kernel
theorem dX2_setIn_0 : decode cX2_setIn 0 = .ok (.aload_n 0, 1) := by decide +kernel
theorem dX2_setIn_1 : decode cX2_setIn 1 = .ok (.iload_n 1, 1) := by decide +kernel
theorem dX2_setIn_2 : decode cX2_setIn 2 = .ok (.putfield 9, 3) := by decide +kernel
theorem dX2_setIn_5 : decode cX2_setIn 5 = .ok (.aload_n 0, 1) := by decide +kernel
theorem dX2_setIn_6 : decode cX2_setIn 6 = .ok (.lconst 1, 1) := by decide +kernel
theorem dX2_setIn_7 : decode cX2_setIn 7 = .ok (.putfield 28, 3) := by decide +kernel
theorem dX2_setIn_10 : decode cX2_setIn 10 = .ok (.return_, 1) := by decide +kernel
theorem dX2_setUnderWay_0 : decode cX2_setUnderWay 0 = .ok (.aload_n 0, 1) := by decide +kernel
theorem dX2_setUnderWay_1 : decode cX2_setUnderWay 1 = .ok (.bipush (-4), 2) := by decide +kernel
theorem dX2_setUnderWay_3 : decode cX2_setUnderWay 3 = .ok (.putfield 9, 3) := by decide +kernel
theorem dX2_setUnderWay_6 : decode cX2_setUnderWay 6 = .ok (.aload_n 0, 1) := by decide +kernel
theorem dX2_setUnderWay_7 : decode cX2_setUnderWay 7 = .ok (.iload_n 1, 1) := by decide +kernel
theorem dX2_setUnderWay_8 : decode cX2_setUnderWay 8 = .ok (.putfield 15, 3) := by decide +kernel
theorem dX2_setUnderWay_11 : decode cX2_setUnderWay 11 = .ok (.aload_n 0, 1) := by decide +kernel
theorem dX2_setUnderWay_12 : decode cX2_setUnderWay 12 = .ok (.iload_n 2, 1) := by decide +kernel
theorem dX2_setUnderWay_13 : decode cX2_setUnderWay 13 = .ok (.ifCond .le 8, 3) := by decide +kernel
theorem dX2_setUnderWay_16 : decode cX2_setUnderWay 16 = .ok (.iload_n 2, 1) := by decide +kernel
theorem dX2_setUnderWay_17 : decode cX2_setUnderWay 17 = .ok (.i2l, 1) := by decide +kernel
theorem dX2_setUnderWay_18 : decode cX2_setUnderWay 18 = .ok (.goto 4, 3) := by decide +kernel
theorem dX2_setUnderWay_21 : decode cX2_setUnderWay 21 = .ok (.lconst 1, 1) := by decide +kernel
theorem dX2_setUnderWay_22 : decode cX2_setUnderWay 22 = .ok (.putfield 28, 3) := by decide +kernel
theorem dX2_setUnderWay_25 : decode cX2_setUnderWay 25 = .ok (.return_, 1) := by decide +kernel
theorem dX2_isUnderWay_0 : decode cX2_isUnderWay 0 = .ok (.aload_n 0, 1) := by decide +kernel
theorem dX2_isUnderWay_1 : decode cX2_isUnderWay 1 = .ok (.getfield 9, 3) := by decide +kernel
theorem dX2_isUnderWay_4 : decode cX2_isUnderWay 4 = .ok (.bipush (-4), 2) := by decide +kernel
theorem dX2_isUnderWay_6 : decode cX2_isUnderWay 6 = .ok (.if_icmp .ne 7, 3) := by decide +kernel
theorem dX2_isUnderWay_9 : decode cX2_isUnderWay 9 = .ok (.iconst 1, 1) := by decide +kernel
theorem dX2_isUnderWay_10 : decode cX2_isUnderWay 10 = .ok (.goto 4, 3) := by decide +kernel
theorem dX2_isUnderWay_13 : decode cX2_isUnderWay 13 = .ok (.iconst 0, 1) := by decide +kernel
theorem dX2_isUnderWay_14 : decode cX2_isUnderWay 14 = .ok (.ireturn, 1) := by decide +kernel
theorem dX2_roundsDone_0 : decode cX2_roundsDone 0 = .ok (.aload_n 0, 1) := by decide +kernel
theorem dX2_roundsDone_1 : decode cX2_roundsDone 1 = .ok (.getfield 25, 3) := by decide +kernel
theorem dX2_roundsDone_4 : decode cX2_roundsDone 4 = .ok (.ldc2_w 31, 3) := by decide +kernel
theorem dX2_roundsDone_7 : decode cX2_roundsDone 7 = .ok (.aload_n 0, 1) := by decide +kernel
theorem dX2_roundsDone_8 : decode cX2_roundsDone 8 = .ok (.getfield 28, 3) := by decide +kernel
theorem dX2_roundsDone_11 : decode cX2_roundsDone 11 = .ok (.lmul, 1) := by decide +kernel
theorem dX2_roundsDone_12 : decode cX2_roundsDone 12 = .ok (.invokestatic 33, 3) := by decide +kernel
theorem dX2_roundsDone_15 : decode cX2_roundsDone 15 = .ok (.l2i, 1) := by decide +kernel
theorem dX2_roundsDone_16 : decode cX2_roundsDone 16 = .ok (.ireturn, 1) := by decide +kernel
theorem dX2_dayByMidnight_0 : decode cX2_dayByMidnight 0 = .ok (.aload_n 0, 1) := by decide +kernel
theorem dX2_dayByMidnight_1 : decode cX2_dayByMidnight 1 = .ok (.iload_n 1, 1) := by decide +kernel
theorem dX2_dayByMidnight_2 : decode cX2_dayByMidnight 2 = .ok (.sipush 720, 3) := by decide +kernel
theorem dX2_dayByMidnight_5 : decode cX2_dayByMidnight 5 = .ok (.isub, 1) := by decide +kernel
theorem dX2_dayByMidnight_6 : decode cX2_dayByMidnight 6 = .ok (.invokevirtual 39, 3) := by decide +kernel
theorem dX2_dayByMidnight_9 : decode cX2_dayByMidnight 9 = .ok (.aload_n 0, 1) := by decide +kernel
theorem dX2_dayByMidnight_10 : decode cX2_dayByMidnight 10 = .ok (.invokevirtual 43, 3) := by decide +kernel
theorem dX2_dayByMidnight_13 : decode cX2_dayByMidnight 13 = .ok (.isub, 1) := by decide +kernel
theorem dX2_dayByMidnight_14 : decode cX2_dayByMidnight 14 = .ok (.ireturn, 1) := by decide +kernel
theorem dX2_daysSeen_0 : decode cX2_daysSeen 0 = .ok (.aload_n 0, 1) := by decide +kernel
theorem dX2_daysSeen_1 : decode cX2_daysSeen 1 = .ok (.iload_n 1, 1) := by decide +kernel
theorem dX2_daysSeen_2 : decode cX2_daysSeen 2 = .ok (.sipush 720, 3) := by decide +kernel
theorem dX2_daysSeen_5 : decode cX2_daysSeen 5 = .ok (.isub, 1) := by decide +kernel
theorem dX2_daysSeen_6 : decode cX2_daysSeen 6 = .ok (.sipush 360, 3) := by decide +kernel
theorem dX2_daysSeen_9 : decode cX2_daysSeen 9 = .ok (.iadd, 1) := by decide +kernel
theorem dX2_daysSeen_10 : decode cX2_daysSeen 10 = .ok (.invokevirtual 39, 3) := by decide +kernel
theorem dX2_daysSeen_13 : decode cX2_daysSeen 13 = .ok (.ireturn, 1) := by decide +kernel
theorem dX2_daysGone_0 : decode cX2_daysGone 0 = .ok (.iload_n 1, 1) := by decide +kernel
theorem dX2_daysGone_1 : decode cX2_daysGone 1 = .ok (.i2l, 1) := by decide +kernel
theorem dX2_daysGone_2 : decode cX2_daysGone 2 = .ok (.aload_n 0, 1) := by decide +kernel
theorem dX2_daysGone_3 : decode cX2_daysGone 3 = .ok (.getfield 28, 3) := by decide +kernel
theorem dX2_daysGone_6 : decode cX2_daysGone 6 = .ok (.lmul, 1) := by decide +kernel
theorem dX2_daysGone_7 : decode cX2_daysGone 7 = .ok (.ldc2_w 47, 3) := by decide +kernel
theorem dX2_daysGone_10 : decode cX2_daysGone 10 = .ok (.aload_n 0, 1) := by decide +kernel
theorem dX2_daysGone_11 : decode cX2_daysGone 11 = .ok (.getfield 25, 3) := by decide +kernel
theorem dX2_daysGone_14 : decode cX2_daysGone 14 = .ok (.lmul, 1) := by decide +kernel
theorem dX2_daysGone_15 : decode cX2_daysGone 15 = .ok (.ladd, 1) := by decide +kernel
theorem dX2_daysGone_16 : decode cX2_daysGone 16 = .ok (.ldc2_w 49, 3) := by decide +kernel
theorem dX2_daysGone_19 : decode cX2_daysGone 19 = .ok (.aload_n 0, 1) := by decide +kernel
theorem dX2_daysGone_20 : decode cX2_daysGone 20 = .ok (.getfield 28, 3) := by decide +kernel
theorem dX2_daysGone_23 : decode cX2_daysGone 23 = .ok (.lmul, 1) := by decide +kernel
theorem dX2_daysGone_24 : decode cX2_daysGone 24 = .ok (.invokestatic 33, 3) := by decide +kernel
theorem dX2_daysGone_27 : decode cX2_daysGone 27 = .ok (.l2i, 1) := by decide +kernel
theorem dX2_daysGone_28 : decode cX2_daysGone 28 = .ok (.ireturn, 1) := by decide +kernel
theorem dX3_init_0 : decode cX3_init 0 = .ok (.aload_n 0, 1) := by decide +kernel
theorem dX3_init_1 : decode cX3_init 1 = .ok (.invokespecial 3, 3) := by decide +kernel
theorem dX3_init_4 : decode cX3_init 4 = .ok (.aload_n 0, 1) := by decide +kernel
theorem dX3_init_5 : decode cX3_init 5 = .ok (.iconst 0, 1) := by decide +kernel
theorem dX3_init_6 : decode cX3_init 6 = .ok (.putfield 9, 3) := by decide +kernel
theorem dX3_init_9 : decode cX3_init 9 = .ok (.aload_n 0, 1) := by decide +kernel
theorem dX3_init_10 : decode cX3_init 10 = .ok (.iconst 0, 1) := by decide +kernel
theorem dX3_init_11 : decode cX3_init 11 = .ok (.putfield 15, 3) := by decide +kernel
theorem dX3_init_14 : decode cX3_init 14 = .ok (.aload_n 0, 1) := by decide +kernel
theorem dX3_init_15 : decode cX3_init 15 = .ok (.iconst 0, 1) := by decide +kernel
theorem dX3_init_16 : decode cX3_init 16 = .ok (.putfield 18, 3) := by decide +kernel
theorem dX3_init_19 : decode cX3_init 19 = .ok (.aload_n 0, 1) := by decide +kernel
theorem dX3_init_20 : decode cX3_init 20 = .ok (.iconst 0, 1) := by decide +kernel
theorem dX3_init_21 : decode cX3_init 21 = .ok (.putfield 21, 3) := by decide +kernel
theorem dX3_init_24 : decode cX3_init 24 = .ok (.aload_n 0, 1) := by decide +kernel
theorem dX3_init_25 : decode cX3_init 25 = .ok (.iconst 0, 1) := by decide +kernel
theorem dX3_init_26 : decode cX3_init 26 = .ok (.putfield 24, 3) := by decide +kernel
theorem dX3_init_29 : decode cX3_init 29 = .ok (.aload_n 0, 1) := by decide +kernel
theorem dX3_init_30 : decode cX3_init 30 = .ok (.iconst 0, 1) := by decide +kernel
theorem dX3_init_31 : decode cX3_init 31 = .ok (.putfield 27, 3) := by decide +kernel
theorem dX3_init_34 : decode cX3_init 34 = .ok (.aload_n 0, 1) := by decide +kernel
theorem dX3_init_35 : decode cX3_init 35 = .ok (.bipush 6, 2) := by decide +kernel
theorem dX3_init_37 : decode cX3_init 37 = .ok (.newarray .int, 2) := by decide +kernel
theorem dX3_init_39 : decode cX3_init 39 = .ok (.putfield 30, 3) := by decide +kernel
theorem dX3_init_42 : decode cX3_init 42 = .ok (.aload_n 0, 1) := by decide +kernel
theorem dX3_init_43 : decode cX3_init 43 = .ok (.bipush 6, 2) := by decide +kernel
theorem dX3_init_45 : decode cX3_init 45 = .ok (.newarray .int, 2) := by decide +kernel
theorem dX3_init_47 : decode cX3_init 47 = .ok (.putfield 34, 3) := by decide +kernel
theorem dX3_init_50 : decode cX3_init 50 = .ok (.aload_n 0, 1) := by decide +kernel
theorem dX3_init_51 : decode cX3_init 51 = .ok (.bipush 6, 2) := by decide +kernel
theorem dX3_init_53 : decode cX3_init 53 = .ok (.newarray .int, 2) := by decide +kernel
theorem dX3_init_55 : decode cX3_init 55 = .ok (.putfield 37, 3) := by decide +kernel
theorem dX3_init_58 : decode cX3_init 58 = .ok (.aload_n 0, 1) := by decide +kernel
theorem dX3_init_59 : decode cX3_init 59 = .ok (.iconst 0, 1) := by decide +kernel
theorem dX3_init_60 : decode cX3_init 60 = .ok (.putfield 40, 3) := by decide +kernel
theorem dX3_init_63 : decode cX3_init 63 = .ok (.aload_n 0, 1) := by decide +kernel
theorem dX3_init_64 : decode cX3_init 64 = .ok (.bipush 8, 2) := by decide +kernel
theorem dX3_init_66 : decode cX3_init 66 = .ok (.newarray .int, 2) := by decide +kernel
theorem dX3_init_68 : decode cX3_init 68 = .ok (.putfield 43, 3) := by decide +kernel
theorem dX3_init_71 : decode cX3_init 71 = .ok (.aload_n 0, 1) := by decide +kernel
theorem dX3_init_72 : decode cX3_init 72 = .ok (.bipush 8, 2) := by decide +kernel
theorem dX3_init_74 : decode cX3_init 74 = .ok (.newarray .int, 2) := by decide +kernel
theorem dX3_init_76 : decode cX3_init 76 = .ok (.putfield 46, 3) := by decide +kernel
theorem dX3_init_79 : decode cX3_init 79 = .ok (.return_, 1) := by decide +kernel
theorem dX3_lastEnd_0 : decode cX3_lastEnd 0 = .ok (.aload_n 0, 1) := by decide +kernel
theorem dX3_lastEnd_1 : decode cX3_lastEnd 1 = .ok (.getfield 24, 3) := by decide +kernel
theorem dX3_lastEnd_4 : decode cX3_lastEnd 4 = .ok (.ifCond .le 26, 3) := by decide +kernel
theorem dX3_lastEnd_7 : decode cX3_lastEnd 7 = .ok (.aload_n 0, 1) := by decide +kernel
theorem dX3_lastEnd_8 : decode cX3_lastEnd 8 = .ok (.getfield 24, 3) := by decide +kernel
theorem dX3_lastEnd_11 : decode cX3_lastEnd 11 = .ok (.bipush 6, 2) := by decide +kernel
theorem dX3_lastEnd_13 : decode cX3_lastEnd 13 = .ok (.if_icmp .gt 17, 3) := by decide +kernel
theorem dX3_lastEnd_16 : decode cX3_lastEnd 16 = .ok (.aload_n 0, 1) := by decide +kernel
theorem dX3_lastEnd_17 : decode cX3_lastEnd 17 = .ok (.getfield 37, 3) := by decide +kernel
theorem dX3_lastEnd_20 : decode cX3_lastEnd 20 = .ok (.aload_n 0, 1) := by decide +kernel
theorem dX3_lastEnd_21 : decode cX3_lastEnd 21 = .ok (.getfield 24, 3) := by decide +kernel
theorem dX3_lastEnd_24 : decode cX3_lastEnd 24 = .ok (.iconst 1, 1) := by decide +kernel
theorem dX3_lastEnd_25 : decode cX3_lastEnd 25 = .ok (.isub, 1) := by decide +kernel
theorem dX3_lastEnd_26 : decode cX3_lastEnd 26 = .ok (.iaload, 1) := by decide +kernel
theorem dX3_lastEnd_27 : decode cX3_lastEnd 27 = .ok (.goto 4, 3) := by decide +kernel
theorem dX3_lastEnd_30 : decode cX3_lastEnd 30 = .ok (.iconst 0, 1) := by decide +kernel
theorem dX3_lastEnd_31 : decode cX3_lastEnd 31 = .ok (.ireturn, 1) := by decide +kernel
theorem dX3_addLeg_0 : decode cX3_addLeg 0 = .ok (.aload_n 0, 1) := by decide +kernel
theorem dX3_addLeg_1 : decode cX3_addLeg 1 = .ok (.getfield 24, 3) := by decide +kernel
theorem dX3_addLeg_4 : decode cX3_addLeg 4 = .ok (.bipush 6, 2) := by decide +kernel
theorem dX3_addLeg_6 : decode cX3_addLeg 6 = .ok (.if_icmp .lt 4, 3) := by decide +kernel
theorem dX3_addLeg_9 : decode cX3_addLeg 9 = .ok (.return_, 1) := by decide +kernel
theorem dX3_addLeg_10 : decode cX3_addLeg 10 = .ok (.aload_n 0, 1) := by decide +kernel
theorem dX3_addLeg_11 : decode cX3_addLeg 11 = .ok (.getfield 30, 3) := by decide +kernel
theorem dX3_addLeg_14 : decode cX3_addLeg 14 = .ok (.aload_n 0, 1) := by decide +kernel
theorem dX3_addLeg_15 : decode cX3_addLeg 15 = .ok (.getfield 24, 3) := by decide +kernel
theorem dX3_addLeg_18 : decode cX3_addLeg 18 = .ok (.iload_n 1, 1) := by decide +kernel
theorem dX3_addLeg_19 : decode cX3_addLeg 19 = .ok (.iastore, 1) := by decide +kernel
theorem dX3_addLeg_20 : decode cX3_addLeg 20 = .ok (.aload_n 0, 1) := by decide +kernel
theorem dX3_addLeg_21 : decode cX3_addLeg 21 = .ok (.getfield 34, 3) := by decide +kernel
theorem dX3_addLeg_24 : decode cX3_addLeg 24 = .ok (.aload_n 0, 1) := by decide +kernel
theorem dX3_addLeg_25 : decode cX3_addLeg 25 = .ok (.getfield 24, 3) := by decide +kernel
theorem dX3_addLeg_28 : decode cX3_addLeg 28 = .ok (.iload_n 3, 1) := by decide +kernel
theorem dX3_addLeg_29 : decode cX3_addLeg 29 = .ok (.iastore, 1) := by decide +kernel
theorem dX3_addLeg_30 : decode cX3_addLeg 30 = .ok (.aload_n 0, 1) := by decide +kernel
theorem dX3_addLeg_31 : decode cX3_addLeg 31 = .ok (.getfield 37, 3) := by decide +kernel
theorem dX3_addLeg_34 : decode cX3_addLeg 34 = .ok (.aload_n 0, 1) := by decide +kernel
theorem dX3_addLeg_35 : decode cX3_addLeg 35 = .ok (.getfield 24, 3) := by decide +kernel
theorem dX3_addLeg_38 : decode cX3_addLeg 38 = .ok (.iload_n 3, 1) := by decide +kernel
theorem dX3_addLeg_39 : decode cX3_addLeg 39 = .ok (.iload 4, 2) := by decide +kernel
theorem dX3_addLeg_41 : decode cX3_addLeg 41 = .ok (.iadd, 1) := by decide +kernel
theorem dX3_addLeg_42 : decode cX3_addLeg 42 = .ok (.iastore, 1) := by decide +kernel
theorem dX3_addLeg_43 : decode cX3_addLeg 43 = .ok (.iload_n 2, 1) := by decide +kernel
theorem dX3_addLeg_44 : decode cX3_addLeg 44 = .ok (.ifCond .eq 18, 3) := by decide +kernel
theorem dX3_addLeg_47 : decode cX3_addLeg 47 = .ok (.aload_n 0, 1) := by decide +kernel
theorem dX3_addLeg_48 : decode cX3_addLeg 48 = .ok (.dup, 1) := by decide +kernel
theorem dX3_addLeg_49 : decode cX3_addLeg 49 = .ok (.getfield 27, 3) := by decide +kernel
theorem dX3_addLeg_52 : decode cX3_addLeg 52 = .ok (.iconst 1, 1) := by decide +kernel
theorem dX3_addLeg_53 : decode cX3_addLeg 53 = .ok (.aload_n 0, 1) := by decide +kernel
theorem dX3_addLeg_54 : decode cX3_addLeg 54 = .ok (.getfield 24, 3) := by decide +kernel
theorem dX3_addLeg_57 : decode cX3_addLeg 57 = .ok (.ishl, 1) := by decide +kernel
theorem dX3_addLeg_58 : decode cX3_addLeg 58 = .ok (.ior, 1) := by decide +kernel
theorem dX3_addLeg_59 : decode cX3_addLeg 59 = .ok (.putfield 27, 3) := by decide +kernel
theorem dX3_addLeg_62 : decode cX3_addLeg 62 = .ok (.aload_n 0, 1) := by decide +kernel
theorem dX3_addLeg_63 : decode cX3_addLeg 63 = .ok (.dup, 1) := by decide +kernel
theorem dX3_addLeg_64 : decode cX3_addLeg 64 = .ok (.getfield 24, 3) := by decide +kernel
theorem dX3_addLeg_67 : decode cX3_addLeg 67 = .ok (.iconst 1, 1) := by decide +kernel
theorem dX3_addLeg_68 : decode cX3_addLeg 68 = .ok (.iadd, 1) := by decide +kernel
theorem dX3_addLeg_69 : decode cX3_addLeg 69 = .ok (.putfield 24, 3) := by decide +kernel
theorem dX3_addLeg_72 : decode cX3_addLeg 72 = .ok (.return_, 1) := by decide +kernel
theorem dX3_changedTill_0 : decode cX3_changedTill 0 = .ok (.iconst 0, 1) := by decide +kernel
theorem dX3_changedTill_1 : decode cX3_changedTill 1 = .ok (.istore_n 2, 1) := by decide +kernel
theorem dX3_changedTill_2 : decode cX3_changedTill 2 = .ok (.iconst 0, 1) := by decide +kernel
theorem dX3_changedTill_3 : decode cX3_changedTill 3 = .ok (.istore_n 3, 1) := by decide +kernel
theorem dX3_changedTill_4 : decode cX3_changedTill 4 = .ok (.iload_n 3, 1) := by decide +kernel
theorem dX3_changedTill_5 : decode cX3_changedTill 5 = .ok (.aload_n 0, 1) := by decide +kernel
theorem dX3_changedTill_6 : decode cX3_changedTill 6 = .ok (.getfield 40, 3) := by decide +kernel
theorem dX3_changedTill_9 : decode cX3_changedTill 9 = .ok (.if_icmp .ge 28, 3) := by decide +kernel
theorem dX3_changedTill_12 : decode cX3_changedTill 12 = .ok (.aload_n 0, 1) := by decide +kernel
theorem dX3_changedTill_13 : decode cX3_changedTill 13 = .ok (.getfield 43, 3) := by decide +kernel
theorem dX3_changedTill_16 : decode cX3_changedTill 16 = .ok (.iload_n 3, 1) := by decide +kernel
theorem dX3_changedTill_17 : decode cX3_changedTill 17 = .ok (.iaload, 1) := by decide +kernel
theorem dX3_changedTill_18 : decode cX3_changedTill 18 = .ok (.iload_n 1, 1) := by decide +kernel
theorem dX3_changedTill_19 : decode cX3_changedTill 19 = .ok (.if_icmp .gt 12, 3) := by decide +kernel
theorem dX3_changedTill_22 : decode cX3_changedTill 22 = .ok (.iload_n 2, 1) := by decide +kernel
theorem dX3_changedTill_23 : decode cX3_changedTill 23 = .ok (.aload_n 0, 1) := by decide +kernel
theorem dX3_changedTill_24 : decode cX3_changedTill 24 = .ok (.getfield 46, 3) := by decide +kernel
theorem dX3_changedTill_27 : decode cX3_changedTill 27 = .ok (.iload_n 3, 1) := by decide +kernel
theorem dX3_changedTill_28 : decode cX3_changedTill 28 = .ok (.iaload, 1) := by decide +kernel
theorem dX3_changedTill_29 : decode cX3_changedTill 29 = .ok (.iadd, 1) := by decide +kernel
theorem dX3_changedTill_30 : decode cX3_changedTill 30 = .ok (.istore_n 2, 1) := by decide +kernel
theorem dX3_changedTill_31 : decode cX3_changedTill 31 = .ok (.iinc 3 1, 3) := by decide +kernel
theorem dX3_changedTill_34 : decode cX3_changedTill 34 = .ok (.goto (-30), 3) := by decide +kernel
theorem dX3_changedTill_37 : decode cX3_changedTill 37 = .ok (.iload_n 2, 1) := by decide +kernel
theorem dX3_changedTill_38 : decode cX3_changedTill 38 = .ok (.ireturn, 1) := by decide +kernel
theorem dX3_isSettled_0 : decode cX3_isSettled 0 = .ok (.aload_n 1, 1) := by decide +kernel
theorem dX3_isSettled_1 : decode cX3_isSettled 1 = .ok (.invokevirtual 49, 3) := by decide +kernel
theorem dX3_isSettled_4 : decode cX3_isSettled 4 = .ok (.ifCond .ne 35, 3) := by decide +kernel
theorem dX3_isSettled_7 : decode cX3_isSettled 7 = .ok (.aload_n 1, 1) := by decide +kernel
theorem dX3_isSettled_8 : decode cX3_isSettled 8 = .ok (.getfield 55, 3) := by decide +kernel
theorem dX3_isSettled_11 : decode cX3_isSettled 11 = .ok (.aload_n 0, 1) := by decide +kernel
theorem dX3_isSettled_12 : decode cX3_isSettled 12 = .ok (.getfield 18, 3) := by decide +kernel
theorem dX3_isSettled_15 : decode cX3_isSettled 15 = .ok (.if_icmp .eq 24, 3) := by decide +kernel
theorem dX3_isSettled_18 : decode cX3_isSettled 18 = .ok (.iload_n 2, 1) := by decide +kernel
theorem dX3_isSettled_19 : decode cX3_isSettled 19 = .ok (.aload_n 1, 1) := by decide +kernel
theorem dX3_isSettled_20 : decode cX3_isSettled 20 = .ok (.getfield 58, 3) := by decide +kernel
theorem dX3_isSettled_23 : decode cX3_isSettled 23 = .ok (.aload_n 0, 1) := by decide +kernel
theorem dX3_isSettled_24 : decode cX3_isSettled 24 = .ok (.getfield 21, 3) := by decide +kernel
theorem dX3_isSettled_27 : decode cX3_isSettled 27 = .ok (.sipush 1440, 3) := by decide +kernel
theorem dX3_isSettled_30 : decode cX3_isSettled 30 = .ok (.imul, 1) := by decide +kernel
theorem dX3_isSettled_31 : decode cX3_isSettled 31 = .ok (.iadd, 1) := by decide +kernel
theorem dX3_isSettled_32 : decode cX3_isSettled 32 = .ok (.if_icmp .lt 7, 3) := by decide +kernel
theorem dX3_isSettled_35 : decode cX3_isSettled 35 = .ok (.iconst 1, 1) := by decide +kernel
theorem dX3_isSettled_36 : decode cX3_isSettled 36 = .ok (.goto 4, 3) := by decide +kernel
theorem dX3_isSettled_39 : decode cX3_isSettled 39 = .ok (.iconst 0, 1) := by decide +kernel
theorem dX3_isSettled_40 : decode cX3_isSettled 40 = .ok (.ireturn, 1) := by decide +kernel
theorem dX3_nextEvent_0 : decode cX3_nextEvent 0 = .ok (.sipush 20000, 3) := by decide +kernel
theorem dX3_nextEvent_3 : decode cX3_nextEvent 3 = .ok (.istore_n 2, 1) := by decide +kernel
theorem dX3_nextEvent_4 : decode cX3_nextEvent 4 = .ok (.iconst 0, 1) := by decide +kernel
theorem dX3_nextEvent_5 : decode cX3_nextEvent 5 = .ok (.istore_n 3, 1) := by decide +kernel
theorem dX3_nextEvent_6 : decode cX3_nextEvent 6 = .ok (.iload_n 3, 1) := by decide +kernel
theorem dX3_nextEvent_7 : decode cX3_nextEvent 7 = .ok (.aload_n 0, 1) := by decide +kernel
theorem dX3_nextEvent_8 : decode cX3_nextEvent 8 = .ok (.getfield 24, 3) := by decide +kernel
theorem dX3_nextEvent_11 : decode cX3_nextEvent 11 = .ok (.if_icmp .ge 56, 3) := by decide +kernel
theorem dX3_nextEvent_14 : decode cX3_nextEvent 14 = .ok (.iload_n 2, 1) := by decide +kernel
theorem dX3_nextEvent_15 : decode cX3_nextEvent 15 = .ok (.aload_n 0, 1) := by decide +kernel
theorem dX3_nextEvent_16 : decode cX3_nextEvent 16 = .ok (.getfield 34, 3) := by decide +kernel
theorem dX3_nextEvent_19 : decode cX3_nextEvent 19 = .ok (.iload_n 3, 1) := by decide +kernel
theorem dX3_nextEvent_20 : decode cX3_nextEvent 20 = .ok (.iaload, 1) := by decide +kernel
theorem dX3_nextEvent_21 : decode cX3_nextEvent 21 = .ok (.iconst 1, 1) := by decide +kernel
theorem dX3_nextEvent_22 : decode cX3_nextEvent 22 = .ok (.iadd, 1) := by decide +kernel
theorem dX3_nextEvent_23 : decode cX3_nextEvent 23 = .ok (.iload_n 1, 1) := by decide +kernel
theorem dX3_nextEvent_24 : decode cX3_nextEvent 24 = .ok (.invokestatic 61, 3) := by decide +kernel
theorem dX3_nextEvent_27 : decode cX3_nextEvent 27 = .ok (.istore_n 2, 1) := by decide +kernel
theorem dX3_nextEvent_28 : decode cX3_nextEvent 28 = .ok (.iload_n 2, 1) := by decide +kernel
theorem dX3_nextEvent_29 : decode cX3_nextEvent 29 = .ok (.aload_n 0, 1) := by decide +kernel
theorem dX3_nextEvent_30 : decode cX3_nextEvent 30 = .ok (.getfield 37, 3) := by decide +kernel
theorem dX3_nextEvent_33 : decode cX3_nextEvent 33 = .ok (.iload_n 3, 1) := by decide +kernel
theorem dX3_nextEvent_34 : decode cX3_nextEvent 34 = .ok (.iaload, 1) := by decide +kernel
theorem dX3_nextEvent_35 : decode cX3_nextEvent 35 = .ok (.iload_n 1, 1) := by decide +kernel
theorem dX3_nextEvent_36 : decode cX3_nextEvent 36 = .ok (.invokestatic 61, 3) := by decide +kernel
theorem dX3_nextEvent_39 : decode cX3_nextEvent 39 = .ok (.istore_n 2, 1) := by decide +kernel
theorem dX3_nextEvent_40 : decode cX3_nextEvent 40 = .ok (.iload_n 2, 1) := by decide +kernel
theorem dX3_nextEvent_41 : decode cX3_nextEvent 41 = .ok (.aload_n 0, 1) := by decide +kernel
theorem dX3_nextEvent_42 : decode cX3_nextEvent 42 = .ok (.getfield 37, 3) := by decide +kernel
theorem dX3_nextEvent_45 : decode cX3_nextEvent 45 = .ok (.iload_n 3, 1) := by decide +kernel
theorem dX3_nextEvent_46 : decode cX3_nextEvent 46 = .ok (.iaload, 1) := by decide +kernel
theorem dX3_nextEvent_47 : decode cX3_nextEvent 47 = .ok (.aload_n 0, 1) := by decide +kernel
theorem dX3_nextEvent_48 : decode cX3_nextEvent 48 = .ok (.getfield 21, 3) := by decide +kernel
theorem dX3_nextEvent_51 : decode cX3_nextEvent 51 = .ok (.sipush 1440, 3) := by decide +kernel
theorem dX3_nextEvent_54 : decode cX3_nextEvent 54 = .ok (.imul, 1) := by decide +kernel
theorem dX3_nextEvent_55 : decode cX3_nextEvent 55 = .ok (.iadd, 1) := by decide +kernel
theorem dX3_nextEvent_56 : decode cX3_nextEvent 56 = .ok (.iload_n 1, 1) := by decide +kernel
theorem dX3_nextEvent_57 : decode cX3_nextEvent 57 = .ok (.invokestatic 61, 3) := by decide +kernel
theorem dX3_nextEvent_60 : decode cX3_nextEvent 60 = .ok (.istore_n 2, 1) := by decide +kernel
theorem dX3_nextEvent_61 : decode cX3_nextEvent 61 = .ok (.iinc 3 1, 3) := by decide +kernel
theorem dX3_nextEvent_64 : decode cX3_nextEvent 64 = .ok (.goto (-58), 3) := by decide +kernel
theorem dX3_nextEvent_67 : decode cX3_nextEvent 67 = .ok (.iconst 0, 1) := by decide +kernel
theorem dX3_nextEvent_68 : decode cX3_nextEvent 68 = .ok (.istore_n 3, 1) := by decide +kernel
theorem dX3_nextEvent_69 : decode cX3_nextEvent 69 = .ok (.iload_n 3, 1) := by decide +kernel
theorem dX3_nextEvent_70 : decode cX3_nextEvent 70 = .ok (.aload_n 0, 1) := by decide +kernel
theorem dX3_nextEvent_71 : decode cX3_nextEvent 71 = .ok (.getfield 40, 3) := by decide +kernel
theorem dX3_nextEvent_74 : decode cX3_nextEvent 74 = .ok (.if_icmp .ge 21, 3) := by decide +kernel
theorem dX3_nextEvent_77 : decode cX3_nextEvent 77 = .ok (.iload_n 2, 1) := by decide +kernel
theorem dX3_nextEvent_78 : decode cX3_nextEvent 78 = .ok (.aload_n 0, 1) := by decide +kernel
theorem dX3_nextEvent_79 : decode cX3_nextEvent 79 = .ok (.getfield 43, 3) := by decide +kernel
theorem dX3_nextEvent_82 : decode cX3_nextEvent 82 = .ok (.iload_n 3, 1) := by decide +kernel
theorem dX3_nextEvent_83 : decode cX3_nextEvent 83 = .ok (.iaload, 1) := by decide +kernel
theorem dX3_nextEvent_84 : decode cX3_nextEvent 84 = .ok (.iload_n 1, 1) := by decide +kernel
theorem dX3_nextEvent_85 : decode cX3_nextEvent 85 = .ok (.invokestatic 61, 3) := by decide +kernel
theorem dX3_nextEvent_88 : decode cX3_nextEvent 88 = .ok (.istore_n 2, 1) := by decide +kernel
theorem dX3_nextEvent_89 : decode cX3_nextEvent 89 = .ok (.iinc 3 1, 3) := by decide +kernel
theorem dX3_nextEvent_92 : decode cX3_nextEvent 92 = .ok (.goto (-23), 3) := by decide +kernel
theorem dX3_nextEvent_95 : decode cX3_nextEvent 95 = .ok (.iload_n 2, 1) := by decide +kernel
theorem dX3_nextEvent_96 : decode cX3_nextEvent 96 = .ok (.ireturn, 1) := by decide +kernel
theorem dX3_nearer_0 : decode cX3_nearer 0 = .ok (.iload_n 1, 1) := by decide +kernel
theorem dX3_nearer_1 : decode cX3_nearer 1 = .ok (.iload_n 2, 1) := by decide +kernel
theorem dX3_nearer_2 : decode cX3_nearer 2 = .ok (.if_icmp .le 12, 3) := by decide +kernel
theorem dX3_nearer_5 : decode cX3_nearer 5 = .ok (.iload_n 1, 1) := by decide +kernel
theorem dX3_nearer_6 : decode cX3_nearer 6 = .ok (.iload_n 0, 1) := by decide +kernel
theorem dX3_nearer_7 : decode cX3_nearer 7 = .ok (.if_icmp .ge 7, 3) := by decide +kernel
theorem dX3_nearer_10 : decode cX3_nearer 10 = .ok (.iload_n 1, 1) := by decide +kernel
theorem dX3_nearer_11 : decode cX3_nearer 11 = .ok (.goto 4, 3) := by decide +kernel
theorem dX3_nearer_14 : decode cX3_nearer 14 = .ok (.iload_n 0, 1) := by decide +kernel
theorem dX3_nearer_15 : decode cX3_nearer 15 = .ok (.ireturn, 1) := by decide +kernel
theorem dX3_weightBy_0 : decode cX3_weightBy 0 = .ok (.bipush 10, 2) := by decide +kernel
theorem dX3_weightBy_2 : decode cX3_weightBy 2 = .ok (.aload_n 0, 1) := by decide +kernel
theorem dX3_weightBy_3 : decode cX3_weightBy 3 = .ok (.getfield 24, 3) := by decide +kernel
theorem dX3_weightBy_6 : decode cX3_weightBy 6 = .ok (.iadd, 1) := by decide +kernel
theorem dX3_weightBy_7 : decode cX3_weightBy 7 = .ok (.istore_n 2, 1) := by decide +kernel
theorem dX3_weightBy_8 : decode cX3_weightBy 8 = .ok (.iload_n 1, 1) := by decide +kernel
theorem dX3_weightBy_9 : decode cX3_weightBy 9 = .ok (.tableswitch 92 1 7 #[43, 47, 51, 58, 67, 73, 82], 43) := by decide +kernel
theorem dX3_weightBy_52 : decode cX3_weightBy 52 = .ok (.iload_n 2, 1) := by decide +kernel
theorem dX3_weightBy_53 : decode cX3_weightBy 53 = .ok (.iconst 1, 1) := by decide +kernel
theorem dX3_weightBy_54 : decode cX3_weightBy 54 = .ok (.iadd, 1) := by decide +kernel
theorem dX3_weightBy_55 : decode cX3_weightBy 55 = .ok (.ireturn, 1) := by decide +kernel
theorem dX3_weightBy_56 : decode cX3_weightBy 56 = .ok (.iconst 2, 1) := by decide +kernel
theorem dX3_weightBy_57 : decode cX3_weightBy 57 = .ok (.iload_n 2, 1) := by decide +kernel
theorem dX3_weightBy_58 : decode cX3_weightBy 58 = .ok (.imul, 1) := by decide +kernel
theorem dX3_weightBy_59 : decode cX3_weightBy 59 = .ok (.ireturn, 1) := by decide +kernel
theorem dX3_weightBy_60 : decode cX3_weightBy 60 = .ok (.iload_n 2, 1) := by decide +kernel
theorem dX3_weightBy_61 : decode cX3_weightBy 61 = .ok (.aload_n 0, 1) := by decide +kernel
theorem dX3_weightBy_62 : decode cX3_weightBy 62 = .ok (.getfield 18, 3) := by decide +kernel
theorem dX3_weightBy_65 : decode cX3_weightBy 65 = .ok (.iadd, 1) := by decide +kernel
theorem dX3_weightBy_66 : decode cX3_weightBy 66 = .ok (.ireturn, 1) := by decide +kernel
theorem dX3_weightBy_67 : decode cX3_weightBy 67 = .ok (.iload_n 2, 1) := by decide +kernel
theorem dX3_weightBy_68 : decode cX3_weightBy 68 = .ok (.iconst 1, 1) := by decide +kernel
theorem dX3_weightBy_69 : decode cX3_weightBy 69 = .ok (.iadd, 1) := by decide +kernel
theorem dX3_weightBy_70 : decode cX3_weightBy 70 = .ok (.aload_n 0, 1) := by decide +kernel
theorem dX3_weightBy_71 : decode cX3_weightBy 71 = .ok (.getfield 40, 3) := by decide +kernel
theorem dX3_weightBy_74 : decode cX3_weightBy 74 = .ok (.iadd, 1) := by decide +kernel
theorem dX3_weightBy_75 : decode cX3_weightBy 75 = .ok (.ireturn, 1) := by decide +kernel
theorem dX3_weightBy_76 : decode cX3_weightBy 76 = .ok (.iconst 2, 1) := by decide +kernel
theorem dX3_weightBy_77 : decode cX3_weightBy 77 = .ok (.iload_n 2, 1) := by decide +kernel
theorem dX3_weightBy_78 : decode cX3_weightBy 78 = .ok (.iconst 1, 1) := by decide +kernel
theorem dX3_weightBy_79 : decode cX3_weightBy 79 = .ok (.iadd, 1) := by decide +kernel
theorem dX3_weightBy_80 : decode cX3_weightBy 80 = .ok (.imul, 1) := by decide +kernel
theorem dX3_weightBy_81 : decode cX3_weightBy 81 = .ok (.ireturn, 1) := by decide +kernel
theorem dX3_weightBy_82 : decode cX3_weightBy 82 = .ok (.iconst 2, 1) := by decide +kernel
theorem dX3_weightBy_83 : decode cX3_weightBy 83 = .ok (.iload_n 2, 1) := by decide +kernel
theorem dX3_weightBy_84 : decode cX3_weightBy 84 = .ok (.imul, 1) := by decide +kernel
theorem dX3_weightBy_85 : decode cX3_weightBy 85 = .ok (.aload_n 0, 1) := by decide +kernel
theorem dX3_weightBy_86 : decode cX3_weightBy 86 = .ok (.getfield 21, 3) := by decide +kernel
theorem dX3_weightBy_89 : decode cX3_weightBy 89 = .ok (.iadd, 1) := by decide +kernel
theorem dX3_weightBy_90 : decode cX3_weightBy 90 = .ok (.ireturn, 1) := by decide +kernel
theorem dX3_weightBy_91 : decode cX3_weightBy 91 = .ok (.iload_n 2, 1) := by decide +kernel
theorem dX3_weightBy_92 : decode cX3_weightBy 92 = .ok (.aload_n 0, 1) := by decide +kernel
theorem dX3_weightBy_93 : decode cX3_weightBy 93 = .ok (.getfield 18, 3) := by decide +kernel
theorem dX3_weightBy_96 : decode cX3_weightBy 96 = .ok (.iadd, 1) := by decide +kernel
theorem dX3_weightBy_97 : decode cX3_weightBy 97 = .ok (.bipush 100, 2) := by decide +kernel
theorem dX3_weightBy_99 : decode cX3_weightBy 99 = .ok (.iadd, 1) := by decide +kernel
theorem dX3_weightBy_100 : decode cX3_weightBy 100 = .ok (.ireturn, 1) := by decide +kernel
theorem dX3_weightBy_101 : decode cX3_weightBy 101 = .ok (.iload_n 2, 1) := by decide +kernel
theorem dX3_weightBy_102 : decode cX3_weightBy 102 = .ok (.ireturn, 1) := by decide +kernel
theorem dX3_take_0 : decode cX3_take 0 = .ok (.aload_n 0, 1) := by decide +kernel
theorem dX3_take_1 : decode cX3_take 1 = .ok (.aload_n 1, 1) := by decide +kernel
theorem dX3_take_2 : decode cX3_take 2 = .ok (.getfield 9, 3) := by decide +kernel
theorem dX3_take_5 : decode cX3_take 5 = .ok (.putfield 9, 3) := by decide +kernel
theorem dX3_take_8 : decode cX3_take 8 = .ok (.aload_n 0, 1) := by decide +kernel
theorem dX3_take_9 : decode cX3_take 9 = .ok (.aload_n 1, 1) := by decide +kernel
theorem dX3_take_10 : decode cX3_take 10 = .ok (.getfield 15, 3) := by decide +kernel
theorem dX3_take_13 : decode cX3_take 13 = .ok (.putfield 15, 3) := by decide +kernel
theorem dX3_take_16 : decode cX3_take 16 = .ok (.aload_n 0, 1) := by decide +kernel
theorem dX3_take_17 : decode cX3_take 17 = .ok (.aload_n 1, 1) := by decide +kernel
theorem dX3_take_18 : decode cX3_take 18 = .ok (.getfield 18, 3) := by decide +kernel
theorem dX3_take_21 : decode cX3_take 21 = .ok (.putfield 18, 3) := by decide +kernel
theorem dX3_take_24 : decode cX3_take 24 = .ok (.aload_n 0, 1) := by decide +kernel
theorem dX3_take_25 : decode cX3_take 25 = .ok (.aload_n 1, 1) := by decide +kernel
theorem dX3_take_26 : decode cX3_take 26 = .ok (.getfield 21, 3) := by decide +kernel
theorem dX3_take_29 : decode cX3_take 29 = .ok (.putfield 21, 3) := by decide +kernel
theorem dX3_take_32 : decode cX3_take 32 = .ok (.aload_n 0, 1) := by decide +kernel
theorem dX3_take_33 : decode cX3_take 33 = .ok (.aload_n 1, 1) := by decide +kernel
theorem dX3_take_34 : decode cX3_take 34 = .ok (.getfield 24, 3) := by decide +kernel
theorem dX3_take_37 : decode cX3_take 37 = .ok (.putfield 24, 3) := by decide +kernel
theorem dX3_take_40 : decode cX3_take 40 = .ok (.aload_n 0, 1) := by decide +kernel
theorem dX3_take_41 : decode cX3_take 41 = .ok (.aload_n 1, 1) := by decide +kernel
theorem dX3_take_42 : decode cX3_take 42 = .ok (.getfield 27, 3) := by decide +kernel
theorem dX3_take_45 : decode cX3_take 45 = .ok (.putfield 27, 3) := by decide +kernel
theorem dX3_take_48 : decode cX3_take 48 = .ok (.aload_n 0, 1) := by decide +kernel
theorem dX3_take_49 : decode cX3_take 49 = .ok (.aload_n 1, 1) := by decide +kernel
theorem dX3_take_50 : decode cX3_take 50 = .ok (.getfield 40, 3) := by decide +kernel
theorem dX3_take_53 : decode cX3_take 53 = .ok (.putfield 40, 3) := by decide +kernel
theorem dX3_take_56 : decode cX3_take 56 = .ok (.aload_n 1, 1) := by decide +kernel
theorem dX3_take_57 : decode cX3_take 57 = .ok (.getfield 30, 3) := by decide +kernel
theorem dX3_take_60 : decode cX3_take 60 = .ok (.iconst 0, 1) := by decide +kernel
theorem dX3_take_61 : decode cX3_take 61 = .ok (.aload_n 0, 1) := by decide +kernel
theorem dX3_take_62 : decode cX3_take 62 = .ok (.getfield 30, 3) := by decide +kernel
theorem dX3_take_65 : decode cX3_take 65 = .ok (.iconst 0, 1) := by decide +kernel
theorem dX3_take_66 : decode cX3_take 66 = .ok (.bipush 6, 2) := by decide +kernel
theorem dX3_take_68 : decode cX3_take 68 = .ok (.invokestatic 65, 3) := by decide +kernel
theorem dX3_take_71 : decode cX3_take 71 = .ok (.aload_n 1, 1) := by decide +kernel
theorem dX3_take_72 : decode cX3_take 72 = .ok (.getfield 34, 3) := by decide +kernel
theorem dX3_take_75 : decode cX3_take 75 = .ok (.iconst 0, 1) := by decide +kernel
theorem dX3_take_76 : decode cX3_take 76 = .ok (.aload_n 0, 1) := by decide +kernel
theorem dX3_take_77 : decode cX3_take 77 = .ok (.getfield 34, 3) := by decide +kernel
theorem dX3_take_80 : decode cX3_take 80 = .ok (.iconst 0, 1) := by decide +kernel
theorem dX3_take_81 : decode cX3_take 81 = .ok (.bipush 6, 2) := by decide +kernel
theorem dX3_take_83 : decode cX3_take 83 = .ok (.invokestatic 65, 3) := by decide +kernel
theorem dX3_take_86 : decode cX3_take 86 = .ok (.aload_n 1, 1) := by decide +kernel
theorem dX3_take_87 : decode cX3_take 87 = .ok (.getfield 37, 3) := by decide +kernel
theorem dX3_take_90 : decode cX3_take 90 = .ok (.iconst 0, 1) := by decide +kernel
theorem dX3_take_91 : decode cX3_take 91 = .ok (.aload_n 0, 1) := by decide +kernel
theorem dX3_take_92 : decode cX3_take 92 = .ok (.getfield 37, 3) := by decide +kernel
theorem dX3_take_95 : decode cX3_take 95 = .ok (.iconst 0, 1) := by decide +kernel
theorem dX3_take_96 : decode cX3_take 96 = .ok (.bipush 6, 2) := by decide +kernel
theorem dX3_take_98 : decode cX3_take 98 = .ok (.invokestatic 65, 3) := by decide +kernel
theorem dX3_take_101 : decode cX3_take 101 = .ok (.aload_n 1, 1) := by decide +kernel
theorem dX3_take_102 : decode cX3_take 102 = .ok (.getfield 43, 3) := by decide +kernel
theorem dX3_take_105 : decode cX3_take 105 = .ok (.iconst 0, 1) := by decide +kernel
theorem dX3_take_106 : decode cX3_take 106 = .ok (.aload_n 0, 1) := by decide +kernel
theorem dX3_take_107 : decode cX3_take 107 = .ok (.getfield 43, 3) := by decide +kernel
theorem dX3_take_110 : decode cX3_take 110 = .ok (.iconst 0, 1) := by decide +kernel
theorem dX3_take_111 : decode cX3_take 111 = .ok (.bipush 8, 2) := by decide +kernel
theorem dX3_take_113 : decode cX3_take 113 = .ok (.invokestatic 65, 3) := by decide +kernel
theorem dX3_take_116 : decode cX3_take 116 = .ok (.aload_n 1, 1) := by decide +kernel
theorem dX3_take_117 : decode cX3_take 117 = .ok (.getfield 46, 3) := by decide +kernel
theorem dX3_take_120 : decode cX3_take 120 = .ok (.iconst 0, 1) := by decide +kernel
theorem dX3_take_121 : decode cX3_take 121 = .ok (.aload_n 0, 1) := by decide +kernel
theorem dX3_take_122 : decode cX3_take 122 = .ok (.getfield 46, 3) := by decide +kernel
theorem dX3_take_125 : decode cX3_take 125 = .ok (.iconst 0, 1) := by decide +kernel
theorem dX3_take_126 : decode cX3_take 126 = .ok (.bipush 8, 2) := by decide +kernel
theorem dX3_take_128 : decode cX3_take 128 = .ok (.invokestatic 65, 3) := by decide +kernel
theorem dX3_take_131 : decode cX3_take 131 = .ok (.return_, 1) := by decide +kernel
theorem dX4_init_0 : decode cX4_init 0 = .ok (.aload_n 0, 1) := by decide +kernel
theorem dX4_init_1 : decode cX4_init 1 = .ok (.invokespecial 3, 3) := by decide +kernel
theorem dX4_init_4 : decode cX4_init 4 = .ok (.aload_n 0, 1) := by decide +kernel
theorem dX4_init_5 : decode cX4_init 5 = .ok (.iconst 0, 1) := by decide +kernel
theorem dX4_init_6 : decode cX4_init 6 = .ok (.putfield 9, 3) := by decide +kernel
theorem dX4_init_9 : decode cX4_init 9 = .ok (.aload_n 0, 1) := by decide +kernel
theorem dX4_init_10 : decode cX4_init 10 = .ok (.iconst 0, 1) := by decide +kernel
theorem dX4_init_11 : decode cX4_init 11 = .ok (.putfield 15, 3) := by decide +kernel
theorem dX4_init_14 : decode cX4_init 14 = .ok (.aload_n 0, 1) := by decide +kernel
theorem dX4_init_15 : decode cX4_init 15 = .ok (.sipush 180, 3) := by decide +kernel
theorem dX4_init_18 : decode cX4_init 18 = .ok (.putfield 18, 3) := by decide +kernel
theorem dX4_init_21 : decode cX4_init 21 = .ok (.aload_n 0, 1) := by decide +kernel
theorem dX4_init_22 : decode cX4_init 22 = .ok (.bipush 10, 2) := by decide +kernel
theorem dX4_init_24 : decode cX4_init 24 = .ok (.newarray .int, 2) := by decide +kernel
theorem dX4_init_26 : decode cX4_init 26 = .ok (.putfield 21, 3) := by decide +kernel
theorem dX4_init_29 : decode cX4_init 29 = .ok (.aload_n 0, 1) := by decide +kernel
theorem dX4_init_30 : decode cX4_init 30 = .ok (.bipush 10, 2) := by decide +kernel
theorem dX4_init_32 : decode cX4_init 32 = .ok (.newarray .int, 2) := by decide +kernel
theorem dX4_init_34 : decode cX4_init 34 = .ok (.putfield 25, 3) := by decide +kernel
theorem dX4_init_37 : decode cX4_init 37 = .ok (.aload_n 0, 1) := by decide +kernel
theorem dX4_init_38 : decode cX4_init 38 = .ok (.bipush 10, 2) := by decide +kernel
theorem dX4_init_40 : decode cX4_init 40 = .ok (.newarray .int, 2) := by decide +kernel
theorem dX4_init_42 : decode cX4_init 42 = .ok (.putfield 28, 3) := by decide +kernel
theorem dX4_init_45 : decode cX4_init 45 = .ok (.aload_n 0, 1) := by decide +kernel
theorem dX4_init_46 : decode cX4_init 46 = .ok (.bipush 10, 2) := by decide +kernel
theorem dX4_init_48 : decode cX4_init 48 = .ok (.newarray .int, 2) := by decide +kernel
theorem dX4_init_50 : decode cX4_init 50 = .ok (.putfield 31, 3) := by decide +kernel
theorem dX4_init_53 : decode cX4_init 53 = .ok (.aload_n 0, 1) := by decide +kernel
theorem dX4_init_54 : decode cX4_init 54 = .ok (.bipush 100, 2) := by decide +kernel
theorem dX4_init_56 : decode cX4_init 56 = .ok (.newarray .int, 2) := by decide +kernel
theorem dX4_init_58 : decode cX4_init 58 = .ok (.putfield 34, 3) := by decide +kernel
theorem dX4_init_61 : decode cX4_init 61 = .ok (.aload_n 0, 1) := by decide +kernel
theorem dX4_init_62 : decode cX4_init 62 = .ok (.bipush 8, 2) := by decide +kernel
theorem dX4_init_64 : decode cX4_init 64 = .ok (.anewarray 37, 3) := by decide +kernel
theorem dX4_init_67 : decode cX4_init 67 = .ok (.putfield 39, 3) := by decide +kernel
theorem dX4_init_70 : decode cX4_init 70 = .ok (.return_, 1) := by decide +kernel
theorem dX4_hasPlace_0 : decode cX4_hasPlace 0 = .ok (.iload_n 1, 1) := by decide +kernel
theorem dX4_hasPlace_1 : decode cX4_hasPlace 1 = .ok (.ifCond .lt 15, 3) := by decide +kernel
theorem dX4_hasPlace_4 : decode cX4_hasPlace 4 = .ok (.iload_n 1, 1) := by decide +kernel
theorem dX4_hasPlace_5 : decode cX4_hasPlace 5 = .ok (.aload_n 0, 1) := by decide +kernel
theorem dX4_hasPlace_6 : decode cX4_hasPlace 6 = .ok (.getfield 9, 3) := by decide +kernel
theorem dX4_hasPlace_9 : decode cX4_hasPlace 9 = .ok (.if_icmp .ge 7, 3) := by decide +kernel
theorem dX4_hasPlace_12 : decode cX4_hasPlace 12 = .ok (.iconst 1, 1) := by decide +kernel
theorem dX4_hasPlace_13 : decode cX4_hasPlace 13 = .ok (.goto 4, 3) := by decide +kernel
theorem dX4_hasPlace_16 : decode cX4_hasPlace 16 = .ok (.iconst 0, 1) := by decide +kernel
theorem dX4_hasPlace_17 : decode cX4_hasPlace 17 = .ok (.ireturn, 1) := by decide +kernel
theorem dX4_travellerOf_0 : decode cX4_travellerOf 0 = .ok (.iload_n 1, 1) := by decide +kernel
theorem dX4_travellerOf_1 : decode cX4_travellerOf 1 = .ok (.ifCond .lt 20, 3) := by decide +kernel
theorem dX4_travellerOf_4 : decode cX4_travellerOf 4 = .ok (.iload_n 1, 1) := by decide +kernel
theorem dX4_travellerOf_5 : decode cX4_travellerOf 5 = .ok (.aload_n 0, 1) := by decide +kernel
theorem dX4_travellerOf_6 : decode cX4_travellerOf 6 = .ok (.getfield 15, 3) := by decide +kernel
theorem dX4_travellerOf_9 : decode cX4_travellerOf 9 = .ok (.if_icmp .ge 12, 3) := by decide +kernel
theorem dX4_travellerOf_12 : decode cX4_travellerOf 12 = .ok (.aload_n 0, 1) := by decide +kernel
theorem dX4_travellerOf_13 : decode cX4_travellerOf 13 = .ok (.getfield 39, 3) := by decide +kernel
theorem dX4_travellerOf_16 : decode cX4_travellerOf 16 = .ok (.iload_n 1, 1) := by decide +kernel
theorem dX4_travellerOf_17 : decode cX4_travellerOf 17 = .ok (.aaload, 1) := by decide +kernel
theorem dX4_travellerOf_18 : decode cX4_travellerOf 18 = .ok (.goto 4, 3) := by decide +kernel
theorem dX4_travellerOf_21 : decode cX4_travellerOf 21 = .ok (.aconst_null, 1) := by decide +kernel
theorem dX4_travellerOf_22 : decode cX4_travellerOf 22 = .ok (.areturn, 1) := by decide +kernel
theorem dX4_degreeOf_0 : decode cX4_degreeOf 0 = .ok (.iload_n 1, 1) := by decide +kernel
theorem dX4_degreeOf_1 : decode cX4_degreeOf 1 = .ok (.ifCond .lt 20, 3) := by decide +kernel
theorem dX4_degreeOf_4 : decode cX4_degreeOf 4 = .ok (.iload_n 1, 1) := by decide +kernel
theorem dX4_degreeOf_5 : decode cX4_degreeOf 5 = .ok (.aload_n 0, 1) := by decide +kernel
theorem dX4_degreeOf_6 : decode cX4_degreeOf 6 = .ok (.getfield 9, 3) := by decide +kernel
theorem dX4_degreeOf_9 : decode cX4_degreeOf 9 = .ok (.if_icmp .ge 12, 3) := by decide +kernel
theorem dX4_degreeOf_12 : decode cX4_degreeOf 12 = .ok (.aload_n 0, 1) := by decide +kernel
theorem dX4_degreeOf_13 : decode cX4_degreeOf 13 = .ok (.getfield 21, 3) := by decide +kernel
theorem dX4_degreeOf_16 : decode cX4_degreeOf 16 = .ok (.iload_n 1, 1) := by decide +kernel
theorem dX4_degreeOf_17 : decode cX4_degreeOf 17 = .ok (.iaload, 1) := by decide +kernel
theorem dX4_degreeOf_18 : decode cX4_degreeOf 18 = .ok (.goto 4, 3) := by decide +kernel
theorem dX4_degreeOf_21 : decode cX4_degreeOf 21 = .ok (.iconst 0, 1) := by decide +kernel
theorem dX4_degreeOf_22 : decode cX4_degreeOf 22 = .ok (.ireturn, 1) := by decide +kernel
theorem dX4_addPlace_0 : decode cX4_addPlace 0 = .ok (.aload_n 0, 1) := by decide +kernel
theorem dX4_addPlace_1 : decode cX4_addPlace 1 = .ok (.getfield 9, 3) := by decide +kernel
theorem dX4_addPlace_4 : decode cX4_addPlace 4 = .ok (.bipush 10, 2) := by decide +kernel
theorem dX4_addPlace_6 : decode cX4_addPlace 6 = .ok (.if_icmp .lt 4, 3) := by decide +kernel
theorem dX4_addPlace_9 : decode cX4_addPlace 9 = .ok (.return_, 1) := by decide +kernel
theorem dX4_addPlace_10 : decode cX4_addPlace 10 = .ok (.aload_n 0, 1) := by decide +kernel
theorem dX4_addPlace_11 : decode cX4_addPlace 11 = .ok (.getfield 21, 3) := by decide +kernel
theorem dX4_addPlace_14 : decode cX4_addPlace 14 = .ok (.aload_n 0, 1) := by decide +kernel
theorem dX4_addPlace_15 : decode cX4_addPlace 15 = .ok (.getfield 9, 3) := by decide +kernel
theorem dX4_addPlace_18 : decode cX4_addPlace 18 = .ok (.iload_n 1, 1) := by decide +kernel
theorem dX4_addPlace_19 : decode cX4_addPlace 19 = .ok (.iastore, 1) := by decide +kernel
theorem dX4_addPlace_20 : decode cX4_addPlace 20 = .ok (.aload_n 0, 1) := by decide +kernel
theorem dX4_addPlace_21 : decode cX4_addPlace 21 = .ok (.getfield 25, 3) := by decide +kernel
theorem dX4_addPlace_24 : decode cX4_addPlace 24 = .ok (.aload_n 0, 1) := by decide +kernel
theorem dX4_addPlace_25 : decode cX4_addPlace 25 = .ok (.getfield 9, 3) := by decide +kernel
theorem dX4_addPlace_28 : decode cX4_addPlace 28 = .ok (.iload_n 2, 1) := by decide +kernel
theorem dX4_addPlace_29 : decode cX4_addPlace 29 = .ok (.iastore, 1) := by decide +kernel
theorem dX4_addPlace_30 : decode cX4_addPlace 30 = .ok (.aload_n 0, 1) := by decide +kernel
theorem dX4_addPlace_31 : decode cX4_addPlace 31 = .ok (.getfield 31, 3) := by decide +kernel
theorem dX4_addPlace_34 : decode cX4_addPlace 34 = .ok (.aload_n 0, 1) := by decide +kernel
theorem dX4_addPlace_35 : decode cX4_addPlace 35 = .ok (.getfield 9, 3) := by decide +kernel
theorem dX4_addPlace_38 : decode cX4_addPlace 38 = .ok (.iload_n 3, 1) := by decide +kernel
theorem dX4_addPlace_39 : decode cX4_addPlace 39 = .ok (.iastore, 1) := by decide +kernel
theorem dX4_addPlace_40 : decode cX4_addPlace 40 = .ok (.aload_n 0, 1) := by decide +kernel
theorem dX4_addPlace_41 : decode cX4_addPlace 41 = .ok (.getfield 28, 3) := by decide +kernel
theorem dX4_addPlace_44 : decode cX4_addPlace 44 = .ok (.aload_n 0, 1) := by decide +kernel
theorem dX4_addPlace_45 : decode cX4_addPlace 45 = .ok (.getfield 9, 3) := by decide +kernel
theorem dX4_addPlace_48 : decode cX4_addPlace 48 = .ok (.iload 4, 2) := by decide +kernel
theorem dX4_addPlace_50 : decode cX4_addPlace 50 = .ok (.iastore, 1) := by decide +kernel
theorem dX4_addPlace_51 : decode cX4_addPlace 51 = .ok (.aload_n 0, 1) := by decide +kernel
theorem dX4_addPlace_52 : decode cX4_addPlace 52 = .ok (.dup, 1) := by decide +kernel
theorem dX4_addPlace_53 : decode cX4_addPlace 53 = .ok (.getfield 9, 3) := by decide +kernel
theorem dX4_addPlace_56 : decode cX4_addPlace 56 = .ok (.iconst 1, 1) := by decide +kernel
theorem dX4_addPlace_57 : decode cX4_addPlace 57 = .ok (.iadd, 1) := by decide +kernel
theorem dX4_addPlace_58 : decode cX4_addPlace 58 = .ok (.putfield 9, 3) := by decide +kernel
theorem dX4_addPlace_61 : decode cX4_addPlace 61 = .ok (.return_, 1) := by decide +kernel
theorem dX4_setTrade_0 : decode cX4_setTrade 0 = .ok (.aload_n 0, 1) := by decide +kernel
theorem dX4_setTrade_1 : decode cX4_setTrade 1 = .ok (.iload_n 1, 1) := by decide +kernel
theorem dX4_setTrade_2 : decode cX4_setTrade 2 = .ok (.invokevirtual 43, 3) := by decide +kernel
theorem dX4_setTrade_5 : decode cX4_setTrade 5 = .ok (.ifCond .eq 35, 3) := by decide +kernel
theorem dX4_setTrade_8 : decode cX4_setTrade 8 = .ok (.aload_n 0, 1) := by decide +kernel
theorem dX4_setTrade_9 : decode cX4_setTrade 9 = .ok (.iload_n 2, 1) := by decide +kernel
theorem dX4_setTrade_10 : decode cX4_setTrade 10 = .ok (.invokevirtual 43, 3) := by decide +kernel
theorem dX4_setTrade_13 : decode cX4_setTrade 13 = .ok (.ifCond .eq 27, 3) := by decide +kernel
theorem dX4_setTrade_16 : decode cX4_setTrade 16 = .ok (.aload_n 0, 1) := by decide +kernel
theorem dX4_setTrade_17 : decode cX4_setTrade 17 = .ok (.getfield 34, 3) := by decide +kernel
theorem dX4_setTrade_20 : decode cX4_setTrade 20 = .ok (.iload_n 1, 1) := by decide +kernel
theorem dX4_setTrade_21 : decode cX4_setTrade 21 = .ok (.bipush 10, 2) := by decide +kernel
theorem dX4_setTrade_23 : decode cX4_setTrade 23 = .ok (.imul, 1) := by decide +kernel
theorem dX4_setTrade_24 : decode cX4_setTrade 24 = .ok (.iload_n 2, 1) := by decide +kernel
theorem dX4_setTrade_25 : decode cX4_setTrade 25 = .ok (.iadd, 1) := by decide +kernel
theorem dX4_setTrade_26 : decode cX4_setTrade 26 = .ok (.iload_n 3, 1) := by decide +kernel
theorem dX4_setTrade_27 : decode cX4_setTrade 27 = .ok (.iastore, 1) := by decide +kernel
theorem dX4_setTrade_28 : decode cX4_setTrade 28 = .ok (.aload_n 0, 1) := by decide +kernel
theorem dX4_setTrade_29 : decode cX4_setTrade 29 = .ok (.getfield 34, 3) := by decide +kernel
theorem dX4_setTrade_32 : decode cX4_setTrade 32 = .ok (.iload_n 2, 1) := by decide +kernel
theorem dX4_setTrade_33 : decode cX4_setTrade 33 = .ok (.bipush 10, 2) := by decide +kernel
theorem dX4_setTrade_35 : decode cX4_setTrade 35 = .ok (.imul, 1) := by decide +kernel
theorem dX4_setTrade_36 : decode cX4_setTrade 36 = .ok (.iload_n 1, 1) := by decide +kernel
theorem dX4_setTrade_37 : decode cX4_setTrade 37 = .ok (.iadd, 1) := by decide +kernel
theorem dX4_setTrade_38 : decode cX4_setTrade 38 = .ok (.iload_n 3, 1) := by decide +kernel
theorem dX4_setTrade_39 : decode cX4_setTrade 39 = .ok (.iastore, 1) := by decide +kernel
theorem dX4_setTrade_40 : decode cX4_setTrade 40 = .ok (.return_, 1) := by decide +kernel
theorem dX4_sunMinutes_0 : decode cX4_sunMinutes 0 = .ok (.iload_n 0, 1) := by decide +kernel
theorem dX4_sunMinutes_1 : decode cX4_sunMinutes 1 = .ok (.iload_n 2, 1) := by decide +kernel
theorem dX4_sunMinutes_2 : decode cX4_sunMinutes 2 = .ok (.isub, 1) := by decide +kernel
theorem dX4_sunMinutes_3 : decode cX4_sunMinutes 3 = .ok (.sipush 360, 3) := by decide +kernel
theorem dX4_sunMinutes_6 : decode cX4_sunMinutes 6 = .ok (.invokestatic 47, 3) := by decide +kernel
theorem dX4_sunMinutes_9 : decode cX4_sunMinutes 9 = .ok (.istore_n 3, 1) := by decide +kernel
theorem dX4_sunMinutes_10 : decode cX4_sunMinutes 10 = .ok (.iload_n 1, 1) := by decide +kernel
theorem dX4_sunMinutes_11 : decode cX4_sunMinutes 11 = .ok (.iconst 4, 1) := by decide +kernel
theorem dX4_sunMinutes_12 : decode cX4_sunMinutes 12 = .ok (.iload_n 3, 1) := by decide +kernel
theorem dX4_sunMinutes_13 : decode cX4_sunMinutes 13 = .ok (.imul, 1) := by decide +kernel
theorem dX4_sunMinutes_14 : decode cX4_sunMinutes 14 = .ok (.iadd, 1) := by decide +kernel
theorem dX4_sunMinutes_15 : decode cX4_sunMinutes 15 = .ok (.sipush 720, 3) := by decide +kernel
theorem dX4_sunMinutes_18 : decode cX4_sunMinutes 18 = .ok (.isub, 1) := by decide +kernel
theorem dX4_sunMinutes_19 : decode cX4_sunMinutes 19 = .ok (.ireturn, 1) := by decide +kernel
theorem dX4_dayIn_0 : decode cX4_dayIn 0 = .ok (.aload_n 0, 1) := by decide +kernel
theorem dX4_dayIn_1 : decode cX4_dayIn 1 = .ok (.iload_n 1, 1) := by decide +kernel
theorem dX4_dayIn_2 : decode cX4_dayIn 2 = .ok (.invokevirtual 43, 3) := by decide +kernel
theorem dX4_dayIn_5 : decode cX4_dayIn 5 = .ok (.ifCond .ne 5, 3) := by decide +kernel
theorem dX4_dayIn_8 : decode cX4_dayIn 8 = .ok (.iconst 0, 1) := by decide +kernel
theorem dX4_dayIn_9 : decode cX4_dayIn 9 = .ok (.ireturn, 1) := by decide +kernel
theorem dX4_dayIn_10 : decode cX4_dayIn 10 = .ok (.aload_n 0, 1) := by decide +kernel
theorem dX4_dayIn_11 : decode cX4_dayIn 11 = .ok (.getfield 21, 3) := by decide +kernel
theorem dX4_dayIn_14 : decode cX4_dayIn 14 = .ok (.iload_n 1, 1) := by decide +kernel
theorem dX4_dayIn_15 : decode cX4_dayIn 15 = .ok (.iaload, 1) := by decide +kernel
theorem dX4_dayIn_16 : decode cX4_dayIn 16 = .ok (.iload_n 2, 1) := by decide +kernel
theorem dX4_dayIn_17 : decode cX4_dayIn 17 = .ok (.iload_n 3, 1) := by decide +kernel
theorem dX4_dayIn_18 : decode cX4_dayIn 18 = .ok (.invokestatic 53, 3) := by decide +kernel
theorem dX4_dayIn_21 : decode cX4_dayIn 21 = .ok (.istore 4, 2) := by decide +kernel
theorem dX4_dayIn_23 : decode cX4_dayIn 23 = .ok (.aload_n 0, 1) := by decide +kernel
theorem dX4_dayIn_24 : decode cX4_dayIn 24 = .ok (.getfield 25, 3) := by decide +kernel
theorem dX4_dayIn_27 : decode cX4_dayIn 27 = .ok (.iload_n 1, 1) := by decide +kernel
theorem dX4_dayIn_28 : decode cX4_dayIn 28 = .ok (.iaload, 1) := by decide +kernel
theorem dX4_dayIn_29 : decode cX4_dayIn 29 = .ok (.iconst 1, 1) := by decide +kernel
theorem dX4_dayIn_30 : decode cX4_dayIn 30 = .ok (.if_icmp .ne 12, 3) := by decide +kernel
theorem dX4_dayIn_33 : decode cX4_dayIn 33 = .ok (.iinc 4 360, 6) := by decide +kernel
theorem dX4_dayIn_39 : decode cX4_dayIn 39 = .ok (.goto 19, 3) := by decide +kernel
theorem dX4_dayIn_42 : decode cX4_dayIn 42 = .ok (.aload_n 0, 1) := by decide +kernel
theorem dX4_dayIn_43 : decode cX4_dayIn 43 = .ok (.getfield 25, 3) := by decide +kernel
theorem dX4_dayIn_46 : decode cX4_dayIn 46 = .ok (.iload_n 1, 1) := by decide +kernel
theorem dX4_dayIn_47 : decode cX4_dayIn 47 = .ok (.iaload, 1) := by decide +kernel
theorem dX4_dayIn_48 : decode cX4_dayIn 48 = .ok (.iconst 2, 1) := by decide +kernel
theorem dX4_dayIn_49 : decode cX4_dayIn 49 = .ok (.if_icmp .ne 9, 3) := by decide +kernel
theorem dX4_dayIn_52 : decode cX4_dayIn 52 = .ok (.iinc 4 (-360), 6) := by decide +kernel
theorem dX4_dayIn_58 : decode cX4_dayIn 58 = .ok (.iload 4, 2) := by decide +kernel
theorem dX4_dayIn_60 : decode cX4_dayIn 60 = .ok (.sipush 1440, 3) := by decide +kernel
theorem dX4_dayIn_63 : decode cX4_dayIn 63 = .ok (.invokestatic 57, 3) := by decide +kernel
theorem dX4_dayIn_66 : decode cX4_dayIn 66 = .ok (.aload_n 0, 1) := by decide +kernel
theorem dX4_dayIn_67 : decode cX4_dayIn 67 = .ok (.getfield 28, 3) := by decide +kernel
theorem dX4_dayIn_70 : decode cX4_dayIn 70 = .ok (.iload_n 1, 1) := by decide +kernel
theorem dX4_dayIn_71 : decode cX4_dayIn 71 = .ok (.iaload, 1) := by decide +kernel
theorem dX4_dayIn_72 : decode cX4_dayIn 72 = .ok (.iadd, 1) := by decide +kernel
theorem dX4_dayIn_73 : decode cX4_dayIn 73 = .ok (.ireturn, 1) := by decide +kernel
theorem dX4_wrongWith_0 : decode cX4_wrongWith 0 = .ok (.iconst 0, 1) := by decide +kernel
theorem dX4_wrongWith_1 : decode cX4_wrongWith 1 = .ok (.istore_n 3, 1) := by decide +kernel
theorem dX4_wrongWith_2 : decode cX4_wrongWith 2 = .ok (.iconst 0, 1) := by decide +kernel
theorem dX4_wrongWith_3 : decode cX4_wrongWith 3 = .ok (.istore 4, 2) := by decide +kernel
theorem dX4_wrongWith_5 : decode cX4_wrongWith 5 = .ok (.iload 4, 2) := by decide +kernel
theorem dX4_wrongWith_7 : decode cX4_wrongWith 7 = .ok (.aload_n 0, 1) := by decide +kernel
theorem dX4_wrongWith_8 : decode cX4_wrongWith 8 = .ok (.getfield 9, 3) := by decide +kernel
theorem dX4_wrongWith_11 : decode cX4_wrongWith 11 = .ok (.if_icmp .ge 94, 3) := by decide +kernel
theorem dX4_wrongWith_14 : decode cX4_wrongWith 14 = .ok (.aload_n 0, 1) := by decide +kernel
theorem dX4_wrongWith_15 : decode cX4_wrongWith 15 = .ok (.iload 4, 2) := by decide +kernel
theorem dX4_wrongWith_17 : decode cX4_wrongWith 17 = .ok (.iload_n 2, 1) := by decide +kernel
theorem dX4_wrongWith_18 : decode cX4_wrongWith 18 = .ok (.iload_n 1, 1) := by decide +kernel
theorem dX4_wrongWith_19 : decode cX4_wrongWith 19 = .ok (.invokevirtual 60, 3) := by decide +kernel
theorem dX4_wrongWith_22 : decode cX4_wrongWith 22 = .ok (.istore 5, 2) := by decide +kernel
theorem dX4_wrongWith_24 : decode cX4_wrongWith 24 = .ok (.iload 4, 2) := by decide +kernel
theorem dX4_wrongWith_26 : decode cX4_wrongWith 26 = .ok (.iconst 1, 1) := by decide +kernel
theorem dX4_wrongWith_27 : decode cX4_wrongWith 27 = .ok (.iadd, 1) := by decide +kernel
theorem dX4_wrongWith_28 : decode cX4_wrongWith 28 = .ok (.istore 6, 2) := by decide +kernel
theorem dX4_wrongWith_30 : decode cX4_wrongWith 30 = .ok (.iload 6, 2) := by decide +kernel
theorem dX4_wrongWith_32 : decode cX4_wrongWith 32 = .ok (.aload_n 0, 1) := by decide +kernel
theorem dX4_wrongWith_33 : decode cX4_wrongWith 33 = .ok (.getfield 9, 3) := by decide +kernel
theorem dX4_wrongWith_36 : decode cX4_wrongWith 36 = .ok (.if_icmp .ge 63, 3) := by decide +kernel
theorem dX4_wrongWith_39 : decode cX4_wrongWith 39 = .ok (.aload_n 0, 1) := by decide +kernel
theorem dX4_wrongWith_40 : decode cX4_wrongWith 40 = .ok (.getfield 34, 3) := by decide +kernel
theorem dX4_wrongWith_43 : decode cX4_wrongWith 43 = .ok (.iload 4, 2) := by decide +kernel
theorem dX4_wrongWith_45 : decode cX4_wrongWith 45 = .ok (.bipush 10, 2) := by decide +kernel
theorem dX4_wrongWith_47 : decode cX4_wrongWith 47 = .ok (.imul, 1) := by decide +kernel
theorem dX4_wrongWith_48 : decode cX4_wrongWith 48 = .ok (.iload 6, 2) := by decide +kernel
theorem dX4_wrongWith_50 : decode cX4_wrongWith 50 = .ok (.iadd, 1) := by decide +kernel
theorem dX4_wrongWith_51 : decode cX4_wrongWith 51 = .ok (.iaload, 1) := by decide +kernel
theorem dX4_wrongWith_52 : decode cX4_wrongWith 52 = .ok (.istore 7, 2) := by decide +kernel
theorem dX4_wrongWith_54 : decode cX4_wrongWith 54 = .ok (.iload 7, 2) := by decide +kernel
theorem dX4_wrongWith_56 : decode cX4_wrongWith 56 = .ok (.ifCond .le 37, 3) := by decide +kernel
theorem dX4_wrongWith_59 : decode cX4_wrongWith 59 = .ok (.iload 5, 2) := by decide +kernel
theorem dX4_wrongWith_61 : decode cX4_wrongWith 61 = .ok (.aload_n 0, 1) := by decide +kernel
theorem dX4_wrongWith_62 : decode cX4_wrongWith 62 = .ok (.iload 6, 2) := by decide +kernel
theorem dX4_wrongWith_64 : decode cX4_wrongWith 64 = .ok (.iload_n 2, 1) := by decide +kernel
theorem dX4_wrongWith_65 : decode cX4_wrongWith 65 = .ok (.iload_n 1, 1) := by decide +kernel
theorem dX4_wrongWith_66 : decode cX4_wrongWith 66 = .ok (.invokevirtual 60, 3) := by decide +kernel
theorem dX4_wrongWith_69 : decode cX4_wrongWith 69 = .ok (.if_icmp .eq 24, 3) := by decide +kernel
theorem dX4_wrongWith_72 : decode cX4_wrongWith 72 = .ok (.iload_n 3, 1) := by decide +kernel
theorem dX4_wrongWith_73 : decode cX4_wrongWith 73 = .ok (.iload 7, 2) := by decide +kernel
theorem dX4_wrongWith_75 : decode cX4_wrongWith 75 = .ok (.aload_n 0, 1) := by decide +kernel
theorem dX4_wrongWith_76 : decode cX4_wrongWith 76 = .ok (.getfield 31, 3) := by decide +kernel
theorem dX4_wrongWith_79 : decode cX4_wrongWith 79 = .ok (.iload 4, 2) := by decide +kernel
theorem dX4_wrongWith_81 : decode cX4_wrongWith 81 = .ok (.iaload, 1) := by decide +kernel
theorem dX4_wrongWith_82 : decode cX4_wrongWith 82 = .ok (.aload_n 0, 1) := by decide +kernel
theorem dX4_wrongWith_83 : decode cX4_wrongWith 83 = .ok (.getfield 31, 3) := by decide +kernel
theorem dX4_wrongWith_86 : decode cX4_wrongWith 86 = .ok (.iload 6, 2) := by decide +kernel
theorem dX4_wrongWith_88 : decode cX4_wrongWith 88 = .ok (.iaload, 1) := by decide +kernel
theorem dX4_wrongWith_89 : decode cX4_wrongWith 89 = .ok (.iadd, 1) := by decide +kernel
theorem dX4_wrongWith_90 : decode cX4_wrongWith 90 = .ok (.imul, 1) := by decide +kernel
theorem dX4_wrongWith_91 : decode cX4_wrongWith 91 = .ok (.iadd, 1) := by decide +kernel
theorem dX4_wrongWith_92 : decode cX4_wrongWith 92 = .ok (.istore_n 3, 1) := by decide +kernel
theorem dX4_wrongWith_93 : decode cX4_wrongWith 93 = .ok (.iinc 6 1, 3) := by decide +kernel
theorem dX4_wrongWith_96 : decode cX4_wrongWith 96 = .ok (.goto (-66), 3) := by decide +kernel
theorem dX4_wrongWith_99 : decode cX4_wrongWith 99 = .ok (.iinc 4 1, 3) := by decide +kernel
theorem dX4_wrongWith_102 : decode cX4_wrongWith 102 = .ok (.goto (-97), 3) := by decide +kernel
theorem dX4_wrongWith_105 : decode cX4_wrongWith 105 = .ok (.iload_n 3, 1) := by decide +kernel
theorem dX4_wrongWith_106 : decode cX4_wrongWith 106 = .ok (.ireturn, 1) := by decide +kernel
theorem dX4_locate_0 : decode cX4_locate 0 = .ok (.aload_n 1, 1) := by decide +kernel
theorem dX4_locate_1 : decode cX4_locate 1 = .ok (.getfield 63, 3) := by decide +kernel
theorem dX4_locate_4 : decode cX4_locate 4 = .ok (.istore 5, 2) := by decide +kernel
theorem dX4_locate_6 : decode cX4_locate 6 = .ok (.iconst 0, 1) := by decide +kernel
theorem dX4_locate_7 : decode cX4_locate 7 = .ok (.istore 6, 2) := by decide +kernel
theorem dX4_locate_9 : decode cX4_locate 9 = .ok (.aload_n 0, 1) := by decide +kernel
theorem dX4_locate_10 : decode cX4_locate 10 = .ok (.iload 5, 2) := by decide +kernel
theorem dX4_locate_12 : decode cX4_locate 12 = .ok (.invokevirtual 66, 3) := by decide +kernel
theorem dX4_locate_15 : decode cX4_locate 15 = .ok (.aload_n 0, 1) := by decide +kernel
theorem dX4_locate_16 : decode cX4_locate 16 = .ok (.getfield 18, 3) := by decide +kernel
theorem dX4_locate_19 : decode cX4_locate 19 = .ok (.isub, 1) := by decide +kernel
theorem dX4_locate_20 : decode cX4_locate 20 = .ok (.sipush 360, 3) := by decide +kernel
theorem dX4_locate_23 : decode cX4_locate 23 = .ok (.invokestatic 47, 3) := by decide +kernel
theorem dX4_locate_26 : decode cX4_locate 26 = .ok (.istore 7, 2) := by decide +kernel
theorem dX4_locate_28 : decode cX4_locate 28 = .ok (.aload 4, 2) := by decide +kernel
theorem dX4_locate_30 : decode cX4_locate 30 = .ok (.iconst 0, 1) := by decide +kernel
theorem dX4_locate_31 : decode cX4_locate 31 = .ok (.putfield 70, 3) := by decide +kernel
theorem dX4_locate_34 : decode cX4_locate 34 = .ok (.iconst 0, 1) := by decide +kernel
theorem dX4_locate_35 : decode cX4_locate 35 = .ok (.istore 8, 2) := by decide +kernel
theorem dX4_locate_37 : decode cX4_locate 37 = .ok (.iload 8, 2) := by decide +kernel
theorem dX4_locate_39 : decode cX4_locate 39 = .ok (.aload_n 1, 1) := by decide +kernel
theorem dX4_locate_40 : decode cX4_locate 40 = .ok (.getfield 75, 3) := by decide +kernel
theorem dX4_locate_43 : decode cX4_locate 43 = .ok (.if_icmp .ge 160, 3) := by decide +kernel
theorem dX4_locate_46 : decode cX4_locate 46 = .ok (.iload_n 3, 1) := by decide +kernel
theorem dX4_locate_47 : decode cX4_locate 47 = .ok (.aload_n 1, 1) := by decide +kernel
theorem dX4_locate_48 : decode cX4_locate 48 = .ok (.getfield 78, 3) := by decide +kernel
theorem dX4_locate_51 : decode cX4_locate 51 = .ok (.iload 8, 2) := by decide +kernel
theorem dX4_locate_53 : decode cX4_locate 53 = .ok (.iaload, 1) := by decide +kernel
theorem dX4_locate_54 : decode cX4_locate 54 = .ok (.if_icmp .le 149, 3) := by decide +kernel
theorem dX4_locate_57 : decode cX4_locate 57 = .ok (.aload_n 0, 1) := by decide +kernel
theorem dX4_locate_58 : decode cX4_locate 58 = .ok (.iload 5, 2) := by decide +kernel
theorem dX4_locate_60 : decode cX4_locate 60 = .ok (.aload_n 1, 1) := by decide +kernel
theorem dX4_locate_61 : decode cX4_locate 61 = .ok (.getfield 81, 3) := by decide +kernel
theorem dX4_locate_64 : decode cX4_locate 64 = .ok (.iload 8, 2) := by decide +kernel
theorem dX4_locate_66 : decode cX4_locate 66 = .ok (.iaload, 1) := by decide +kernel
theorem dX4_locate_67 : decode cX4_locate 67 = .ok (.iload_n 2, 1) := by decide +kernel
theorem dX4_locate_68 : decode cX4_locate 68 = .ok (.iload 8, 2) := by decide +kernel
theorem dX4_locate_70 : decode cX4_locate 70 = .ok (.ishr, 1) := by decide +kernel
theorem dX4_locate_71 : decode cX4_locate 71 = .ok (.iconst 1, 1) := by decide +kernel
theorem dX4_locate_72 : decode cX4_locate 72 = .ok (.iand, 1) := by decide +kernel
theorem dX4_locate_73 : decode cX4_locate 73 = .ok (.ifCond .eq 7, 3) := by decide +kernel
theorem dX4_locate_76 : decode cX4_locate 76 = .ok (.iconst 1, 1) := by decide +kernel
theorem dX4_locate_77 : decode cX4_locate 77 = .ok (.goto 4, 3) := by decide +kernel
theorem dX4_locate_80 : decode cX4_locate 80 = .ok (.iconst 0, 1) := by decide +kernel
theorem dX4_locate_81 : decode cX4_locate 81 = .ok (.invokevirtual 84, 3) := by decide +kernel
theorem dX4_locate_84 : decode cX4_locate 84 = .ok (.istore 9, 2) := by decide +kernel
theorem dX4_locate_86 : decode cX4_locate 86 = .ok (.iload_n 3, 1) := by decide +kernel
theorem dX4_locate_87 : decode cX4_locate 87 = .ok (.aload_n 1, 1) := by decide +kernel
theorem dX4_locate_88 : decode cX4_locate 88 = .ok (.getfield 88, 3) := by decide +kernel
theorem dX4_locate_91 : decode cX4_locate 91 = .ok (.iload 8, 2) := by decide +kernel
theorem dX4_locate_93 : decode cX4_locate 93 = .ok (.iaload, 1) := by decide +kernel
theorem dX4_locate_94 : decode cX4_locate 94 = .ok (.if_icmp .ge 75, 3) := by decide +kernel
theorem dX4_locate_97 : decode cX4_locate 97 = .ok (.aload 4, 2) := by decide +kernel
theorem dX4_locate_99 : decode cX4_locate 99 = .ok (.iload 8, 2) := by decide +kernel
theorem dX4_locate_101 : decode cX4_locate 101 = .ok (.aload_n 1, 1) := by decide +kernel
theorem dX4_locate_102 : decode cX4_locate 102 = .ok (.getfield 88, 3) := by decide +kernel
theorem dX4_locate_105 : decode cX4_locate 105 = .ok (.iload 8, 2) := by decide +kernel
theorem dX4_locate_107 : decode cX4_locate 107 = .ok (.iaload, 1) := by decide +kernel
theorem dX4_locate_108 : decode cX4_locate 108 = .ok (.aload_n 1, 1) := by decide +kernel
theorem dX4_locate_109 : decode cX4_locate 109 = .ok (.getfield 78, 3) := by decide +kernel
theorem dX4_locate_112 : decode cX4_locate 112 = .ok (.iload 8, 2) := by decide +kernel
theorem dX4_locate_114 : decode cX4_locate 114 = .ok (.iaload, 1) := by decide +kernel
theorem dX4_locate_115 : decode cX4_locate 115 = .ok (.isub, 1) := by decide +kernel
theorem dX4_locate_116 : decode cX4_locate 116 = .ok (.invokevirtual 91, 3) := by decide +kernel
theorem dX4_locate_119 : decode cX4_locate 119 = .ok (.aload 4, 2) := by decide +kernel
theorem dX4_locate_121 : decode cX4_locate 121 = .ok (.iload 6, 2) := by decide +kernel
theorem dX4_locate_123 : decode cX4_locate 123 = .ok (.i2l, 1) := by decide +kernel
theorem dX4_locate_124 : decode cX4_locate 124 = .ok (.aload 4, 2) := by decide +kernel
theorem dX4_locate_126 : decode cX4_locate 126 = .ok (.getfield 95, 3) := by decide +kernel
theorem dX4_locate_129 : decode cX4_locate 129 = .ok (.lmul, 1) := by decide +kernel
theorem dX4_locate_130 : decode cX4_locate 130 = .ok (.iload 9, 2) := by decide +kernel
theorem dX4_locate_132 : decode cX4_locate 132 = .ok (.i2l, 1) := by decide +kernel
theorem dX4_locate_133 : decode cX4_locate 133 = .ok (.iload_n 3, 1) := by decide +kernel
theorem dX4_locate_134 : decode cX4_locate 134 = .ok (.aload_n 1, 1) := by decide +kernel
theorem dX4_locate_135 : decode cX4_locate 135 = .ok (.getfield 78, 3) := by decide +kernel
theorem dX4_locate_138 : decode cX4_locate 138 = .ok (.iload 8, 2) := by decide +kernel
theorem dX4_locate_140 : decode cX4_locate 140 = .ok (.iaload, 1) := by decide +kernel
theorem dX4_locate_141 : decode cX4_locate 141 = .ok (.isub, 1) := by decide +kernel
theorem dX4_locate_142 : decode cX4_locate 142 = .ok (.i2l, 1) := by decide +kernel
theorem dX4_locate_143 : decode cX4_locate 143 = .ok (.lmul, 1) := by decide +kernel
theorem dX4_locate_144 : decode cX4_locate 144 = .ok (.ladd, 1) := by decide +kernel
theorem dX4_locate_145 : decode cX4_locate 145 = .ok (.putfield 99, 3) := by decide +kernel
theorem dX4_locate_148 : decode cX4_locate 148 = .ok (.aload 4, 2) := by decide +kernel
theorem dX4_locate_150 : decode cX4_locate 150 = .ok (.iload 7, 2) := by decide +kernel
theorem dX4_locate_152 : decode cX4_locate 152 = .ok (.i2l, 1) := by decide +kernel
theorem dX4_locate_153 : decode cX4_locate 153 = .ok (.aload 4, 2) := by decide +kernel
theorem dX4_locate_155 : decode cX4_locate 155 = .ok (.getfield 95, 3) := by decide +kernel
theorem dX4_locate_158 : decode cX4_locate 158 = .ok (.lmul, 1) := by decide +kernel
theorem dX4_locate_159 : decode cX4_locate 159 = .ok (.aload 4, 2) := by decide +kernel
theorem dX4_locate_161 : decode cX4_locate 161 = .ok (.getfield 99, 3) := by decide +kernel
theorem dX4_locate_164 : decode cX4_locate 164 = .ok (.ladd, 1) := by decide +kernel
theorem dX4_locate_165 : decode cX4_locate 165 = .ok (.putfield 102, 3) := by decide +kernel
theorem dX4_locate_168 : decode cX4_locate 168 = .ok (.return_, 1) := by decide +kernel
theorem dX4_locate_169 : decode cX4_locate 169 = .ok (.iload 6, 2) := by decide +kernel
theorem dX4_locate_171 : decode cX4_locate 171 = .ok (.iload 9, 2) := by decide +kernel
theorem dX4_locate_173 : decode cX4_locate 173 = .ok (.iadd, 1) := by decide +kernel
theorem dX4_locate_174 : decode cX4_locate 174 = .ok (.istore 6, 2) := by decide +kernel
theorem dX4_locate_176 : decode cX4_locate 176 = .ok (.aload_n 1, 1) := by decide +kernel
theorem dX4_locate_177 : decode cX4_locate 177 = .ok (.getfield 81, 3) := by decide +kernel
theorem dX4_locate_180 : decode cX4_locate 180 = .ok (.iload 8, 2) := by decide +kernel
theorem dX4_locate_182 : decode cX4_locate 182 = .ok (.iaload, 1) := by decide +kernel
theorem dX4_locate_183 : decode cX4_locate 183 = .ok (.istore 5, 2) := by decide +kernel
theorem dX4_locate_185 : decode cX4_locate 185 = .ok (.aload 4, 2) := by decide +kernel
theorem dX4_locate_187 : decode cX4_locate 187 = .ok (.aload_n 1, 1) := by decide +kernel
theorem dX4_locate_188 : decode cX4_locate 188 = .ok (.getfield 88, 3) := by decide +kernel
theorem dX4_locate_191 : decode cX4_locate 191 = .ok (.iload 8, 2) := by decide +kernel
theorem dX4_locate_193 : decode cX4_locate 193 = .ok (.iaload, 1) := by decide +kernel
theorem dX4_locate_194 : decode cX4_locate 194 = .ok (.putfield 70, 3) := by decide +kernel
theorem dX4_locate_197 : decode cX4_locate 197 = .ok (.iinc 8 1, 3) := by decide +kernel
theorem dX4_locate_200 : decode cX4_locate 200 = .ok (.goto (-163), 3) := by decide +kernel
theorem dX4_locate_203 : decode cX4_locate 203 = .ok (.aload 4, 2) := by decide +kernel
theorem dX4_locate_205 : decode cX4_locate 205 = .ok (.iload 5, 2) := by decide +kernel
theorem dX4_locate_207 : decode cX4_locate 207 = .ok (.invokevirtual 105, 3) := by decide +kernel
theorem dX4_locate_210 : decode cX4_locate 210 = .ok (.aload 4, 2) := by decide +kernel
theorem dX4_locate_212 : decode cX4_locate 212 = .ok (.iload 6, 2) := by decide +kernel
theorem dX4_locate_214 : decode cX4_locate 214 = .ok (.i2l, 1) := by decide +kernel
theorem dX4_locate_215 : decode cX4_locate 215 = .ok (.putfield 99, 3) := by decide +kernel
theorem dX4_locate_218 : decode cX4_locate 218 = .ok (.aload 4, 2) := by decide +kernel
theorem dX4_locate_220 : decode cX4_locate 220 = .ok (.iload 7, 2) := by decide +kernel
theorem dX4_locate_222 : decode cX4_locate 222 = .ok (.iload 6, 2) := by decide +kernel
theorem dX4_locate_224 : decode cX4_locate 224 = .ok (.iadd, 1) := by decide +kernel
theorem dX4_locate_225 : decode cX4_locate 225 = .ok (.i2l, 1) := by decide +kernel
theorem dX4_locate_226 : decode cX4_locate 226 = .ok (.putfield 102, 3) := by decide +kernel
theorem dX4_locate_229 : decode cX4_locate 229 = .ok (.return_, 1) := by decide +kernel
theorem dX4_degreesOf_0 : decode cX4_degreesOf 0 = .ok (.aload_n 0, 1) := by decide +kernel
theorem dX4_degreesOf_1 : decode cX4_degreesOf 1 = .ok (.iload_n 2, 1) := by decide +kernel
theorem dX4_degreesOf_2 : decode cX4_degreesOf 2 = .ok (.invokevirtual 66, 3) := by decide +kernel
theorem dX4_degreesOf_5 : decode cX4_degreesOf 5 = .ok (.aload_n 0, 1) := by decide +kernel
theorem dX4_degreesOf_6 : decode cX4_degreesOf 6 = .ok (.iload_n 1, 1) := by decide +kernel
theorem dX4_degreesOf_7 : decode cX4_degreesOf 7 = .ok (.invokevirtual 66, 3) := by decide +kernel
theorem dX4_degreesOf_10 : decode cX4_degreesOf 10 = .ok (.isub, 1) := by decide +kernel
theorem dX4_degreesOf_11 : decode cX4_degreesOf 11 = .ok (.istore 4, 2) := by decide +kernel
theorem dX4_degreesOf_13 : decode cX4_degreesOf 13 = .ok (.iload_n 3, 1) := by decide +kernel
theorem dX4_degreesOf_14 : decode cX4_degreesOf 14 = .ok (.ifCond .eq 14, 3) := by decide +kernel
theorem dX4_degreesOf_17 : decode cX4_degreesOf 17 = .ok (.iload 4, 2) := by decide +kernel
theorem dX4_degreesOf_19 : decode cX4_degreesOf 19 = .ok (.sipush 360, 3) := by decide +kernel
theorem dX4_degreesOf_22 : decode cX4_degreesOf 22 = .ok (.invokestatic 47, 3) := by decide +kernel
theorem dX4_degreesOf_25 : decode cX4_degreesOf 25 = .ok (.goto 13, 3) := by decide +kernel
theorem dX4_degreesOf_28 : decode cX4_degreesOf 28 = .ok (.iload 4, 2) := by decide +kernel
theorem dX4_degreesOf_30 : decode cX4_degreesOf 30 = .ok (.ineg, 1) := by decide +kernel
theorem dX4_degreesOf_31 : decode cX4_degreesOf 31 = .ok (.sipush 360, 3) := by decide +kernel
theorem dX4_degreesOf_34 : decode cX4_degreesOf 34 = .ok (.invokestatic 47, 3) := by decide +kernel
theorem dX4_degreesOf_37 : decode cX4_degreesOf 37 = .ok (.ineg, 1) := by decide +kernel
theorem dX4_degreesOf_38 : decode cX4_degreesOf 38 = .ok (.ireturn, 1) := by decide +kernel
theorem dX4_allLegs_0 : decode cX4_allLegs 0 = .ok (.iconst 0, 1) := by decide +kernel
theorem dX4_allLegs_1 : decode cX4_allLegs 1 = .ok (.istore_n 1, 1) := by decide +kernel
theorem dX4_allLegs_2 : decode cX4_allLegs 2 = .ok (.iconst 0, 1) := by decide +kernel
theorem dX4_allLegs_3 : decode cX4_allLegs 3 = .ok (.istore_n 2, 1) := by decide +kernel
theorem dX4_allLegs_4 : decode cX4_allLegs 4 = .ok (.iload_n 2, 1) := by decide +kernel
theorem dX4_allLegs_5 : decode cX4_allLegs 5 = .ok (.aload_n 0, 1) := by decide +kernel
theorem dX4_allLegs_6 : decode cX4_allLegs 6 = .ok (.getfield 15, 3) := by decide +kernel
theorem dX4_allLegs_9 : decode cX4_allLegs 9 = .ok (.if_icmp .ge 31, 3) := by decide +kernel
theorem dX4_allLegs_12 : decode cX4_allLegs 12 = .ok (.aload_n 0, 1) := by decide +kernel
theorem dX4_allLegs_13 : decode cX4_allLegs 13 = .ok (.getfield 39, 3) := by decide +kernel
theorem dX4_allLegs_16 : decode cX4_allLegs 16 = .ok (.iload_n 2, 1) := by decide +kernel
theorem dX4_allLegs_17 : decode cX4_allLegs 17 = .ok (.aaload, 1) := by decide +kernel
theorem dX4_allLegs_18 : decode cX4_allLegs 18 = .ok (.astore_n 3, 1) := by decide +kernel
theorem dX4_allLegs_19 : decode cX4_allLegs 19 = .ok (.iload_n 1, 1) := by decide +kernel
theorem dX4_allLegs_20 : decode cX4_allLegs 20 = .ok (.aload_n 3, 1) := by decide +kernel
theorem dX4_allLegs_21 : decode cX4_allLegs 21 = .ok (.ifnonnull 7, 3) := by decide +kernel
theorem dX4_allLegs_24 : decode cX4_allLegs 24 = .ok (.iconst 0, 1) := by decide +kernel
theorem dX4_allLegs_25 : decode cX4_allLegs 25 = .ok (.goto 7, 3) := by decide +kernel
theorem dX4_allLegs_28 : decode cX4_allLegs 28 = .ok (.aload_n 3, 1) := by decide +kernel
theorem dX4_allLegs_29 : decode cX4_allLegs 29 = .ok (.getfield 75, 3) := by decide +kernel
theorem dX4_allLegs_32 : decode cX4_allLegs 32 = .ok (.iadd, 1) := by decide +kernel
theorem dX4_allLegs_33 : decode cX4_allLegs 33 = .ok (.istore_n 1, 1) := by decide +kernel
theorem dX4_allLegs_34 : decode cX4_allLegs 34 = .ok (.iinc 2 1, 3) := by decide +kernel
theorem dX4_allLegs_37 : decode cX4_allLegs 37 = .ok (.goto (-33), 3) := by decide +kernel
theorem dX4_allLegs_40 : decode cX4_allLegs 40 = .ok (.iload_n 1, 1) := by decide +kernel
theorem dX4_allLegs_41 : decode cX4_allLegs 41 = .ok (.ireturn, 1) := by decide +kernel
theorem dX4_allPeople_0 : decode cX4_allPeople 0 = .ok (.iconst 0, 1) := by decide +kernel
theorem dX4_allPeople_1 : decode cX4_allPeople 1 = .ok (.istore_n 1, 1) := by decide +kernel
theorem dX4_allPeople_2 : decode cX4_allPeople 2 = .ok (.iconst 0, 1) := by decide +kernel
theorem dX4_allPeople_3 : decode cX4_allPeople 3 = .ok (.istore_n 2, 1) := by decide +kernel
theorem dX4_allPeople_4 : decode cX4_allPeople 4 = .ok (.iload_n 2, 1) := by decide +kernel
theorem dX4_allPeople_5 : decode cX4_allPeople 5 = .ok (.aload_n 0, 1) := by decide +kernel
theorem dX4_allPeople_6 : decode cX4_allPeople 6 = .ok (.getfield 9, 3) := by decide +kernel
theorem dX4_allPeople_9 : decode cX4_allPeople 9 = .ok (.if_icmp .ge 18, 3) := by decide +kernel
theorem dX4_allPeople_12 : decode cX4_allPeople 12 = .ok (.iload_n 1, 1) := by decide +kernel
theorem dX4_allPeople_13 : decode cX4_allPeople 13 = .ok (.aload_n 0, 1) := by decide +kernel
theorem dX4_allPeople_14 : decode cX4_allPeople 14 = .ok (.getfield 31, 3) := by decide +kernel
theorem dX4_allPeople_17 : decode cX4_allPeople 17 = .ok (.iload_n 2, 1) := by decide +kernel
theorem dX4_allPeople_18 : decode cX4_allPeople 18 = .ok (.iaload, 1) := by decide +kernel
theorem dX4_allPeople_19 : decode cX4_allPeople 19 = .ok (.iadd, 1) := by decide +kernel
theorem dX4_allPeople_20 : decode cX4_allPeople 20 = .ok (.istore_n 1, 1) := by decide +kernel
theorem dX4_allPeople_21 : decode cX4_allPeople 21 = .ok (.iinc 2 1, 3) := by decide +kernel
theorem dX4_allPeople_24 : decode cX4_allPeople 24 = .ok (.goto (-20), 3) := by decide +kernel
theorem dX4_allPeople_27 : decode cX4_allPeople 27 = .ok (.iload_n 1, 1) := by decide +kernel
theorem dX4_allPeople_28 : decode cX4_allPeople 28 = .ok (.ireturn, 1) := by decide +kernel
theorem dX4_tradingPairs_0 : decode cX4_tradingPairs 0 = .ok (.iconst 0, 1) := by decide +kernel
theorem dX4_tradingPairs_1 : decode cX4_tradingPairs 1 = .ok (.istore_n 1, 1) := by decide +kernel
theorem dX4_tradingPairs_2 : decode cX4_tradingPairs 2 = .ok (.iconst 0, 1) := by decide +kernel
theorem dX4_tradingPairs_3 : decode cX4_tradingPairs 3 = .ok (.istore_n 2, 1) := by decide +kernel
theorem dX4_tradingPairs_4 : decode cX4_tradingPairs 4 = .ok (.iload_n 2, 1) := by decide +kernel
theorem dX4_tradingPairs_5 : decode cX4_tradingPairs 5 = .ok (.aload_n 0, 1) := by decide +kernel
theorem dX4_tradingPairs_6 : decode cX4_tradingPairs 6 = .ok (.getfield 9, 3) := by decide +kernel
theorem dX4_tradingPairs_9 : decode cX4_tradingPairs 9 = .ok (.if_icmp .ge 44, 3) := by decide +kernel
theorem dX4_tradingPairs_12 : decode cX4_tradingPairs 12 = .ok (.iload_n 2, 1) := by decide +kernel
theorem dX4_tradingPairs_13 : decode cX4_tradingPairs 13 = .ok (.iconst 1, 1) := by decide +kernel
theorem dX4_tradingPairs_14 : decode cX4_tradingPairs 14 = .ok (.iadd, 1) := by decide +kernel
theorem dX4_tradingPairs_15 : decode cX4_tradingPairs 15 = .ok (.istore_n 3, 1) := by decide +kernel
theorem dX4_tradingPairs_16 : decode cX4_tradingPairs 16 = .ok (.iload_n 3, 1) := by decide +kernel
theorem dX4_tradingPairs_17 : decode cX4_tradingPairs 17 = .ok (.aload_n 0, 1) := by decide +kernel
theorem dX4_tradingPairs_18 : decode cX4_tradingPairs 18 = .ok (.getfield 9, 3) := by decide +kernel
theorem dX4_tradingPairs_21 : decode cX4_tradingPairs 21 = .ok (.if_icmp .ge 26, 3) := by decide +kernel
theorem dX4_tradingPairs_24 : decode cX4_tradingPairs 24 = .ok (.aload_n 0, 1) := by decide +kernel
theorem dX4_tradingPairs_25 : decode cX4_tradingPairs 25 = .ok (.getfield 34, 3) := by decide +kernel
theorem dX4_tradingPairs_28 : decode cX4_tradingPairs 28 = .ok (.iload_n 2, 1) := by decide +kernel
theorem dX4_tradingPairs_29 : decode cX4_tradingPairs 29 = .ok (.bipush 10, 2) := by decide +kernel
theorem dX4_tradingPairs_31 : decode cX4_tradingPairs 31 = .ok (.imul, 1) := by decide +kernel
theorem dX4_tradingPairs_32 : decode cX4_tradingPairs 32 = .ok (.iload_n 3, 1) := by decide +kernel
theorem dX4_tradingPairs_33 : decode cX4_tradingPairs 33 = .ok (.iadd, 1) := by decide +kernel
theorem dX4_tradingPairs_34 : decode cX4_tradingPairs 34 = .ok (.iaload, 1) := by decide +kernel
theorem dX4_tradingPairs_35 : decode cX4_tradingPairs 35 = .ok (.ifCond .le 6, 3) := by decide +kernel
theorem dX4_tradingPairs_38 : decode cX4_tradingPairs 38 = .ok (.iinc 1 1, 3) := by decide +kernel
theorem dX4_tradingPairs_41 : decode cX4_tradingPairs 41 = .ok (.iinc 3 1, 3) := by decide +kernel
theorem dX4_tradingPairs_44 : decode cX4_tradingPairs 44 = .ok (.goto (-28), 3) := by decide +kernel
theorem dX4_tradingPairs_47 : decode cX4_tradingPairs 47 = .ok (.iinc 2 1, 3) := by decide +kernel
theorem dX4_tradingPairs_50 : decode cX4_tradingPairs 50 = .ok (.goto (-46), 3) := by decide +kernel
theorem dX4_tradingPairs_53 : decode cX4_tradingPairs 53 = .ok (.iload_n 1, 1) := by decide +kernel
theorem dX4_tradingPairs_54 : decode cX4_tradingPairs 54 = .ok (.ireturn, 1) := by decide +kernel
theorem dX4_takeWorld_0 : decode cX4_takeWorld 0 = .ok (.aload_n 0, 1) := by decide +kernel
theorem dX4_takeWorld_1 : decode cX4_takeWorld 1 = .ok (.aload_n 1, 1) := by decide +kernel
theorem dX4_takeWorld_2 : decode cX4_takeWorld 2 = .ok (.getfield 9, 3) := by decide +kernel
theorem dX4_takeWorld_5 : decode cX4_takeWorld 5 = .ok (.putfield 9, 3) := by decide +kernel
theorem dX4_takeWorld_8 : decode cX4_takeWorld 8 = .ok (.aload_n 0, 1) := by decide +kernel
theorem dX4_takeWorld_9 : decode cX4_takeWorld 9 = .ok (.aload_n 1, 1) := by decide +kernel
theorem dX4_takeWorld_10 : decode cX4_takeWorld 10 = .ok (.getfield 18, 3) := by decide +kernel
theorem dX4_takeWorld_13 : decode cX4_takeWorld 13 = .ok (.putfield 18, 3) := by decide +kernel
theorem dX4_takeWorld_16 : decode cX4_takeWorld 16 = .ok (.aload_n 1, 1) := by decide +kernel
theorem dX4_takeWorld_17 : decode cX4_takeWorld 17 = .ok (.getfield 21, 3) := by decide +kernel
theorem dX4_takeWorld_20 : decode cX4_takeWorld 20 = .ok (.iconst 0, 1) := by decide +kernel
theorem dX4_takeWorld_21 : decode cX4_takeWorld 21 = .ok (.aload_n 0, 1) := by decide +kernel
theorem dX4_takeWorld_22 : decode cX4_takeWorld 22 = .ok (.getfield 21, 3) := by decide +kernel
theorem dX4_takeWorld_25 : decode cX4_takeWorld 25 = .ok (.iconst 0, 1) := by decide +kernel
theorem dX4_takeWorld_26 : decode cX4_takeWorld 26 = .ok (.bipush 10, 2) := by decide +kernel
theorem dX4_takeWorld_28 : decode cX4_takeWorld 28 = .ok (.invokestatic 109, 3) := by decide +kernel
theorem dX4_takeWorld_31 : decode cX4_takeWorld 31 = .ok (.aload_n 1, 1) := by decide +kernel
theorem dX4_takeWorld_32 : decode cX4_takeWorld 32 = .ok (.getfield 25, 3) := by decide +kernel
theorem dX4_takeWorld_35 : decode cX4_takeWorld 35 = .ok (.iconst 0, 1) := by decide +kernel
theorem dX4_takeWorld_36 : decode cX4_takeWorld 36 = .ok (.aload_n 0, 1) := by decide +kernel
theorem dX4_takeWorld_37 : decode cX4_takeWorld 37 = .ok (.getfield 25, 3) := by decide +kernel
theorem dX4_takeWorld_40 : decode cX4_takeWorld 40 = .ok (.iconst 0, 1) := by decide +kernel
theorem dX4_takeWorld_41 : decode cX4_takeWorld 41 = .ok (.bipush 10, 2) := by decide +kernel
theorem dX4_takeWorld_43 : decode cX4_takeWorld 43 = .ok (.invokestatic 109, 3) := by decide +kernel
theorem dX4_takeWorld_46 : decode cX4_takeWorld 46 = .ok (.aload_n 1, 1) := by decide +kernel
theorem dX4_takeWorld_47 : decode cX4_takeWorld 47 = .ok (.getfield 28, 3) := by decide +kernel
theorem dX4_takeWorld_50 : decode cX4_takeWorld 50 = .ok (.iconst 0, 1) := by decide +kernel
theorem dX4_takeWorld_51 : decode cX4_takeWorld 51 = .ok (.aload_n 0, 1) := by decide +kernel
theorem dX4_takeWorld_52 : decode cX4_takeWorld 52 = .ok (.getfield 28, 3) := by decide +kernel
theorem dX4_takeWorld_55 : decode cX4_takeWorld 55 = .ok (.iconst 0, 1) := by decide +kernel
theorem dX4_takeWorld_56 : decode cX4_takeWorld 56 = .ok (.bipush 10, 2) := by decide +kernel
theorem dX4_takeWorld_58 : decode cX4_takeWorld 58 = .ok (.invokestatic 109, 3) := by decide +kernel
theorem dX4_takeWorld_61 : decode cX4_takeWorld 61 = .ok (.aload_n 1, 1) := by decide +kernel
theorem dX4_takeWorld_62 : decode cX4_takeWorld 62 = .ok (.getfield 31, 3) := by decide +kernel
theorem dX4_takeWorld_65 : decode cX4_takeWorld 65 = .ok (.iconst 0, 1) := by decide +kernel
theorem dX4_takeWorld_66 : decode cX4_takeWorld 66 = .ok (.aload_n 0, 1) := by decide +kernel
theorem dX4_takeWorld_67 : decode cX4_takeWorld 67 = .ok (.getfield 31, 3) := by decide +kernel
theorem dX4_takeWorld_70 : decode cX4_takeWorld 70 = .ok (.iconst 0, 1) := by decide +kernel
theorem dX4_takeWorld_71 : decode cX4_takeWorld 71 = .ok (.bipush 10, 2) := by decide +kernel
theorem dX4_takeWorld_73 : decode cX4_takeWorld 73 = .ok (.invokestatic 109, 3) := by decide +kernel
theorem dX4_takeWorld_76 : decode cX4_takeWorld 76 = .ok (.aload_n 1, 1) := by decide +kernel
theorem dX4_takeWorld_77 : decode cX4_takeWorld 77 = .ok (.getfield 34, 3) := by decide +kernel
theorem dX4_takeWorld_80 : decode cX4_takeWorld 80 = .ok (.iconst 0, 1) := by decide +kernel
theorem dX4_takeWorld_81 : decode cX4_takeWorld 81 = .ok (.aload_n 0, 1) := by decide +kernel
theorem dX4_takeWorld_82 : decode cX4_takeWorld 82 = .ok (.getfield 34, 3) := by decide +kernel
theorem dX4_takeWorld_85 : decode cX4_takeWorld 85 = .ok (.iconst 0, 1) := by decide +kernel
theorem dX4_takeWorld_86 : decode cX4_takeWorld 86 = .ok (.bipush 100, 2) := by decide +kernel
theorem dX4_takeWorld_88 : decode cX4_takeWorld 88 = .ok (.invokestatic 109, 3) := by decide +kernel
theorem dX4_takeWorld_91 : decode cX4_takeWorld 91 = .ok (.return_, 1) := by decide +kernel
theorem dX4_takeTravellers_0 : decode cX4_takeTravellers 0 = .ok (.aload_n 0, 1) := by decide +kernel
theorem dX4_takeTravellers_1 : decode cX4_takeTravellers 1 = .ok (.aload_n 1, 1) := by decide +kernel
theorem dX4_takeTravellers_2 : decode cX4_takeTravellers 2 = .ok (.getfield 15, 3) := by decide +kernel
theorem dX4_takeTravellers_5 : decode cX4_takeTravellers 5 = .ok (.putfield 15, 3) := by decide +kernel
theorem dX4_takeTravellers_8 : decode cX4_takeTravellers 8 = .ok (.iconst 0, 1) := by decide +kernel
theorem dX4_takeTravellers_9 : decode cX4_takeTravellers 9 = .ok (.istore_n 3, 1) := by decide +kernel
theorem dX4_takeTravellers_10 : decode cX4_takeTravellers 10 = .ok (.iload_n 3, 1) := by decide +kernel
theorem dX4_takeTravellers_11 : decode cX4_takeTravellers 11 = .ok (.aload_n 0, 1) := by decide +kernel
theorem dX4_takeTravellers_12 : decode cX4_takeTravellers 12 = .ok (.getfield 15, 3) := by decide +kernel
theorem dX4_takeTravellers_15 : decode cX4_takeTravellers 15 = .ok (.if_icmp .ge 63, 3) := by decide +kernel
theorem dX4_takeTravellers_18 : decode cX4_takeTravellers 18 = .ok (.aload_n 1, 1) := by decide +kernel
theorem dX4_takeTravellers_19 : decode cX4_takeTravellers 19 = .ok (.getfield 39, 3) := by decide +kernel
theorem dX4_takeTravellers_22 : decode cX4_takeTravellers 22 = .ok (.iload_n 3, 1) := by decide +kernel
theorem dX4_takeTravellers_23 : decode cX4_takeTravellers 23 = .ok (.aaload, 1) := by decide +kernel
theorem dX4_takeTravellers_24 : decode cX4_takeTravellers 24 = .ok (.astore 4, 2) := by decide +kernel
theorem dX4_takeTravellers_26 : decode cX4_takeTravellers 26 = .ok (.aload_n 0, 1) := by decide +kernel
theorem dX4_takeTravellers_27 : decode cX4_takeTravellers 27 = .ok (.getfield 39, 3) := by decide +kernel
theorem dX4_takeTravellers_30 : decode cX4_takeTravellers 30 = .ok (.iload_n 3, 1) := by decide +kernel
theorem dX4_takeTravellers_31 : decode cX4_takeTravellers 31 = .ok (.aaload, 1) := by decide +kernel
theorem dX4_takeTravellers_32 : decode cX4_takeTravellers 32 = .ok (.astore 5, 2) := by decide +kernel
theorem dX4_takeTravellers_34 : decode cX4_takeTravellers 34 = .ok (.iload_n 2, 1) := by decide +kernel
theorem dX4_takeTravellers_35 : decode cX4_takeTravellers 35 = .ok (.ifCond .ne 8, 3) := by decide +kernel
theorem dX4_takeTravellers_38 : decode cX4_takeTravellers 38 = .ok (.aload 5, 2) := by decide +kernel
theorem dX4_takeTravellers_40 : decode cX4_takeTravellers 40 = .ok (.ifnonnull 20, 3) := by decide +kernel
theorem dX4_takeTravellers_43 : decode cX4_takeTravellers 43 = .ok (.new 37, 3) := by decide +kernel
theorem dX4_takeTravellers_46 : decode cX4_takeTravellers 46 = .ok (.dup, 1) := by decide +kernel
theorem dX4_takeTravellers_47 : decode cX4_takeTravellers 47 = .ok (.invokespecial 115, 3) := by decide +kernel
theorem dX4_takeTravellers_50 : decode cX4_takeTravellers 50 = .ok (.astore 5, 2) := by decide +kernel
theorem dX4_takeTravellers_52 : decode cX4_takeTravellers 52 = .ok (.aload_n 0, 1) := by decide +kernel
theorem dX4_takeTravellers_53 : decode cX4_takeTravellers 53 = .ok (.getfield 39, 3) := by decide +kernel
theorem dX4_takeTravellers_56 : decode cX4_takeTravellers 56 = .ok (.iload_n 3, 1) := by decide +kernel
theorem dX4_takeTravellers_57 : decode cX4_takeTravellers 57 = .ok (.aload 5, 2) := by decide +kernel
theorem dX4_takeTravellers_59 : decode cX4_takeTravellers 59 = .ok (.aastore, 1) := by decide +kernel
theorem dX4_takeTravellers_60 : decode cX4_takeTravellers 60 = .ok (.aload 4, 2) := by decide +kernel
theorem dX4_takeTravellers_62 : decode cX4_takeTravellers 62 = .ok (.ifnull 10, 3) := by decide +kernel
theorem dX4_takeTravellers_65 : decode cX4_takeTravellers 65 = .ok (.aload 5, 2) := by decide +kernel
theorem dX4_takeTravellers_67 : decode cX4_takeTravellers 67 = .ok (.aload 4, 2) := by decide +kernel
theorem dX4_takeTravellers_69 : decode cX4_takeTravellers 69 = .ok (.invokevirtual 116, 3) := by decide +kernel
theorem dX4_takeTravellers_72 : decode cX4_takeTravellers 72 = .ok (.iinc 3 1, 3) := by decide +kernel
theorem dX4_takeTravellers_75 : decode cX4_takeTravellers 75 = .ok (.goto (-65), 3) := by decide +kernel
theorem dX4_takeTravellers_78 : decode cX4_takeTravellers 78 = .ok (.return_, 1) := by decide +kernel
theorem dX5_init_0 : decode cX5_init 0 = .ok (.aload_n 0, 1) := by decide +kernel
theorem dX5_init_1 : decode cX5_init 1 = .ok (.invokespecial 3, 3) := by decide +kernel
theorem dX5_init_4 : decode cX5_init 4 = .ok (.aload_n 0, 1) := by decide +kernel
theorem dX5_init_5 : decode cX5_init 5 = .ok (.new 9, 3) := by decide +kernel
theorem dX5_init_8 : decode cX5_init 8 = .ok (.dup, 1) := by decide +kernel
theorem dX5_init_9 : decode cX5_init 9 = .ok (.invokespecial 11, 3) := by decide +kernel
theorem dX5_init_12 : decode cX5_init 12 = .ok (.putfield 12, 3) := by decide +kernel
theorem dX5_init_15 : decode cX5_init 15 = .ok (.aload_n 0, 1) := by decide +kernel
theorem dX5_init_16 : decode cX5_init 16 = .ok (.new 9, 3) := by decide +kernel
theorem dX5_init_19 : decode cX5_init 19 = .ok (.dup, 1) := by decide +kernel
theorem dX5_init_20 : decode cX5_init 20 = .ok (.invokespecial 11, 3) := by decide +kernel
theorem dX5_init_23 : decode cX5_init 23 = .ok (.putfield 16, 3) := by decide +kernel
theorem dX5_init_26 : decode cX5_init 26 = .ok (.aload_n 0, 1) := by decide +kernel
theorem dX5_init_27 : decode cX5_init 27 = .ok (.iconst 0, 1) := by decide +kernel
theorem dX5_init_28 : decode cX5_init 28 = .ok (.putfield 19, 3) := by decide +kernel
theorem dX5_init_31 : decode cX5_init 31 = .ok (.aload_n 0, 1) := by decide +kernel
theorem dX5_init_32 : decode cX5_init 32 = .ok (.bipush 8, 2) := by decide +kernel
theorem dX5_init_34 : decode cX5_init 34 = .ok (.anewarray 23, 3) := by decide +kernel
theorem dX5_init_37 : decode cX5_init 37 = .ok (.putfield 25, 3) := by decide +kernel
theorem dX5_init_40 : decode cX5_init 40 = .ok (.aload_n 0, 1) := by decide +kernel
theorem dX5_init_41 : decode cX5_init 41 = .ok (.new 29, 3) := by decide +kernel
theorem dX5_init_44 : decode cX5_init 44 = .ok (.dup, 1) := by decide +kernel
theorem dX5_init_45 : decode cX5_init 45 = .ok (.invokespecial 31, 3) := by decide +kernel
theorem dX5_init_48 : decode cX5_init 48 = .ok (.putfield 32, 3) := by decide +kernel
theorem dX5_init_51 : decode cX5_init 51 = .ok (.aload_n 0, 1) := by decide +kernel
theorem dX5_init_52 : decode cX5_init 52 = .ok (.new 36, 3) := by decide +kernel
theorem dX5_init_55 : decode cX5_init 55 = .ok (.dup, 1) := by decide +kernel
theorem dX5_init_56 : decode cX5_init 56 = .ok (.invokespecial 38, 3) := by decide +kernel
theorem dX5_init_59 : decode cX5_init 59 = .ok (.putfield 39, 3) := by decide +kernel
theorem dX5_init_62 : decode cX5_init 62 = .ok (.iconst 0, 1) := by decide +kernel
theorem dX5_init_63 : decode cX5_init 63 = .ok (.istore_n 1, 1) := by decide +kernel
theorem dX5_init_64 : decode cX5_init 64 = .ok (.iload_n 1, 1) := by decide +kernel
theorem dX5_init_65 : decode cX5_init 65 = .ok (.bipush 8, 2) := by decide +kernel
theorem dX5_init_67 : decode cX5_init 67 = .ok (.if_icmp .ge 22, 3) := by decide +kernel
theorem dX5_init_70 : decode cX5_init 70 = .ok (.aload_n 0, 1) := by decide +kernel
theorem dX5_init_71 : decode cX5_init 71 = .ok (.getfield 25, 3) := by decide +kernel
theorem dX5_init_74 : decode cX5_init 74 = .ok (.iload_n 1, 1) := by decide +kernel
theorem dX5_init_75 : decode cX5_init 75 = .ok (.new 23, 3) := by decide +kernel
theorem dX5_init_78 : decode cX5_init 78 = .ok (.dup, 1) := by decide +kernel
theorem dX5_init_79 : decode cX5_init 79 = .ok (.invokespecial 43, 3) := by decide +kernel
theorem dX5_init_82 : decode cX5_init 82 = .ok (.aastore, 1) := by decide +kernel
theorem dX5_init_83 : decode cX5_init 83 = .ok (.iinc 1 1, 3) := by decide +kernel
theorem dX5_init_86 : decode cX5_init 86 = .ok (.goto (-22), 3) := by decide +kernel
theorem dX5_init_89 : decode cX5_init 89 = .ok (.return_, 1) := by decide +kernel
theorem dX5_world_0 : decode cX5_world 0 = .ok (.aload_n 0, 1) := by decide +kernel
theorem dX5_world_1 : decode cX5_world 1 = .ok (.iload_n 1, 1) := by decide +kernel
theorem dX5_world_2 : decode cX5_world 2 = .ok (.invokevirtual 44, 3) := by decide +kernel
theorem dX5_world_5 : decode cX5_world 5 = .ok (.astore_n 2, 1) := by decide +kernel
theorem dX5_world_6 : decode cX5_world 6 = .ok (.aload_n 2, 1) := by decide +kernel
theorem dX5_world_7 : decode cX5_world 7 = .ok (.ifnonnull 5, 3) := by decide +kernel
theorem dX5_world_10 : decode cX5_world 10 = .ok (.iconst (-1), 1) := by decide +kernel
theorem dX5_world_11 : decode cX5_world 11 = .ok (.ireturn, 1) := by decide +kernel
theorem dX5_world_12 : decode cX5_world 12 = .ok (.aload_n 2, 1) := by decide +kernel
theorem dX5_world_13 : decode cX5_world 13 = .ok (.iconst 0, 1) := by decide +kernel
theorem dX5_world_14 : decode cX5_world 14 = .ok (.invokestatic 48, 3) := by decide +kernel
theorem dX5_world_17 : decode cX5_world 17 = .ok (.istore_n 3, 1) := by decide +kernel
theorem dX5_world_18 : decode cX5_world 18 = .ok (.iload_n 3, 1) := by decide +kernel
theorem dX5_world_19 : decode cX5_world 19 = .ok (.ifCond .eq 5, 3) := by decide +kernel
theorem dX5_world_22 : decode cX5_world 22 = .ok (.iload_n 3, 1) := by decide +kernel
theorem dX5_world_23 : decode cX5_world 23 = .ok (.ireturn, 1) := by decide +kernel
theorem dX5_world_24 : decode cX5_world 24 = .ok (.aload_n 0, 1) := by decide +kernel
theorem dX5_world_25 : decode cX5_world 25 = .ok (.getfield 39, 3) := by decide +kernel
theorem dX5_world_28 : decode cX5_world 28 = .ok (.aload_n 2, 1) := by decide +kernel
theorem dX5_world_29 : decode cX5_world 29 = .ok (.invokevirtual 52, 3) := by decide +kernel
theorem dX5_world_32 : decode cX5_world 32 = .ok (.aload_n 0, 1) := by decide +kernel
theorem dX5_world_33 : decode cX5_world 33 = .ok (.invokevirtual 56, 3) := by decide +kernel
theorem dX5_world_36 : decode cX5_world 36 = .ok (.istore 4, 2) := by decide +kernel
theorem dX5_world_38 : decode cX5_world 38 = .ok (.iload 4, 2) := by decide +kernel
theorem dX5_world_40 : decode cX5_world 40 = .ok (.ifCond .ge 6, 3) := by decide +kernel
theorem dX5_world_43 : decode cX5_world 43 = .ok (.iload 4, 2) := by decide +kernel
theorem dX5_world_45 : decode cX5_world 45 = .ok (.ireturn, 1) := by decide +kernel
theorem dX5_world_46 : decode cX5_world 46 = .ok (.aload_n 0, 1) := by decide +kernel
theorem dX5_world_47 : decode cX5_world 47 = .ok (.iload 4, 2) := by decide +kernel
theorem dX5_world_49 : decode cX5_world 49 = .ok (.invokevirtual 60, 3) := by decide +kernel
theorem dX5_world_52 : decode cX5_world 52 = .ok (.istore 5, 2) := by decide +kernel
theorem dX5_world_54 : decode cX5_world 54 = .ok (.iload 5, 2) := by decide +kernel
theorem dX5_world_56 : decode cX5_world 56 = .ok (.ifCond .ge 6, 3) := by decide +kernel
theorem dX5_world_59 : decode cX5_world 59 = .ok (.iload 5, 2) := by decide +kernel
theorem dX5_world_61 : decode cX5_world 61 = .ok (.ireturn, 1) := by decide +kernel
theorem dX5_world_62 : decode cX5_world 62 = .ok (.aload_n 0, 1) := by decide +kernel
theorem dX5_world_63 : decode cX5_world 63 = .ok (.iload 4, 2) := by decide +kernel
theorem dX5_world_65 : decode cX5_world 65 = .ok (.invokevirtual 64, 3) := by decide +kernel
theorem dX5_world_68 : decode cX5_world 68 = .ok (.iload 4, 2) := by decide +kernel
theorem dX5_world_70 : decode cX5_world 70 = .ok (.ireturn, 1) := by decide +kernel
theorem dX5_place_0 : decode cX5_place 0 = .ok (.aload_n 0, 1) := by decide +kernel
theorem dX5_place_1 : decode cX5_place 1 = .ok (.getfield 12, 3) := by decide +kernel
theorem dX5_place_4 : decode cX5_place 4 = .ok (.iload_n 1, 1) := by decide +kernel
theorem dX5_place_5 : decode cX5_place 5 = .ok (.invokevirtual 68, 3) := by decide +kernel
theorem dX5_place_8 : decode cX5_place 8 = .ok (.ifCond .ne 6, 3) := by decide +kernel
theorem dX5_place_11 : decode cX5_place 11 = .ok (.ldc 72, 2) := by decide +kernel
theorem dX5_place_13 : decode cX5_place 13 = .ok (.ireturn, 1) := by decide +kernel
theorem dX5_place_14 : decode cX5_place 14 = .ok (.iload_n 2, 1) := by decide +kernel
theorem dX5_place_15 : decode cX5_place 15 = .ok (.tableswitch 69 0 3 #[29, 39, 49, 59], 29) := by decide +kernel
theorem dX5_place_44 : decode cX5_place 44 = .ok (.aload_n 0, 1) := by decide +kernel
theorem dX5_place_45 : decode cX5_place 45 = .ok (.getfield 12, 3) := by decide +kernel
theorem dX5_place_48 : decode cX5_place 48 = .ok (.getfield 73, 3) := by decide +kernel
theorem dX5_place_51 : decode cX5_place 51 = .ok (.iload_n 1, 1) := by decide +kernel
theorem dX5_place_52 : decode cX5_place 52 = .ok (.iaload, 1) := by decide +kernel
theorem dX5_place_53 : decode cX5_place 53 = .ok (.ireturn, 1) := by decide +kernel
theorem dX5_place_54 : decode cX5_place 54 = .ok (.aload_n 0, 1) := by decide +kernel
theorem dX5_place_55 : decode cX5_place 55 = .ok (.getfield 12, 3) := by decide +kernel
theorem dX5_place_58 : decode cX5_place 58 = .ok (.getfield 77, 3) := by decide +kernel
theorem dX5_place_61 : decode cX5_place 61 = .ok (.iload_n 1, 1) := by decide +kernel
theorem dX5_place_62 : decode cX5_place 62 = .ok (.iaload, 1) := by decide +kernel
theorem dX5_place_63 : decode cX5_place 63 = .ok (.ireturn, 1) := by decide +kernel
theorem dX5_place_64 : decode cX5_place 64 = .ok (.aload_n 0, 1) := by decide +kernel
theorem dX5_place_65 : decode cX5_place 65 = .ok (.getfield 12, 3) := by decide +kernel
theorem dX5_place_68 : decode cX5_place 68 = .ok (.getfield 80, 3) := by decide +kernel
theorem dX5_place_71 : decode cX5_place 71 = .ok (.iload_n 1, 1) := by decide +kernel
theorem dX5_place_72 : decode cX5_place 72 = .ok (.iaload, 1) := by decide +kernel
theorem dX5_place_73 : decode cX5_place 73 = .ok (.ireturn, 1) := by decide +kernel
theorem dX5_place_74 : decode cX5_place 74 = .ok (.aload_n 0, 1) := by decide +kernel
theorem dX5_place_75 : decode cX5_place 75 = .ok (.getfield 12, 3) := by decide +kernel
theorem dX5_place_78 : decode cX5_place 78 = .ok (.getfield 83, 3) := by decide +kernel
theorem dX5_place_81 : decode cX5_place 81 = .ok (.iload_n 1, 1) := by decide +kernel
theorem dX5_place_82 : decode cX5_place 82 = .ok (.iaload, 1) := by decide +kernel
theorem dX5_place_83 : decode cX5_place 83 = .ok (.ireturn, 1) := by decide +kernel
theorem dX5_place_84 : decode cX5_place 84 = .ok (.ldc 72, 2) := by decide +kernel
theorem dX5_place_86 : decode cX5_place 86 = .ok (.ireturn, 1) := by decide +kernel
theorem dX5_trade_0 : decode cX5_trade 0 = .ok (.aload_n 0, 1) := by decide +kernel
theorem dX5_trade_1 : decode cX5_trade 1 = .ok (.getfield 12, 3) := by decide +kernel
theorem dX5_trade_4 : decode cX5_trade 4 = .ok (.iload_n 1, 1) := by decide +kernel
theorem dX5_trade_5 : decode cX5_trade 5 = .ok (.invokevirtual 68, 3) := by decide +kernel
theorem dX5_trade_8 : decode cX5_trade 8 = .ok (.ifCond .eq 19, 3) := by decide +kernel
theorem dX5_trade_11 : decode cX5_trade 11 = .ok (.aload_n 0, 1) := by decide +kernel
theorem dX5_trade_12 : decode cX5_trade 12 = .ok (.getfield 12, 3) := by decide +kernel
theorem dX5_trade_15 : decode cX5_trade 15 = .ok (.iload_n 2, 1) := by decide +kernel
theorem dX5_trade_16 : decode cX5_trade 16 = .ok (.invokevirtual 68, 3) := by decide +kernel
theorem dX5_trade_19 : decode cX5_trade 19 = .ok (.ifCond .eq 8, 3) := by decide +kernel
theorem dX5_trade_22 : decode cX5_trade 22 = .ok (.iload_n 1, 1) := by decide +kernel
theorem dX5_trade_23 : decode cX5_trade 23 = .ok (.iload_n 2, 1) := by decide +kernel
theorem dX5_trade_24 : decode cX5_trade 24 = .ok (.if_icmp .ne 5, 3) := by decide +kernel
theorem dX5_trade_27 : decode cX5_trade 27 = .ok (.iconst (-1), 1) := by decide +kernel
theorem dX5_trade_28 : decode cX5_trade 28 = .ok (.ireturn, 1) := by decide +kernel
theorem dX5_trade_29 : decode cX5_trade 29 = .ok (.aload_n 0, 1) := by decide +kernel
theorem dX5_trade_30 : decode cX5_trade 30 = .ok (.getfield 12, 3) := by decide +kernel
theorem dX5_trade_33 : decode cX5_trade 33 = .ok (.getfield 86, 3) := by decide +kernel
theorem dX5_trade_36 : decode cX5_trade 36 = .ok (.iload_n 1, 1) := by decide +kernel
theorem dX5_trade_37 : decode cX5_trade 37 = .ok (.bipush 10, 2) := by decide +kernel
theorem dX5_trade_39 : decode cX5_trade 39 = .ok (.imul, 1) := by decide +kernel
theorem dX5_trade_40 : decode cX5_trade 40 = .ok (.iload_n 2, 1) := by decide +kernel
theorem dX5_trade_41 : decode cX5_trade 41 = .ok (.iadd, 1) := by decide +kernel
theorem dX5_trade_42 : decode cX5_trade 42 = .ok (.iaload, 1) := by decide +kernel
theorem dX5_trade_43 : decode cX5_trade 43 = .ok (.ireturn, 1) := by decide +kernel
theorem dX5_choose_0 : decode cX5_choose 0 = .ok (.aload_n 0, 1) := by decide +kernel
theorem dX5_choose_1 : decode cX5_choose 1 = .ok (.getfield 12, 3) := by decide +kernel
theorem dX5_choose_4 : decode cX5_choose 4 = .ok (.iload_n 1, 1) := by decide +kernel
theorem dX5_choose_5 : decode cX5_choose 5 = .ok (.invokevirtual 68, 3) := by decide +kernel
theorem dX5_choose_8 : decode cX5_choose 8 = .ok (.ifCond .eq 13, 3) := by decide +kernel
theorem dX5_choose_11 : decode cX5_choose 11 = .ok (.iload_n 2, 1) := by decide +kernel
theorem dX5_choose_12 : decode cX5_choose 12 = .ok (.iconst (-1), 1) := by decide +kernel
theorem dX5_choose_13 : decode cX5_choose 13 = .ok (.if_icmp .lt 8, 3) := by decide +kernel
theorem dX5_choose_16 : decode cX5_choose 16 = .ok (.iload_n 2, 1) := by decide +kernel
theorem dX5_choose_17 : decode cX5_choose 17 = .ok (.iconst 1, 1) := by decide +kernel
theorem dX5_choose_18 : decode cX5_choose 18 = .ok (.if_icmp .le 6, 3) := by decide +kernel
theorem dX5_choose_21 : decode cX5_choose 21 = .ok (.ldc 72, 2) := by decide +kernel
theorem dX5_choose_23 : decode cX5_choose 23 = .ok (.ireturn, 1) := by decide +kernel
theorem dX5_choose_24 : decode cX5_choose 24 = .ok (.aload_n 0, 1) := by decide +kernel
theorem dX5_choose_25 : decode cX5_choose 25 = .ok (.getfield 12, 3) := by decide +kernel
theorem dX5_choose_28 : decode cX5_choose 28 = .ok (.getfield 80, 3) := by decide +kernel
theorem dX5_choose_31 : decode cX5_choose 31 = .ok (.iload_n 1, 1) := by decide +kernel
theorem dX5_choose_32 : decode cX5_choose 32 = .ok (.iaload, 1) := by decide +kernel
theorem dX5_choose_33 : decode cX5_choose 33 = .ok (.istore_n 3, 1) := by decide +kernel
theorem dX5_choose_34 : decode cX5_choose 34 = .ok (.aload_n 0, 1) := by decide +kernel
theorem dX5_choose_35 : decode cX5_choose 35 = .ok (.getfield 12, 3) := by decide +kernel
theorem dX5_choose_38 : decode cX5_choose 38 = .ok (.getfield 80, 3) := by decide +kernel
theorem dX5_choose_41 : decode cX5_choose 41 = .ok (.iload_n 1, 1) := by decide +kernel
theorem dX5_choose_42 : decode cX5_choose 42 = .ok (.iload_n 2, 1) := by decide +kernel
theorem dX5_choose_43 : decode cX5_choose 43 = .ok (.iastore, 1) := by decide +kernel
theorem dX5_choose_44 : decode cX5_choose 44 = .ok (.iload_n 3, 1) := by decide +kernel
theorem dX5_choose_45 : decode cX5_choose 45 = .ok (.ireturn, 1) := by decide +kernel
theorem dX5_line_0 : decode cX5_line 0 = .ok (.iload_n 1, 1) := by decide +kernel
theorem dX5_line_1 : decode cX5_line 1 = .ok (.invokestatic 89, 3) := by decide +kernel
theorem dX5_line_4 : decode cX5_line 4 = .ok (.ifCond .ne 5, 3) := by decide +kernel
theorem dX5_line_7 : decode cX5_line 7 = .ok (.iconst (-1), 1) := by decide +kernel
theorem dX5_line_8 : decode cX5_line 8 = .ok (.ireturn, 1) := by decide +kernel
theorem dX5_line_9 : decode cX5_line 9 = .ok (.aload_n 0, 1) := by decide +kernel
theorem dX5_line_10 : decode cX5_line 10 = .ok (.getfield 12, 3) := by decide +kernel
theorem dX5_line_13 : decode cX5_line 13 = .ok (.getfield 92, 3) := by decide +kernel
theorem dX5_line_16 : decode cX5_line 16 = .ok (.istore_n 2, 1) := by decide +kernel
theorem dX5_line_17 : decode cX5_line 17 = .ok (.aload_n 0, 1) := by decide +kernel
theorem dX5_line_18 : decode cX5_line 18 = .ok (.getfield 12, 3) := by decide +kernel
theorem dX5_line_21 : decode cX5_line 21 = .ok (.iload_n 1, 1) := by decide +kernel
theorem dX5_line_22 : decode cX5_line 22 = .ok (.putfield 92, 3) := by decide +kernel
theorem dX5_line_25 : decode cX5_line 25 = .ok (.iload_n 2, 1) := by decide +kernel
theorem dX5_line_26 : decode cX5_line 26 = .ok (.ireturn, 1) := by decide +kernel
theorem dX5_dayOf_0 : decode cX5_dayOf 0 = .ok (.aload_n 0, 1) := by decide +kernel
theorem dX5_dayOf_1 : decode cX5_dayOf 1 = .ok (.getfield 12, 3) := by decide +kernel
theorem dX5_dayOf_4 : decode cX5_dayOf 4 = .ok (.iload_n 1, 1) := by decide +kernel
theorem dX5_dayOf_5 : decode cX5_dayOf 5 = .ok (.invokevirtual 68, 3) := by decide +kernel
theorem dX5_dayOf_8 : decode cX5_dayOf 8 = .ok (.ifCond .eq 10, 3) := by decide +kernel
theorem dX5_dayOf_11 : decode cX5_dayOf 11 = .ok (.iload_n 2, 1) := by decide +kernel
theorem dX5_dayOf_12 : decode cX5_dayOf 12 = .ok (.invokestatic 96, 3) := by decide +kernel
theorem dX5_dayOf_15 : decode cX5_dayOf 15 = .ok (.ifCond .ne 6, 3) := by decide +kernel
theorem dX5_dayOf_18 : decode cX5_dayOf 18 = .ok (.ldc 72, 2) := by decide +kernel
theorem dX5_dayOf_20 : decode cX5_dayOf 20 = .ok (.ireturn, 1) := by decide +kernel
theorem dX5_dayOf_21 : decode cX5_dayOf 21 = .ok (.aload_n 0, 1) := by decide +kernel
theorem dX5_dayOf_22 : decode cX5_dayOf 22 = .ok (.getfield 12, 3) := by decide +kernel
theorem dX5_dayOf_25 : decode cX5_dayOf 25 = .ok (.iload_n 1, 1) := by decide +kernel
theorem dX5_dayOf_26 : decode cX5_dayOf 26 = .ok (.iload_n 2, 1) := by decide +kernel
theorem dX5_dayOf_27 : decode cX5_dayOf 27 = .ok (.aload_n 0, 1) := by decide +kernel
theorem dX5_dayOf_28 : decode cX5_dayOf 28 = .ok (.getfield 12, 3) := by decide +kernel
theorem dX5_dayOf_31 : decode cX5_dayOf 31 = .ok (.getfield 92, 3) := by decide +kernel
theorem dX5_dayOf_34 : decode cX5_dayOf 34 = .ok (.invokevirtual 99, 3) := by decide +kernel
theorem dX5_dayOf_37 : decode cX5_dayOf 37 = .ok (.ireturn, 1) := by decide +kernel
theorem dX5_hourOf_0 : decode cX5_hourOf 0 = .ok (.aload_n 0, 1) := by decide +kernel
theorem dX5_hourOf_1 : decode cX5_hourOf 1 = .ok (.getfield 12, 3) := by decide +kernel
theorem dX5_hourOf_4 : decode cX5_hourOf 4 = .ok (.iload_n 1, 1) := by decide +kernel
theorem dX5_hourOf_5 : decode cX5_hourOf 5 = .ok (.invokevirtual 68, 3) := by decide +kernel
theorem dX5_hourOf_8 : decode cX5_hourOf 8 = .ok (.ifCond .eq 10, 3) := by decide +kernel
theorem dX5_hourOf_11 : decode cX5_hourOf 11 = .ok (.iload_n 2, 1) := by decide +kernel
theorem dX5_hourOf_12 : decode cX5_hourOf 12 = .ok (.invokestatic 96, 3) := by decide +kernel
theorem dX5_hourOf_15 : decode cX5_hourOf 15 = .ok (.ifCond .ne 5, 3) := by decide +kernel
theorem dX5_hourOf_18 : decode cX5_hourOf 18 = .ok (.iconst (-1), 1) := by decide +kernel
theorem dX5_hourOf_19 : decode cX5_hourOf 19 = .ok (.ireturn, 1) := by decide +kernel
theorem dX5_hourOf_20 : decode cX5_hourOf 20 = .ok (.aload_n 0, 1) := by decide +kernel
theorem dX5_hourOf_21 : decode cX5_hourOf 21 = .ok (.getfield 12, 3) := by decide +kernel
theorem dX5_hourOf_24 : decode cX5_hourOf 24 = .ok (.getfield 73, 3) := by decide +kernel
theorem dX5_hourOf_27 : decode cX5_hourOf 27 = .ok (.iload_n 1, 1) := by decide +kernel
theorem dX5_hourOf_28 : decode cX5_hourOf 28 = .ok (.iaload, 1) := by decide +kernel
theorem dX5_hourOf_29 : decode cX5_hourOf 29 = .ok (.iload_n 2, 1) := by decide +kernel
theorem dX5_hourOf_30 : decode cX5_hourOf 30 = .ok (.aload_n 0, 1) := by decide +kernel
theorem dX5_hourOf_31 : decode cX5_hourOf 31 = .ok (.getfield 12, 3) := by decide +kernel
theorem dX5_hourOf_34 : decode cX5_hourOf 34 = .ok (.getfield 92, 3) := by decide +kernel
theorem dX5_hourOf_37 : decode cX5_hourOf 37 = .ok (.invokestatic 103, 3) := by decide +kernel
theorem dX5_hourOf_40 : decode cX5_hourOf 40 = .ok (.sipush 1440, 3) := by decide +kernel
theorem dX5_hourOf_43 : decode cX5_hourOf 43 = .ok (.invokestatic 106, 3) := by decide +kernel
theorem dX5_hourOf_46 : decode cX5_hourOf 46 = .ok (.ireturn, 1) := by decide +kernel
theorem dX5_traveller_0 : decode cX5_traveller 0 = .ok (.iload_n 1, 1) := by decide +kernel
theorem dX5_traveller_1 : decode cX5_traveller 1 = .ok (.invokestatic 112, 3) := by decide +kernel
theorem dX5_traveller_4 : decode cX5_traveller 4 = .ok (.ifCond .eq 24, 3) := by decide +kernel
theorem dX5_traveller_7 : decode cX5_traveller 7 = .ok (.aload_n 0, 1) := by decide +kernel
theorem dX5_traveller_8 : decode cX5_traveller 8 = .ok (.getfield 12, 3) := by decide +kernel
theorem dX5_traveller_11 : decode cX5_traveller 11 = .ok (.iload_n 2, 1) := by decide +kernel
theorem dX5_traveller_12 : decode cX5_traveller 12 = .ok (.invokevirtual 68, 3) := by decide +kernel
theorem dX5_traveller_15 : decode cX5_traveller 15 = .ok (.ifCond .eq 13, 3) := by decide +kernel
theorem dX5_traveller_18 : decode cX5_traveller 18 = .ok (.iload_n 3, 1) := by decide +kernel
theorem dX5_traveller_19 : decode cX5_traveller 19 = .ok (.ifCond .lt 9, 3) := by decide +kernel
theorem dX5_traveller_22 : decode cX5_traveller 22 = .ok (.iload_n 3, 1) := by decide +kernel
theorem dX5_traveller_23 : decode cX5_traveller 23 = .ok (.bipush 30, 2) := by decide +kernel
theorem dX5_traveller_25 : decode cX5_traveller 25 = .ok (.if_icmp .le 5, 3) := by decide +kernel
theorem dX5_traveller_28 : decode cX5_traveller 28 = .ok (.iconst (-1), 1) := by decide +kernel
theorem dX5_traveller_29 : decode cX5_traveller 29 = .ok (.ireturn, 1) := by decide +kernel
theorem dX5_traveller_30 : decode cX5_traveller 30 = .ok (.aload_n 0, 1) := by decide +kernel
theorem dX5_traveller_31 : decode cX5_traveller 31 = .ok (.getfield 12, 3) := by decide +kernel
theorem dX5_traveller_34 : decode cX5_traveller 34 = .ok (.getfield 115, 3) := by decide +kernel
theorem dX5_traveller_37 : decode cX5_traveller 37 = .ok (.bipush 8, 2) := by decide +kernel
theorem dX5_traveller_39 : decode cX5_traveller 39 = .ok (.if_icmp .lt 6, 3) := by decide +kernel
theorem dX5_traveller_42 : decode cX5_traveller 42 = .ok (.bipush (-2), 2) := by decide +kernel
theorem dX5_traveller_44 : decode cX5_traveller 44 = .ok (.ireturn, 1) := by decide +kernel
theorem dX5_traveller_45 : decode cX5_traveller 45 = .ok (.new 118, 3) := by decide +kernel
theorem dX5_traveller_48 : decode cX5_traveller 48 = .ok (.dup, 1) := by decide +kernel
theorem dX5_traveller_49 : decode cX5_traveller 49 = .ok (.invokespecial 120, 3) := by decide +kernel
theorem dX5_traveller_52 : decode cX5_traveller 52 = .ok (.astore 4, 2) := by decide +kernel
theorem dX5_traveller_54 : decode cX5_traveller 54 = .ok (.aload 4, 2) := by decide +kernel
theorem dX5_traveller_56 : decode cX5_traveller 56 = .ok (.aload_n 0, 1) := by decide +kernel
theorem dX5_traveller_57 : decode cX5_traveller 57 = .ok (.getfield 12, 3) := by decide +kernel
theorem dX5_traveller_60 : decode cX5_traveller 60 = .ok (.getfield 115, 3) := by decide +kernel
theorem dX5_traveller_63 : decode cX5_traveller 63 = .ok (.putfield 121, 3) := by decide +kernel
theorem dX5_traveller_66 : decode cX5_traveller 66 = .ok (.aload 4, 2) := by decide +kernel
theorem dX5_traveller_68 : decode cX5_traveller 68 = .ok (.iload_n 1, 1) := by decide +kernel
theorem dX5_traveller_69 : decode cX5_traveller 69 = .ok (.putfield 124, 3) := by decide +kernel
theorem dX5_traveller_72 : decode cX5_traveller 72 = .ok (.aload 4, 2) := by decide +kernel
theorem dX5_traveller_74 : decode cX5_traveller 74 = .ok (.iload_n 2, 1) := by decide +kernel
theorem dX5_traveller_75 : decode cX5_traveller 75 = .ok (.putfield 127, 3) := by decide +kernel
theorem dX5_traveller_78 : decode cX5_traveller 78 = .ok (.aload 4, 2) := by decide +kernel
theorem dX5_traveller_80 : decode cX5_traveller 80 = .ok (.iload_n 3, 1) := by decide +kernel
theorem dX5_traveller_81 : decode cX5_traveller 81 = .ok (.putfield 130, 3) := by decide +kernel
theorem dX5_traveller_84 : decode cX5_traveller 84 = .ok (.aload_n 0, 1) := by decide +kernel
theorem dX5_traveller_85 : decode cX5_traveller 85 = .ok (.getfield 12, 3) := by decide +kernel
theorem dX5_traveller_88 : decode cX5_traveller 88 = .ok (.getfield 133, 3) := by decide +kernel
theorem dX5_traveller_91 : decode cX5_traveller 91 = .ok (.aload_n 0, 1) := by decide +kernel
theorem dX5_traveller_92 : decode cX5_traveller 92 = .ok (.getfield 12, 3) := by decide +kernel
theorem dX5_traveller_95 : decode cX5_traveller 95 = .ok (.getfield 115, 3) := by decide +kernel
theorem dX5_traveller_98 : decode cX5_traveller 98 = .ok (.aload 4, 2) := by decide +kernel
theorem dX5_traveller_100 : decode cX5_traveller 100 = .ok (.aastore, 1) := by decide +kernel
theorem dX5_traveller_101 : decode cX5_traveller 101 = .ok (.aload_n 0, 1) := by decide +kernel
theorem dX5_traveller_102 : decode cX5_traveller 102 = .ok (.getfield 12, 3) := by decide +kernel
theorem dX5_traveller_105 : decode cX5_traveller 105 = .ok (.dup, 1) := by decide +kernel
theorem dX5_traveller_106 : decode cX5_traveller 106 = .ok (.getfield 115, 3) := by decide +kernel
theorem dX5_traveller_109 : decode cX5_traveller 109 = .ok (.iconst 1, 1) := by decide +kernel
theorem dX5_traveller_110 : decode cX5_traveller 110 = .ok (.iadd, 1) := by decide +kernel
theorem dX5_traveller_111 : decode cX5_traveller 111 = .ok (.putfield 115, 3) := by decide +kernel
theorem dX5_traveller_114 : decode cX5_traveller 114 = .ok (.aload 4, 2) := by decide +kernel
theorem dX5_traveller_116 : decode cX5_traveller 116 = .ok (.getfield 121, 3) := by decide +kernel
theorem dX5_traveller_119 : decode cX5_traveller 119 = .ok (.ireturn, 1) := by decide +kernel
theorem dX5_leg_0 : decode cX5_leg 0 = .ok (.aload_n 0, 1) := by decide +kernel
theorem dX5_leg_1 : decode cX5_leg 1 = .ok (.getfield 12, 3) := by decide +kernel
theorem dX5_leg_4 : decode cX5_leg 4 = .ok (.iload_n 1, 1) := by decide +kernel
theorem dX5_leg_5 : decode cX5_leg 5 = .ok (.invokevirtual 137, 3) := by decide +kernel
theorem dX5_leg_8 : decode cX5_leg 8 = .ok (.astore 6, 2) := by decide +kernel
theorem dX5_leg_10 : decode cX5_leg 10 = .ok (.aload 6, 2) := by decide +kernel
theorem dX5_leg_12 : decode cX5_leg 12 = .ok (.ifnull 36, 3) := by decide +kernel
theorem dX5_leg_15 : decode cX5_leg 15 = .ok (.aload_n 0, 1) := by decide +kernel
theorem dX5_leg_16 : decode cX5_leg 16 = .ok (.getfield 12, 3) := by decide +kernel
theorem dX5_leg_19 : decode cX5_leg 19 = .ok (.iload_n 2, 1) := by decide +kernel
theorem dX5_leg_20 : decode cX5_leg 20 = .ok (.invokevirtual 68, 3) := by decide +kernel
theorem dX5_leg_23 : decode cX5_leg 23 = .ok (.ifCond .eq 25, 3) := by decide +kernel
theorem dX5_leg_26 : decode cX5_leg 26 = .ok (.iload 4, 2) := by decide +kernel
theorem dX5_leg_28 : decode cX5_leg 28 = .ok (.invokestatic 96, 3) := by decide +kernel
theorem dX5_leg_31 : decode cX5_leg 31 = .ok (.ifCond .eq 17, 3) := by decide +kernel
theorem dX5_leg_34 : decode cX5_leg 34 = .ok (.iload 5, 2) := by decide +kernel
theorem dX5_leg_36 : decode cX5_leg 36 = .ok (.iconst 1, 1) := by decide +kernel
theorem dX5_leg_37 : decode cX5_leg 37 = .ok (.if_icmp .lt 11, 3) := by decide +kernel
theorem dX5_leg_40 : decode cX5_leg 40 = .ok (.iload 5, 2) := by decide +kernel
theorem dX5_leg_42 : decode cX5_leg 42 = .ok (.sipush 200, 3) := by decide +kernel
theorem dX5_leg_45 : decode cX5_leg 45 = .ok (.if_icmp .le 5, 3) := by decide +kernel
theorem dX5_leg_48 : decode cX5_leg 48 = .ok (.iconst (-1), 1) := by decide +kernel
theorem dX5_leg_49 : decode cX5_leg 49 = .ok (.ireturn, 1) := by decide +kernel
theorem dX5_leg_50 : decode cX5_leg 50 = .ok (.aload 6, 2) := by decide +kernel
theorem dX5_leg_52 : decode cX5_leg 52 = .ok (.getfield 141, 3) := by decide +kernel
theorem dX5_leg_55 : decode cX5_leg 55 = .ok (.bipush 6, 2) := by decide +kernel
theorem dX5_leg_57 : decode cX5_leg 57 = .ok (.if_icmp .lt 6, 3) := by decide +kernel
theorem dX5_leg_60 : decode cX5_leg 60 = .ok (.bipush (-2), 2) := by decide +kernel
theorem dX5_leg_62 : decode cX5_leg 62 = .ok (.ireturn, 1) := by decide +kernel
theorem dX5_leg_63 : decode cX5_leg 63 = .ok (.iload 4, 2) := by decide +kernel
theorem dX5_leg_65 : decode cX5_leg 65 = .ok (.aload 6, 2) := by decide +kernel
theorem dX5_leg_67 : decode cX5_leg 67 = .ok (.invokevirtual 144, 3) := by decide +kernel
theorem dX5_leg_70 : decode cX5_leg 70 = .ok (.if_icmp .ge 6, 3) := by decide +kernel
theorem dX5_leg_73 : decode cX5_leg 73 = .ok (.bipush (-3), 2) := by decide +kernel
theorem dX5_leg_75 : decode cX5_leg 75 = .ok (.ireturn, 1) := by decide +kernel
theorem dX5_leg_76 : decode cX5_leg 76 = .ok (.aload 6, 2) := by decide +kernel
theorem dX5_leg_78 : decode cX5_leg 78 = .ok (.iload_n 2, 1) := by decide +kernel
theorem dX5_leg_79 : decode cX5_leg 79 = .ok (.iload_n 3, 1) := by decide +kernel
theorem dX5_leg_80 : decode cX5_leg 80 = .ok (.iload 4, 2) := by decide +kernel
theorem dX5_leg_82 : decode cX5_leg 82 = .ok (.iload 5, 2) := by decide +kernel
theorem dX5_leg_84 : decode cX5_leg 84 = .ok (.bipush 60, 2) := by decide +kernel
theorem dX5_leg_86 : decode cX5_leg 86 = .ok (.imul, 1) := by decide +kernel
theorem dX5_leg_87 : decode cX5_leg 87 = .ok (.invokevirtual 147, 3) := by decide +kernel
theorem dX5_leg_90 : decode cX5_leg 90 = .ok (.aload 6, 2) := by decide +kernel
theorem dX5_leg_92 : decode cX5_leg 92 = .ok (.getfield 141, 3) := by decide +kernel
theorem dX5_leg_95 : decode cX5_leg 95 = .ok (.ireturn, 1) := by decide +kernel
theorem dX5_captain_0 : decode cX5_captain 0 = .ok (.aload_n 0, 1) := by decide +kernel
theorem dX5_captain_1 : decode cX5_captain 1 = .ok (.getfield 12, 3) := by decide +kernel
theorem dX5_captain_4 : decode cX5_captain 4 = .ok (.iload_n 1, 1) := by decide +kernel
theorem dX5_captain_5 : decode cX5_captain 5 = .ok (.invokevirtual 137, 3) := by decide +kernel
theorem dX5_captain_8 : decode cX5_captain 8 = .ok (.astore 4, 2) := by decide +kernel
theorem dX5_captain_10 : decode cX5_captain 10 = .ok (.aload 4, 2) := by decide +kernel
theorem dX5_captain_12 : decode cX5_captain 12 = .ok (.ifnull 20, 3) := by decide +kernel
theorem dX5_captain_15 : decode cX5_captain 15 = .ok (.iload_n 2, 1) := by decide +kernel
theorem dX5_captain_16 : decode cX5_captain 16 = .ok (.invokestatic 96, 3) := by decide +kernel
theorem dX5_captain_19 : decode cX5_captain 19 = .ok (.ifCond .eq 13, 3) := by decide +kernel
theorem dX5_captain_22 : decode cX5_captain 22 = .ok (.iload_n 3, 1) := by decide +kernel
theorem dX5_captain_23 : decode cX5_captain 23 = .ok (.iconst 1, 1) := by decide +kernel
theorem dX5_captain_24 : decode cX5_captain 24 = .ok (.if_icmp .eq 10, 3) := by decide +kernel
theorem dX5_captain_27 : decode cX5_captain 27 = .ok (.iload_n 3, 1) := by decide +kernel
theorem dX5_captain_28 : decode cX5_captain 28 = .ok (.iconst (-1), 1) := by decide +kernel
theorem dX5_captain_29 : decode cX5_captain 29 = .ok (.if_icmp .eq 5, 3) := by decide +kernel
theorem dX5_captain_32 : decode cX5_captain 32 = .ok (.iconst (-1), 1) := by decide +kernel
theorem dX5_captain_33 : decode cX5_captain 33 = .ok (.ireturn, 1) := by decide +kernel
theorem dX5_captain_34 : decode cX5_captain 34 = .ok (.aload 4, 2) := by decide +kernel
theorem dX5_captain_36 : decode cX5_captain 36 = .ok (.getfield 151, 3) := by decide +kernel
theorem dX5_captain_39 : decode cX5_captain 39 = .ok (.bipush 8, 2) := by decide +kernel
theorem dX5_captain_41 : decode cX5_captain 41 = .ok (.if_icmp .lt 6, 3) := by decide +kernel
theorem dX5_captain_44 : decode cX5_captain 44 = .ok (.bipush (-2), 2) := by decide +kernel
theorem dX5_captain_46 : decode cX5_captain 46 = .ok (.ireturn, 1) := by decide +kernel
theorem dX5_captain_47 : decode cX5_captain 47 = .ok (.aload 4, 2) := by decide +kernel
theorem dX5_captain_49 : decode cX5_captain 49 = .ok (.getfield 124, 3) := by decide +kernel
theorem dX5_captain_52 : decode cX5_captain 52 = .ok (.iconst 4, 1) := by decide +kernel
theorem dX5_captain_53 : decode cX5_captain 53 = .ok (.if_icmp .eq 6, 3) := by decide +kernel
theorem dX5_captain_56 : decode cX5_captain 56 = .ok (.bipush (-3), 2) := by decide +kernel
theorem dX5_captain_58 : decode cX5_captain 58 = .ok (.ireturn, 1) := by decide +kernel
theorem dX5_captain_59 : decode cX5_captain 59 = .ok (.aload 4, 2) := by decide +kernel
theorem dX5_captain_61 : decode cX5_captain 61 = .ok (.getfield 154, 3) := by decide +kernel
theorem dX5_captain_64 : decode cX5_captain 64 = .ok (.aload 4, 2) := by decide +kernel
theorem dX5_captain_66 : decode cX5_captain 66 = .ok (.getfield 151, 3) := by decide +kernel
theorem dX5_captain_69 : decode cX5_captain 69 = .ok (.iload_n 2, 1) := by decide +kernel
theorem dX5_captain_70 : decode cX5_captain 70 = .ok (.iastore, 1) := by decide +kernel
theorem dX5_captain_71 : decode cX5_captain 71 = .ok (.aload 4, 2) := by decide +kernel
theorem dX5_captain_73 : decode cX5_captain 73 = .ok (.getfield 157, 3) := by decide +kernel
theorem dX5_captain_76 : decode cX5_captain 76 = .ok (.aload 4, 2) := by decide +kernel
theorem dX5_captain_78 : decode cX5_captain 78 = .ok (.getfield 151, 3) := by decide +kernel
theorem dX5_captain_81 : decode cX5_captain 81 = .ok (.iload_n 3, 1) := by decide +kernel
theorem dX5_captain_82 : decode cX5_captain 82 = .ok (.iastore, 1) := by decide +kernel
theorem dX5_captain_83 : decode cX5_captain 83 = .ok (.aload 4, 2) := by decide +kernel
theorem dX5_captain_85 : decode cX5_captain 85 = .ok (.dup, 1) := by decide +kernel
theorem dX5_captain_86 : decode cX5_captain 86 = .ok (.getfield 151, 3) := by decide +kernel
theorem dX5_captain_89 : decode cX5_captain 89 = .ok (.iconst 1, 1) := by decide +kernel
theorem dX5_captain_90 : decode cX5_captain 90 = .ok (.iadd, 1) := by decide +kernel
theorem dX5_captain_91 : decode cX5_captain 91 = .ok (.putfield 151, 3) := by decide +kernel
theorem dX5_captain_94 : decode cX5_captain 94 = .ok (.aload 4, 2) := by decide +kernel
theorem dX5_captain_96 : decode cX5_captain 96 = .ok (.getfield 151, 3) := by decide +kernel
theorem dX5_captain_99 : decode cX5_captain 99 = .ok (.ireturn, 1) := by decide +kernel
theorem dX5_where_0 : decode cX5_where 0 = .ok (.aload_n 0, 1) := by decide +kernel
theorem dX5_where_1 : decode cX5_where 1 = .ok (.getfield 12, 3) := by decide +kernel
theorem dX5_where_4 : decode cX5_where 4 = .ok (.iload_n 1, 1) := by decide +kernel
theorem dX5_where_5 : decode cX5_where 5 = .ok (.invokevirtual 137, 3) := by decide +kernel
theorem dX5_where_8 : decode cX5_where 8 = .ok (.astore 4, 2) := by decide +kernel
theorem dX5_where_10 : decode cX5_where 10 = .ok (.aload 4, 2) := by decide +kernel
theorem dX5_where_12 : decode cX5_where 12 = .ok (.ifnull 19, 3) := by decide +kernel
theorem dX5_where_15 : decode cX5_where 15 = .ok (.iload_n 2, 1) := by decide +kernel
theorem dX5_where_16 : decode cX5_where 16 = .ok (.invokestatic 96, 3) := by decide +kernel
theorem dX5_where_19 : decode cX5_where 19 = .ok (.ifCond .eq 12, 3) := by decide +kernel
theorem dX5_where_22 : decode cX5_where 22 = .ok (.iload_n 3, 1) := by decide +kernel
theorem dX5_where_23 : decode cX5_where 23 = .ok (.ifCond .lt 8, 3) := by decide +kernel
theorem dX5_where_26 : decode cX5_where 26 = .ok (.iload_n 3, 1) := by decide +kernel
theorem dX5_where_27 : decode cX5_where 27 = .ok (.iconst 1, 1) := by decide +kernel
theorem dX5_where_28 : decode cX5_where 28 = .ok (.if_icmp .le 7, 3) := by decide +kernel
theorem dX5_where_31 : decode cX5_where 31 = .ok (.ldc2_w 160, 3) := by decide +kernel
theorem dX5_where_34 : decode cX5_where 34 = .ok (.lreturn, 1) := by decide +kernel
theorem dX5_where_35 : decode cX5_where 35 = .ok (.aload_n 0, 1) := by decide +kernel
theorem dX5_where_36 : decode cX5_where 36 = .ok (.getfield 12, 3) := by decide +kernel
theorem dX5_where_39 : decode cX5_where 39 = .ok (.aload 4, 2) := by decide +kernel
theorem dX5_where_41 : decode cX5_where 41 = .ok (.aload 4, 2) := by decide +kernel
theorem dX5_where_43 : decode cX5_where 43 = .ok (.getfield 162, 3) := by decide +kernel
theorem dX5_where_46 : decode cX5_where 46 = .ok (.iload_n 2, 1) := by decide +kernel
theorem dX5_where_47 : decode cX5_where 47 = .ok (.aload_n 0, 1) := by decide +kernel
theorem dX5_where_48 : decode cX5_where 48 = .ok (.getfield 32, 3) := by decide +kernel
theorem dX5_where_51 : decode cX5_where 51 = .ok (.invokevirtual 165, 3) := by decide +kernel
theorem dX5_where_54 : decode cX5_where 54 = .ok (.aload_n 0, 1) := by decide +kernel
theorem dX5_where_55 : decode cX5_where 55 = .ok (.getfield 32, 3) := by decide +kernel
theorem dX5_where_58 : decode cX5_where 58 = .ok (.getfield 169, 3) := by decide +kernel
theorem dX5_where_61 : decode cX5_where 61 = .ok (.lstore 5, 2) := by decide +kernel
theorem dX5_where_63 : decode cX5_where 63 = .ok (.aload_n 0, 1) := by decide +kernel
theorem dX5_where_64 : decode cX5_where 64 = .ok (.getfield 12, 3) := by decide +kernel
theorem dX5_where_67 : decode cX5_where 67 = .ok (.aload 4, 2) := by decide +kernel
theorem dX5_where_69 : decode cX5_where 69 = .ok (.getfield 127, 3) := by decide +kernel
theorem dX5_where_72 : decode cX5_where 72 = .ok (.invokevirtual 173, 3) := by decide +kernel
theorem dX5_where_75 : decode cX5_where 75 = .ok (.i2l, 1) := by decide +kernel
theorem dX5_where_76 : decode cX5_where 76 = .ok (.lload 5, 2) := by decide +kernel
theorem dX5_where_78 : decode cX5_where 78 = .ok (.lmul, 1) := by decide +kernel
theorem dX5_where_79 : decode cX5_where 79 = .ok (.aload_n 0, 1) := by decide +kernel
theorem dX5_where_80 : decode cX5_where 80 = .ok (.getfield 32, 3) := by decide +kernel
theorem dX5_where_83 : decode cX5_where 83 = .ok (.getfield 176, 3) := by decide +kernel
theorem dX5_where_86 : decode cX5_where 86 = .ok (.ladd, 1) := by decide +kernel
theorem dX5_where_87 : decode cX5_where 87 = .ok (.ldc2_w 179, 3) := by decide +kernel
theorem dX5_where_90 : decode cX5_where 90 = .ok (.lload 5, 2) := by decide +kernel
theorem dX5_where_92 : decode cX5_where 92 = .ok (.lmul, 1) := by decide +kernel
theorem dX5_where_93 : decode cX5_where 93 = .ok (.invokestatic 181, 3) := by decide +kernel
theorem dX5_where_96 : decode cX5_where 96 = .ok (.lstore 7, 2) := by decide +kernel
theorem dX5_where_98 : decode cX5_where 98 = .ok (.lload 7, 2) := by decide +kernel
theorem dX5_where_100 : decode cX5_where 100 = .ok (.lload 5, 2) := by decide +kernel
theorem dX5_where_102 : decode cX5_where 102 = .ok (.invokestatic 184, 3) := by decide +kernel
theorem dX5_where_105 : decode cX5_where 105 = .ok (.lstore 9, 2) := by decide +kernel
theorem dX5_where_107 : decode cX5_where 107 = .ok (.iload_n 3, 1) := by decide +kernel
theorem dX5_where_108 : decode cX5_where 108 = .ok (.ifCond .ne 8, 3) := by decide +kernel
theorem dX5_where_111 : decode cX5_where 111 = .ok (.lload 7, 2) := by decide +kernel
theorem dX5_where_113 : decode cX5_where 113 = .ok (.goto 5, 3) := by decide +kernel
theorem dX5_where_116 : decode cX5_where 116 = .ok (.lload 5, 2) := by decide +kernel
theorem dX5_where_118 : decode cX5_where 118 = .ok (.lload 9, 2) := by decide +kernel
theorem dX5_where_120 : decode cX5_where 120 = .ok (.ldiv, 1) := by decide +kernel
theorem dX5_where_121 : decode cX5_where 121 = .ok (.lreturn, 1) := by decide +kernel
theorem dX5_in_0 : decode cX5_in 0 = .ok (.aload_n 0, 1) := by decide +kernel
theorem dX5_in_1 : decode cX5_in 1 = .ok (.getfield 12, 3) := by decide +kernel
theorem dX5_in_4 : decode cX5_in 4 = .ok (.iload_n 1, 1) := by decide +kernel
theorem dX5_in_5 : decode cX5_in 5 = .ok (.invokevirtual 137, 3) := by decide +kernel
theorem dX5_in_8 : decode cX5_in 8 = .ok (.astore_n 3, 1) := by decide +kernel
theorem dX5_in_9 : decode cX5_in 9 = .ok (.aload_n 3, 1) := by decide +kernel
theorem dX5_in_10 : decode cX5_in 10 = .ok (.ifnull 10, 3) := by decide +kernel
theorem dX5_in_13 : decode cX5_in 13 = .ok (.iload_n 2, 1) := by decide +kernel
theorem dX5_in_14 : decode cX5_in 14 = .ok (.invokestatic 96, 3) := by decide +kernel
theorem dX5_in_17 : decode cX5_in 17 = .ok (.ifCond .ne 5, 3) := by decide +kernel
theorem dX5_in_20 : decode cX5_in 20 = .ok (.iconst (-1), 1) := by decide +kernel
theorem dX5_in_21 : decode cX5_in 21 = .ok (.ireturn, 1) := by decide +kernel
theorem dX5_in_22 : decode cX5_in 22 = .ok (.aload_n 0, 1) := by decide +kernel
theorem dX5_in_23 : decode cX5_in 23 = .ok (.getfield 12, 3) := by decide +kernel
theorem dX5_in_26 : decode cX5_in 26 = .ok (.aload_n 3, 1) := by decide +kernel
theorem dX5_in_27 : decode cX5_in 27 = .ok (.aload_n 3, 1) := by decide +kernel
theorem dX5_in_28 : decode cX5_in 28 = .ok (.getfield 162, 3) := by decide +kernel
theorem dX5_in_31 : decode cX5_in 31 = .ok (.iload_n 2, 1) := by decide +kernel
theorem dX5_in_32 : decode cX5_in 32 = .ok (.aload_n 0, 1) := by decide +kernel
theorem dX5_in_33 : decode cX5_in 33 = .ok (.getfield 32, 3) := by decide +kernel
theorem dX5_in_36 : decode cX5_in 36 = .ok (.invokevirtual 165, 3) := by decide +kernel
theorem dX5_in_39 : decode cX5_in 39 = .ok (.aload_n 0, 1) := by decide +kernel
theorem dX5_in_40 : decode cX5_in 40 = .ok (.getfield 32, 3) := by decide +kernel
theorem dX5_in_43 : decode cX5_in 43 = .ok (.invokevirtual 187, 3) := by decide +kernel
theorem dX5_in_46 : decode cX5_in 46 = .ok (.ifCond .eq 8, 3) := by decide +kernel
theorem dX5_in_49 : decode cX5_in 49 = .ok (.bipush (-4), 2) := by decide +kernel
theorem dX5_in_51 : decode cX5_in 51 = .ok (.goto 10, 3) := by decide +kernel
theorem dX5_in_54 : decode cX5_in 54 = .ok (.aload_n 0, 1) := by decide +kernel
theorem dX5_in_55 : decode cX5_in 55 = .ok (.getfield 32, 3) := by decide +kernel
theorem dX5_in_58 : decode cX5_in 58 = .ok (.getfield 191, 3) := by decide +kernel
theorem dX5_in_61 : decode cX5_in 61 = .ok (.ireturn, 1) := by decide +kernel
theorem dX5_day_0 : decode cX5_day 0 = .ok (.aload_n 0, 1) := by decide +kernel
theorem dX5_day_1 : decode cX5_day 1 = .ok (.getfield 12, 3) := by decide +kernel
theorem dX5_day_4 : decode cX5_day 4 = .ok (.iload_n 1, 1) := by decide +kernel
theorem dX5_day_5 : decode cX5_day 5 = .ok (.invokevirtual 137, 3) := by decide +kernel
theorem dX5_day_8 : decode cX5_day 8 = .ok (.astore_n 3, 1) := by decide +kernel
theorem dX5_day_9 : decode cX5_day 9 = .ok (.aload_n 3, 1) := by decide +kernel
theorem dX5_day_10 : decode cX5_day 10 = .ok (.ifnull 10, 3) := by decide +kernel
theorem dX5_day_13 : decode cX5_day 13 = .ok (.iload_n 2, 1) := by decide +kernel
theorem dX5_day_14 : decode cX5_day 14 = .ok (.invokestatic 96, 3) := by decide +kernel
theorem dX5_day_17 : decode cX5_day 17 = .ok (.ifCond .ne 6, 3) := by decide +kernel
theorem dX5_day_20 : decode cX5_day 20 = .ok (.ldc 72, 2) := by decide +kernel
theorem dX5_day_22 : decode cX5_day 22 = .ok (.ireturn, 1) := by decide +kernel
theorem dX5_day_23 : decode cX5_day 23 = .ok (.aload_n 0, 1) := by decide +kernel
theorem dX5_day_24 : decode cX5_day 24 = .ok (.aload_n 3, 1) := by decide +kernel
theorem dX5_day_25 : decode cX5_day 25 = .ok (.aload_n 3, 1) := by decide +kernel
theorem dX5_day_26 : decode cX5_day 26 = .ok (.getfield 124, 3) := by decide +kernel
theorem dX5_day_29 : decode cX5_day 29 = .ok (.iload_n 2, 1) := by decide +kernel
theorem dX5_day_30 : decode cX5_day 30 = .ok (.invokevirtual 194, 3) := by decide +kernel
theorem dX5_day_33 : decode cX5_day 33 = .ok (.ireturn, 1) := by decide +kernel
theorem dX5_dayBy_0 : decode cX5_dayBy 0 = .ok (.aload_n 0, 1) := by decide +kernel
theorem dX5_dayBy_1 : decode cX5_dayBy 1 = .ok (.getfield 12, 3) := by decide +kernel
theorem dX5_dayBy_4 : decode cX5_dayBy 4 = .ok (.iload_n 1, 1) := by decide +kernel
theorem dX5_dayBy_5 : decode cX5_dayBy 5 = .ok (.invokevirtual 137, 3) := by decide +kernel
theorem dX5_dayBy_8 : decode cX5_dayBy 8 = .ok (.astore 4, 2) := by decide +kernel
theorem dX5_dayBy_10 : decode cX5_dayBy 10 = .ok (.aload 4, 2) := by decide +kernel
theorem dX5_dayBy_12 : decode cX5_dayBy 12 = .ok (.ifnull 17, 3) := by decide +kernel
theorem dX5_dayBy_15 : decode cX5_dayBy 15 = .ok (.iload_n 2, 1) := by decide +kernel
theorem dX5_dayBy_16 : decode cX5_dayBy 16 = .ok (.invokestatic 112, 3) := by decide +kernel
theorem dX5_dayBy_19 : decode cX5_dayBy 19 = .ok (.ifCond .eq 10, 3) := by decide +kernel
theorem dX5_dayBy_22 : decode cX5_dayBy 22 = .ok (.iload_n 3, 1) := by decide +kernel
theorem dX5_dayBy_23 : decode cX5_dayBy 23 = .ok (.invokestatic 96, 3) := by decide +kernel
theorem dX5_dayBy_26 : decode cX5_dayBy 26 = .ok (.ifCond .ne 6, 3) := by decide +kernel
theorem dX5_dayBy_29 : decode cX5_dayBy 29 = .ok (.ldc 72, 2) := by decide +kernel
theorem dX5_dayBy_31 : decode cX5_dayBy 31 = .ok (.ireturn, 1) := by decide +kernel
theorem dX5_dayBy_32 : decode cX5_dayBy 32 = .ok (.aload_n 0, 1) := by decide +kernel
theorem dX5_dayBy_33 : decode cX5_dayBy 33 = .ok (.aload 4, 2) := by decide +kernel
theorem dX5_dayBy_35 : decode cX5_dayBy 35 = .ok (.iload_n 2, 1) := by decide +kernel
theorem dX5_dayBy_36 : decode cX5_dayBy 36 = .ok (.iload_n 3, 1) := by decide +kernel
theorem dX5_dayBy_37 : decode cX5_dayBy 37 = .ok (.invokevirtual 194, 3) := by decide +kernel
theorem dX5_dayBy_40 : decode cX5_dayBy 40 = .ok (.ireturn, 1) := by decide +kernel
theorem dX5_gain_0 : decode cX5_gain 0 = .ok (.aload_n 0, 1) := by decide +kernel
theorem dX5_gain_1 : decode cX5_gain 1 = .ok (.getfield 12, 3) := by decide +kernel
theorem dX5_gain_4 : decode cX5_gain 4 = .ok (.iload_n 1, 1) := by decide +kernel
theorem dX5_gain_5 : decode cX5_gain 5 = .ok (.invokevirtual 137, 3) := by decide +kernel
theorem dX5_gain_8 : decode cX5_gain 8 = .ok (.astore 4, 2) := by decide +kernel
theorem dX5_gain_10 : decode cX5_gain 10 = .ok (.aload 4, 2) := by decide +kernel
theorem dX5_gain_12 : decode cX5_gain 12 = .ok (.ifnull 17, 3) := by decide +kernel
theorem dX5_gain_15 : decode cX5_gain 15 = .ok (.iload_n 2, 1) := by decide +kernel
theorem dX5_gain_16 : decode cX5_gain 16 = .ok (.invokestatic 112, 3) := by decide +kernel
theorem dX5_gain_19 : decode cX5_gain 19 = .ok (.ifCond .eq 10, 3) := by decide +kernel
theorem dX5_gain_22 : decode cX5_gain 22 = .ok (.iload_n 3, 1) := by decide +kernel
theorem dX5_gain_23 : decode cX5_gain 23 = .ok (.invokestatic 96, 3) := by decide +kernel
theorem dX5_gain_26 : decode cX5_gain 26 = .ok (.ifCond .ne 6, 3) := by decide +kernel
theorem dX5_gain_29 : decode cX5_gain 29 = .ok (.ldc 72, 2) := by decide +kernel
theorem dX5_gain_31 : decode cX5_gain 31 = .ok (.ireturn, 1) := by decide +kernel
theorem dX5_gain_32 : decode cX5_gain 32 = .ok (.aload_n 0, 1) := by decide +kernel
theorem dX5_gain_33 : decode cX5_gain 33 = .ok (.aload 4, 2) := by decide +kernel
theorem dX5_gain_35 : decode cX5_gain 35 = .ok (.iload_n 2, 1) := by decide +kernel
theorem dX5_gain_36 : decode cX5_gain 36 = .ok (.iload_n 3, 1) := by decide +kernel
theorem dX5_gain_37 : decode cX5_gain 37 = .ok (.invokevirtual 194, 3) := by decide +kernel
theorem dX5_gain_40 : decode cX5_gain 40 = .ok (.aload_n 0, 1) := by decide +kernel
theorem dX5_gain_41 : decode cX5_gain 41 = .ok (.aload 4, 2) := by decide +kernel
theorem dX5_gain_43 : decode cX5_gain 43 = .ok (.iconst 3, 1) := by decide +kernel
theorem dX5_gain_44 : decode cX5_gain 44 = .ok (.iload_n 3, 1) := by decide +kernel
theorem dX5_gain_45 : decode cX5_gain 45 = .ok (.invokevirtual 194, 3) := by decide +kernel
theorem dX5_gain_48 : decode cX5_gain 48 = .ok (.isub, 1) := by decide +kernel
theorem dX5_gain_49 : decode cX5_gain 49 = .ok (.ireturn, 1) := by decide +kernel
theorem dX5_begins_0 : decode cX5_begins 0 = .ok (.aload_n 0, 1) := by decide +kernel
theorem dX5_begins_1 : decode cX5_begins 1 = .ok (.getfield 12, 3) := by decide +kernel
theorem dX5_begins_4 : decode cX5_begins 4 = .ok (.iload_n 1, 1) := by decide +kernel
theorem dX5_begins_5 : decode cX5_begins 5 = .ok (.invokevirtual 137, 3) := by decide +kernel
theorem dX5_begins_8 : decode cX5_begins 8 = .ok (.astore_n 3, 1) := by decide +kernel
theorem dX5_begins_9 : decode cX5_begins 9 = .ok (.aload_n 3, 1) := by decide +kernel
theorem dX5_begins_10 : decode cX5_begins 10 = .ok (.ifnull 10, 3) := by decide +kernel
theorem dX5_begins_13 : decode cX5_begins 13 = .ok (.iload_n 2, 1) := by decide +kernel
theorem dX5_begins_14 : decode cX5_begins 14 = .ok (.invokestatic 96, 3) := by decide +kernel
theorem dX5_begins_17 : decode cX5_begins 17 = .ok (.ifCond .ne 5, 3) := by decide +kernel
theorem dX5_begins_20 : decode cX5_begins 20 = .ok (.iconst (-1), 1) := by decide +kernel
theorem dX5_begins_21 : decode cX5_begins 21 = .ok (.ireturn, 1) := by decide +kernel
theorem dX5_begins_22 : decode cX5_begins 22 = .ok (.aload_n 0, 1) := by decide +kernel
theorem dX5_begins_23 : decode cX5_begins 23 = .ok (.aload_n 3, 1) := by decide +kernel
theorem dX5_begins_24 : decode cX5_begins 24 = .ok (.aload_n 3, 1) := by decide +kernel
theorem dX5_begins_25 : decode cX5_begins 25 = .ok (.getfield 124, 3) := by decide +kernel
theorem dX5_begins_28 : decode cX5_begins 28 = .ok (.iload_n 2, 1) := by decide +kernel
theorem dX5_begins_29 : decode cX5_begins 29 = .ok (.invokevirtual 198, 3) := by decide +kernel
theorem dX5_begins_32 : decode cX5_begins 32 = .ok (.invokestatic 201, 3) := by decide +kernel
theorem dX5_begins_35 : decode cX5_begins 35 = .ok (.ireturn, 1) := by decide +kernel
theorem dX5_longDay_0 : decode cX5_longDay 0 = .ok (.aload_n 0, 1) := by decide +kernel
theorem dX5_longDay_1 : decode cX5_longDay 1 = .ok (.getfield 12, 3) := by decide +kernel
theorem dX5_longDay_4 : decode cX5_longDay 4 = .ok (.iload_n 1, 1) := by decide +kernel
theorem dX5_longDay_5 : decode cX5_longDay 5 = .ok (.invokevirtual 137, 3) := by decide +kernel
theorem dX5_longDay_8 : decode cX5_longDay 8 = .ok (.astore_n 3, 1) := by decide +kernel
theorem dX5_longDay_9 : decode cX5_longDay 9 = .ok (.aload_n 3, 1) := by decide +kernel
theorem dX5_longDay_10 : decode cX5_longDay 10 = .ok (.ifnull 10, 3) := by decide +kernel
theorem dX5_longDay_13 : decode cX5_longDay 13 = .ok (.iload_n 2, 1) := by decide +kernel
theorem dX5_longDay_14 : decode cX5_longDay 14 = .ok (.invokestatic 96, 3) := by decide +kernel
theorem dX5_longDay_17 : decode cX5_longDay 17 = .ok (.ifCond .ne 5, 3) := by decide +kernel
theorem dX5_longDay_20 : decode cX5_longDay 20 = .ok (.iconst (-1), 1) := by decide +kernel
theorem dX5_longDay_21 : decode cX5_longDay 21 = .ok (.ireturn, 1) := by decide +kernel
theorem dX5_longDay_22 : decode cX5_longDay 22 = .ok (.iconst 0, 1) := by decide +kernel
theorem dX5_longDay_23 : decode cX5_longDay 23 = .ok (.istore 4, 2) := by decide +kernel
theorem dX5_longDay_25 : decode cX5_longDay 25 = .ok (.aload_n 0, 1) := by decide +kernel
theorem dX5_longDay_26 : decode cX5_longDay 26 = .ok (.aload_n 3, 1) := by decide +kernel
theorem dX5_longDay_27 : decode cX5_longDay 27 = .ok (.aload_n 3, 1) := by decide +kernel
theorem dX5_longDay_28 : decode cX5_longDay 28 = .ok (.getfield 124, 3) := by decide +kernel
theorem dX5_longDay_31 : decode cX5_longDay 31 = .ok (.iload 4, 2) := by decide +kernel
theorem dX5_longDay_33 : decode cX5_longDay 33 = .ok (.invokevirtual 198, 3) := by decide +kernel
theorem dX5_longDay_36 : decode cX5_longDay 36 = .ok (.istore 5, 2) := by decide +kernel
theorem dX5_longDay_38 : decode cX5_longDay 38 = .ok (.iconst 0, 1) := by decide +kernel
theorem dX5_longDay_39 : decode cX5_longDay 39 = .ok (.istore 6, 2) := by decide +kernel
theorem dX5_longDay_41 : decode cX5_longDay 41 = .ok (.iload 6, 2) := by decide +kernel
theorem dX5_longDay_43 : decode cX5_longDay 43 = .ok (.sipush 19999, 3) := by decide +kernel
theorem dX5_longDay_46 : decode cX5_longDay 46 = .ok (.if_icmp .gt 32, 3) := by decide +kernel
theorem dX5_longDay_49 : decode cX5_longDay 49 = .ok (.iload 5, 2) := by decide +kernel
theorem dX5_longDay_51 : decode cX5_longDay 51 = .ok (.iload_n 2, 1) := by decide +kernel
theorem dX5_longDay_52 : decode cX5_longDay 52 = .ok (.if_icmp .gt 26, 3) := by decide +kernel
theorem dX5_longDay_55 : decode cX5_longDay 55 = .ok (.iload 5, 2) := by decide +kernel
theorem dX5_longDay_57 : decode cX5_longDay 57 = .ok (.istore 4, 2) := by decide +kernel
theorem dX5_longDay_59 : decode cX5_longDay 59 = .ok (.aload_n 0, 1) := by decide +kernel
theorem dX5_longDay_60 : decode cX5_longDay 60 = .ok (.aload_n 3, 1) := by decide +kernel
theorem dX5_longDay_61 : decode cX5_longDay 61 = .ok (.aload_n 3, 1) := by decide +kernel
theorem dX5_longDay_62 : decode cX5_longDay 62 = .ok (.getfield 124, 3) := by decide +kernel
theorem dX5_longDay_65 : decode cX5_longDay 65 = .ok (.iload 4, 2) := by decide +kernel
theorem dX5_longDay_67 : decode cX5_longDay 67 = .ok (.invokevirtual 198, 3) := by decide +kernel
theorem dX5_longDay_70 : decode cX5_longDay 70 = .ok (.istore 5, 2) := by decide +kernel
theorem dX5_longDay_72 : decode cX5_longDay 72 = .ok (.iinc 6 1, 3) := by decide +kernel
theorem dX5_longDay_75 : decode cX5_longDay 75 = .ok (.goto (-34), 3) := by decide +kernel
theorem dX5_longDay_78 : decode cX5_longDay 78 = .ok (.iload 5, 2) := by decide +kernel
theorem dX5_longDay_80 : decode cX5_longDay 80 = .ok (.sipush 19999, 3) := by decide +kernel
theorem dX5_longDay_83 : decode cX5_longDay 83 = .ok (.if_icmp .le 8, 3) := by decide +kernel
theorem dX5_longDay_86 : decode cX5_longDay 86 = .ok (.bipush (-4), 2) := by decide +kernel
theorem dX5_longDay_88 : decode cX5_longDay 88 = .ok (.goto 8, 3) := by decide +kernel
theorem dX5_longDay_91 : decode cX5_longDay 91 = .ok (.iload 5, 2) := by decide +kernel
theorem dX5_longDay_93 : decode cX5_longDay 93 = .ok (.iload 4, 2) := by decide +kernel
theorem dX5_longDay_95 : decode cX5_longDay 95 = .ok (.isub, 1) := by decide +kernel
theorem dX5_longDay_96 : decode cX5_longDay 96 = .ok (.ireturn, 1) := by decide +kernel
theorem dX5_often_0 : decode cX5_often 0 = .ok (.aload_n 0, 1) := by decide +kernel
theorem dX5_often_1 : decode cX5_often 1 = .ok (.getfield 12, 3) := by decide +kernel
theorem dX5_often_4 : decode cX5_often 4 = .ok (.iload_n 1, 1) := by decide +kernel
theorem dX5_often_5 : decode cX5_often 5 = .ok (.invokevirtual 137, 3) := by decide +kernel
theorem dX5_often_8 : decode cX5_often 8 = .ok (.astore 4, 2) := by decide +kernel
theorem dX5_often_10 : decode cX5_often 10 = .ok (.aload 4, 2) := by decide +kernel
theorem dX5_often_12 : decode cX5_often 12 = .ok (.ifnull 10, 3) := by decide +kernel
theorem dX5_often_15 : decode cX5_often 15 = .ok (.iload_n 3, 1) := by decide +kernel
theorem dX5_often_16 : decode cX5_often 16 = .ok (.invokestatic 96, 3) := by decide +kernel
theorem dX5_often_19 : decode cX5_often 19 = .ok (.ifCond .ne 5, 3) := by decide +kernel
theorem dX5_often_22 : decode cX5_often 22 = .ok (.iconst (-1), 1) := by decide +kernel
theorem dX5_often_23 : decode cX5_often 23 = .ok (.ireturn, 1) := by decide +kernel
theorem dX5_often_24 : decode cX5_often 24 = .ok (.iconst 0, 1) := by decide +kernel
theorem dX5_often_25 : decode cX5_often 25 = .ok (.istore 5, 2) := by decide +kernel
theorem dX5_often_27 : decode cX5_often 27 = .ok (.iconst 0, 1) := by decide +kernel
theorem dX5_often_28 : decode cX5_often 28 = .ok (.istore 6, 2) := by decide +kernel
theorem dX5_often_30 : decode cX5_often 30 = .ok (.iconst 0, 1) := by decide +kernel
theorem dX5_often_31 : decode cX5_often 31 = .ok (.istore 7, 2) := by decide +kernel
theorem dX5_often_33 : decode cX5_often 33 = .ok (.iload 7, 2) := by decide +kernel
theorem dX5_often_35 : decode cX5_often 35 = .ok (.sipush 19999, 3) := by decide +kernel
theorem dX5_often_38 : decode cX5_often 38 = .ok (.if_icmp .gt 50, 3) := by decide +kernel
theorem dX5_often_41 : decode cX5_often 41 = .ok (.iload 6, 2) := by decide +kernel
theorem dX5_often_43 : decode cX5_often 43 = .ok (.iload_n 3, 1) := by decide +kernel
theorem dX5_often_44 : decode cX5_often 44 = .ok (.if_icmp .gt 44, 3) := by decide +kernel
theorem dX5_often_47 : decode cX5_often 47 = .ok (.aload_n 0, 1) := by decide +kernel
theorem dX5_often_48 : decode cX5_often 48 = .ok (.aload 4, 2) := by decide +kernel
theorem dX5_often_50 : decode cX5_often 50 = .ok (.aload 4, 2) := by decide +kernel
theorem dX5_often_52 : decode cX5_often 52 = .ok (.getfield 124, 3) := by decide +kernel
theorem dX5_often_55 : decode cX5_often 55 = .ok (.iload 6, 2) := by decide +kernel
theorem dX5_often_57 : decode cX5_often 57 = .ok (.invokevirtual 194, 3) := by decide +kernel
theorem dX5_often_60 : decode cX5_often 60 = .ok (.iload_n 2, 1) := by decide +kernel
theorem dX5_often_61 : decode cX5_often 61 = .ok (.if_icmp .ne 6, 3) := by decide +kernel
theorem dX5_often_64 : decode cX5_often 64 = .ok (.iinc 5 1, 3) := by decide +kernel
theorem dX5_often_67 : decode cX5_often 67 = .ok (.aload_n 0, 1) := by decide +kernel
theorem dX5_often_68 : decode cX5_often 68 = .ok (.aload 4, 2) := by decide +kernel
theorem dX5_often_70 : decode cX5_often 70 = .ok (.aload 4, 2) := by decide +kernel
theorem dX5_often_72 : decode cX5_often 72 = .ok (.getfield 124, 3) := by decide +kernel
theorem dX5_often_75 : decode cX5_often 75 = .ok (.iload 6, 2) := by decide +kernel
theorem dX5_often_77 : decode cX5_often 77 = .ok (.invokevirtual 198, 3) := by decide +kernel
theorem dX5_often_80 : decode cX5_often 80 = .ok (.istore 6, 2) := by decide +kernel
theorem dX5_often_82 : decode cX5_often 82 = .ok (.iinc 7 1, 3) := by decide +kernel
theorem dX5_often_85 : decode cX5_often 85 = .ok (.goto (-52), 3) := by decide +kernel
theorem dX5_often_88 : decode cX5_often 88 = .ok (.iload 5, 2) := by decide +kernel
theorem dX5_often_90 : decode cX5_often 90 = .ok (.ireturn, 1) := by decide +kernel
theorem dX5_duty_0 : decode cX5_duty 0 = .ok (.aload_n 0, 1) := by decide +kernel
theorem dX5_duty_1 : decode cX5_duty 1 = .ok (.getfield 12, 3) := by decide +kernel
theorem dX5_duty_4 : decode cX5_duty 4 = .ok (.iload_n 1, 1) := by decide +kernel
theorem dX5_duty_5 : decode cX5_duty 5 = .ok (.invokevirtual 137, 3) := by decide +kernel
theorem dX5_duty_8 : decode cX5_duty 8 = .ok (.astore 4, 2) := by decide +kernel
theorem dX5_duty_10 : decode cX5_duty 10 = .ok (.aload 4, 2) := by decide +kernel
theorem dX5_duty_12 : decode cX5_duty 12 = .ok (.ifnull 20, 3) := by decide +kernel
theorem dX5_duty_15 : decode cX5_duty 15 = .ok (.iload_n 2, 1) := by decide +kernel
theorem dX5_duty_16 : decode cX5_duty 16 = .ok (.invokestatic 96, 3) := by decide +kernel
theorem dX5_duty_19 : decode cX5_duty 19 = .ok (.ifCond .eq 13, 3) := by decide +kernel
theorem dX5_duty_22 : decode cX5_duty 22 = .ok (.iload_n 3, 1) := by decide +kernel
theorem dX5_duty_23 : decode cX5_duty 23 = .ok (.ifCond .lt 9, 3) := by decide +kernel
theorem dX5_duty_26 : decode cX5_duty 26 = .ok (.iload_n 3, 1) := by decide +kernel
theorem dX5_duty_27 : decode cX5_duty 27 = .ok (.bipush 10, 2) := by decide +kernel
theorem dX5_duty_29 : decode cX5_duty 29 = .ok (.if_icmp .le 5, 3) := by decide +kernel
theorem dX5_duty_32 : decode cX5_duty 32 = .ok (.iconst (-1), 1) := by decide +kernel
theorem dX5_duty_33 : decode cX5_duty 33 = .ok (.ireturn, 1) := by decide +kernel
theorem dX5_duty_34 : decode cX5_duty 34 = .ok (.aload_n 0, 1) := by decide +kernel
theorem dX5_duty_35 : decode cX5_duty 35 = .ok (.aload 4, 2) := by decide +kernel
theorem dX5_duty_37 : decode cX5_duty 37 = .ok (.aload 4, 2) := by decide +kernel
theorem dX5_duty_39 : decode cX5_duty 39 = .ok (.getfield 124, 3) := by decide +kernel
theorem dX5_duty_42 : decode cX5_duty 42 = .ok (.iload_n 2, 1) := by decide +kernel
theorem dX5_duty_43 : decode cX5_duty 43 = .ok (.invokevirtual 194, 3) := by decide +kernel
theorem dX5_duty_46 : decode cX5_duty 46 = .ok (.iload_n 3, 1) := by decide +kernel
theorem dX5_duty_47 : decode cX5_duty 47 = .ok (.iadd, 1) := by decide +kernel
theorem dX5_duty_48 : decode cX5_duty 48 = .ok (.istore 5, 2) := by decide +kernel
theorem dX5_duty_50 : decode cX5_duty 50 = .ok (.iload_n 2, 1) := by decide +kernel
theorem dX5_duty_51 : decode cX5_duty 51 = .ok (.istore 6, 2) := by decide +kernel
theorem dX5_duty_53 : decode cX5_duty 53 = .ok (.iconst 0, 1) := by decide +kernel
theorem dX5_duty_54 : decode cX5_duty 54 = .ok (.istore 7, 2) := by decide +kernel
theorem dX5_duty_56 : decode cX5_duty 56 = .ok (.iload 7, 2) := by decide +kernel
theorem dX5_duty_58 : decode cX5_duty 58 = .ok (.sipush 19999, 3) := by decide +kernel
theorem dX5_duty_61 : decode cX5_duty 61 = .ok (.if_icmp .gt 53, 3) := by decide +kernel
theorem dX5_duty_64 : decode cX5_duty 64 = .ok (.iload 6, 2) := by decide +kernel
theorem dX5_duty_66 : decode cX5_duty 66 = .ok (.sipush 19999, 3) := by decide +kernel
theorem dX5_duty_69 : decode cX5_duty 69 = .ok (.if_icmp .gt 45, 3) := by decide +kernel
theorem dX5_duty_72 : decode cX5_duty 72 = .ok (.aload_n 0, 1) := by decide +kernel
theorem dX5_duty_73 : decode cX5_duty 73 = .ok (.aload 4, 2) := by decide +kernel
theorem dX5_duty_75 : decode cX5_duty 75 = .ok (.aload 4, 2) := by decide +kernel
theorem dX5_duty_77 : decode cX5_duty 77 = .ok (.getfield 124, 3) := by decide +kernel
theorem dX5_duty_80 : decode cX5_duty 80 = .ok (.iload 6, 2) := by decide +kernel
theorem dX5_duty_82 : decode cX5_duty 82 = .ok (.invokevirtual 194, 3) := by decide +kernel
theorem dX5_duty_85 : decode cX5_duty 85 = .ok (.iload 5, 2) := by decide +kernel
theorem dX5_duty_87 : decode cX5_duty 87 = .ok (.if_icmp .lt 6, 3) := by decide +kernel
theorem dX5_duty_90 : decode cX5_duty 90 = .ok (.iload 6, 2) := by decide +kernel
theorem dX5_duty_92 : decode cX5_duty 92 = .ok (.ireturn, 1) := by decide +kernel
theorem dX5_duty_93 : decode cX5_duty 93 = .ok (.aload_n 0, 1) := by decide +kernel
theorem dX5_duty_94 : decode cX5_duty 94 = .ok (.aload 4, 2) := by decide +kernel
theorem dX5_duty_96 : decode cX5_duty 96 = .ok (.aload 4, 2) := by decide +kernel
theorem dX5_duty_98 : decode cX5_duty 98 = .ok (.getfield 124, 3) := by decide +kernel
theorem dX5_duty_101 : decode cX5_duty 101 = .ok (.iload 6, 2) := by decide +kernel
theorem dX5_duty_103 : decode cX5_duty 103 = .ok (.invokevirtual 198, 3) := by decide +kernel
theorem dX5_duty_106 : decode cX5_duty 106 = .ok (.istore 6, 2) := by decide +kernel
theorem dX5_duty_108 : decode cX5_duty 108 = .ok (.iinc 7 1, 3) := by decide +kernel
theorem dX5_duty_111 : decode cX5_duty 111 = .ok (.goto (-55), 3) := by decide +kernel
theorem dX5_duty_114 : decode cX5_duty 114 = .ok (.bipush (-4), 2) := by decide +kernel
theorem dX5_duty_116 : decode cX5_duty 116 = .ok (.ireturn, 1) := by decide +kernel
theorem dX5_differ_0 : decode cX5_differ 0 = .ok (.aload_n 0, 1) := by decide +kernel
theorem dX5_differ_1 : decode cX5_differ 1 = .ok (.getfield 12, 3) := by decide +kernel
theorem dX5_differ_4 : decode cX5_differ 4 = .ok (.iload_n 1, 1) := by decide +kernel
theorem dX5_differ_5 : decode cX5_differ 5 = .ok (.invokevirtual 137, 3) := by decide +kernel
theorem dX5_differ_8 : decode cX5_differ 8 = .ok (.astore 4, 2) := by decide +kernel
theorem dX5_differ_10 : decode cX5_differ 10 = .ok (.aload_n 0, 1) := by decide +kernel
theorem dX5_differ_11 : decode cX5_differ 11 = .ok (.getfield 12, 3) := by decide +kernel
theorem dX5_differ_14 : decode cX5_differ 14 = .ok (.iload_n 2, 1) := by decide +kernel
theorem dX5_differ_15 : decode cX5_differ 15 = .ok (.invokevirtual 137, 3) := by decide +kernel
theorem dX5_differ_18 : decode cX5_differ 18 = .ok (.astore 5, 2) := by decide +kernel
theorem dX5_differ_20 : decode cX5_differ 20 = .ok (.aload 4, 2) := by decide +kernel
theorem dX5_differ_22 : decode cX5_differ 22 = .ok (.ifnull 15, 3) := by decide +kernel
theorem dX5_differ_25 : decode cX5_differ 25 = .ok (.aload 5, 2) := by decide +kernel
theorem dX5_differ_27 : decode cX5_differ 27 = .ok (.ifnull 10, 3) := by decide +kernel
theorem dX5_differ_30 : decode cX5_differ 30 = .ok (.iload_n 3, 1) := by decide +kernel
theorem dX5_differ_31 : decode cX5_differ 31 = .ok (.invokestatic 96, 3) := by decide +kernel
theorem dX5_differ_34 : decode cX5_differ 34 = .ok (.ifCond .ne 6, 3) := by decide +kernel
theorem dX5_differ_37 : decode cX5_differ 37 = .ok (.ldc 72, 2) := by decide +kernel
theorem dX5_differ_39 : decode cX5_differ 39 = .ok (.ireturn, 1) := by decide +kernel
theorem dX5_differ_40 : decode cX5_differ 40 = .ok (.aload_n 0, 1) := by decide +kernel
theorem dX5_differ_41 : decode cX5_differ 41 = .ok (.aload 4, 2) := by decide +kernel
theorem dX5_differ_43 : decode cX5_differ 43 = .ok (.aload 4, 2) := by decide +kernel
theorem dX5_differ_45 : decode cX5_differ 45 = .ok (.getfield 124, 3) := by decide +kernel
theorem dX5_differ_48 : decode cX5_differ 48 = .ok (.iload_n 3, 1) := by decide +kernel
theorem dX5_differ_49 : decode cX5_differ 49 = .ok (.invokevirtual 194, 3) := by decide +kernel
theorem dX5_differ_52 : decode cX5_differ 52 = .ok (.aload_n 0, 1) := by decide +kernel
theorem dX5_differ_53 : decode cX5_differ 53 = .ok (.aload 5, 2) := by decide +kernel
theorem dX5_differ_55 : decode cX5_differ 55 = .ok (.aload 5, 2) := by decide +kernel
theorem dX5_differ_57 : decode cX5_differ 57 = .ok (.getfield 124, 3) := by decide +kernel
theorem dX5_differ_60 : decode cX5_differ 60 = .ok (.iload_n 3, 1) := by decide +kernel
theorem dX5_differ_61 : decode cX5_differ 61 = .ok (.invokevirtual 194, 3) := by decide +kernel
theorem dX5_differ_64 : decode cX5_differ 64 = .ok (.isub, 1) := by decide +kernel
theorem dX5_differ_65 : decode cX5_differ 65 = .ok (.ireturn, 1) := by decide +kernel
theorem dX5_agree_0 : decode cX5_agree 0 = .ok (.aload_n 0, 1) := by decide +kernel
theorem dX5_agree_1 : decode cX5_agree 1 = .ok (.getfield 12, 3) := by decide +kernel
theorem dX5_agree_4 : decode cX5_agree 4 = .ok (.iload_n 1, 1) := by decide +kernel
theorem dX5_agree_5 : decode cX5_agree 5 = .ok (.invokevirtual 137, 3) := by decide +kernel
theorem dX5_agree_8 : decode cX5_agree 8 = .ok (.astore 4, 2) := by decide +kernel
theorem dX5_agree_10 : decode cX5_agree 10 = .ok (.aload_n 0, 1) := by decide +kernel
theorem dX5_agree_11 : decode cX5_agree 11 = .ok (.getfield 12, 3) := by decide +kernel
theorem dX5_agree_14 : decode cX5_agree 14 = .ok (.iload_n 2, 1) := by decide +kernel
theorem dX5_agree_15 : decode cX5_agree 15 = .ok (.invokevirtual 137, 3) := by decide +kernel
theorem dX5_agree_18 : decode cX5_agree 18 = .ok (.astore 5, 2) := by decide +kernel
theorem dX5_agree_20 : decode cX5_agree 20 = .ok (.aload 4, 2) := by decide +kernel
theorem dX5_agree_22 : decode cX5_agree 22 = .ok (.ifnull 15, 3) := by decide +kernel
theorem dX5_agree_25 : decode cX5_agree 25 = .ok (.aload 5, 2) := by decide +kernel
theorem dX5_agree_27 : decode cX5_agree 27 = .ok (.ifnull 10, 3) := by decide +kernel
theorem dX5_agree_30 : decode cX5_agree 30 = .ok (.iload_n 3, 1) := by decide +kernel
theorem dX5_agree_31 : decode cX5_agree 31 = .ok (.invokestatic 96, 3) := by decide +kernel
theorem dX5_agree_34 : decode cX5_agree 34 = .ok (.ifCond .ne 5, 3) := by decide +kernel
theorem dX5_agree_37 : decode cX5_agree 37 = .ok (.iconst (-1), 1) := by decide +kernel
theorem dX5_agree_38 : decode cX5_agree 38 = .ok (.ireturn, 1) := by decide +kernel
theorem dX5_agree_39 : decode cX5_agree 39 = .ok (.iload_n 3, 1) := by decide +kernel
theorem dX5_agree_40 : decode cX5_agree 40 = .ok (.istore 6, 2) := by decide +kernel
theorem dX5_agree_42 : decode cX5_agree 42 = .ok (.iconst 0, 1) := by decide +kernel
theorem dX5_agree_43 : decode cX5_agree 43 = .ok (.istore 7, 2) := by decide +kernel
theorem dX5_agree_45 : decode cX5_agree 45 = .ok (.iload 7, 2) := by decide +kernel
theorem dX5_agree_47 : decode cX5_agree 47 = .ok (.sipush 19999, 3) := by decide +kernel
theorem dX5_agree_50 : decode cX5_agree 50 = .ok (.if_icmp .gt 80, 3) := by decide +kernel
theorem dX5_agree_53 : decode cX5_agree 53 = .ok (.iload 6, 2) := by decide +kernel
theorem dX5_agree_55 : decode cX5_agree 55 = .ok (.sipush 19999, 3) := by decide +kernel
theorem dX5_agree_58 : decode cX5_agree 58 = .ok (.if_icmp .gt 72, 3) := by decide +kernel
theorem dX5_agree_61 : decode cX5_agree 61 = .ok (.aload_n 0, 1) := by decide +kernel
theorem dX5_agree_62 : decode cX5_agree 62 = .ok (.aload 4, 2) := by decide +kernel
theorem dX5_agree_64 : decode cX5_agree 64 = .ok (.aload 4, 2) := by decide +kernel
theorem dX5_agree_66 : decode cX5_agree 66 = .ok (.getfield 124, 3) := by decide +kernel
theorem dX5_agree_69 : decode cX5_agree 69 = .ok (.iload 6, 2) := by decide +kernel
theorem dX5_agree_71 : decode cX5_agree 71 = .ok (.invokevirtual 194, 3) := by decide +kernel
theorem dX5_agree_74 : decode cX5_agree 74 = .ok (.aload_n 0, 1) := by decide +kernel
theorem dX5_agree_75 : decode cX5_agree 75 = .ok (.aload 5, 2) := by decide +kernel
theorem dX5_agree_77 : decode cX5_agree 77 = .ok (.aload 5, 2) := by decide +kernel
theorem dX5_agree_79 : decode cX5_agree 79 = .ok (.getfield 124, 3) := by decide +kernel
theorem dX5_agree_82 : decode cX5_agree 82 = .ok (.iload 6, 2) := by decide +kernel
theorem dX5_agree_84 : decode cX5_agree 84 = .ok (.invokevirtual 194, 3) := by decide +kernel
theorem dX5_agree_87 : decode cX5_agree 87 = .ok (.if_icmp .ne 6, 3) := by decide +kernel
theorem dX5_agree_90 : decode cX5_agree 90 = .ok (.iload 6, 2) := by decide +kernel
theorem dX5_agree_92 : decode cX5_agree 92 = .ok (.ireturn, 1) := by decide +kernel
theorem dX5_agree_93 : decode cX5_agree 93 = .ok (.aload_n 0, 1) := by decide +kernel
theorem dX5_agree_94 : decode cX5_agree 94 = .ok (.aload 4, 2) := by decide +kernel
theorem dX5_agree_96 : decode cX5_agree 96 = .ok (.aload 4, 2) := by decide +kernel
theorem dX5_agree_98 : decode cX5_agree 98 = .ok (.getfield 124, 3) := by decide +kernel
theorem dX5_agree_101 : decode cX5_agree 101 = .ok (.iload 6, 2) := by decide +kernel
theorem dX5_agree_103 : decode cX5_agree 103 = .ok (.invokevirtual 198, 3) := by decide +kernel
theorem dX5_agree_106 : decode cX5_agree 106 = .ok (.aload_n 0, 1) := by decide +kernel
theorem dX5_agree_107 : decode cX5_agree 107 = .ok (.aload 5, 2) := by decide +kernel
theorem dX5_agree_109 : decode cX5_agree 109 = .ok (.aload 5, 2) := by decide +kernel
theorem dX5_agree_111 : decode cX5_agree 111 = .ok (.getfield 124, 3) := by decide +kernel
theorem dX5_agree_114 : decode cX5_agree 114 = .ok (.iload 6, 2) := by decide +kernel
theorem dX5_agree_116 : decode cX5_agree 116 = .ok (.invokevirtual 198, 3) := by decide +kernel
theorem dX5_agree_119 : decode cX5_agree 119 = .ok (.invokestatic 204, 3) := by decide +kernel
theorem dX5_agree_122 : decode cX5_agree 122 = .ok (.istore 6, 2) := by decide +kernel
theorem dX5_agree_124 : decode cX5_agree 124 = .ok (.iinc 7 1, 3) := by decide +kernel
theorem dX5_agree_127 : decode cX5_agree 127 = .ok (.goto (-82), 3) := by decide +kernel
theorem dX5_agree_130 : decode cX5_agree 130 = .ok (.bipush (-4), 2) := by decide +kernel
theorem dX5_agree_132 : decode cX5_agree 132 = .ok (.ireturn, 1) := by decide +kernel
theorem dX5_part_0 : decode cX5_part 0 = .ok (.aload_n 0, 1) := by decide +kernel
theorem dX5_part_1 : decode cX5_part 1 = .ok (.getfield 12, 3) := by decide +kernel
theorem dX5_part_4 : decode cX5_part 4 = .ok (.iload_n 1, 1) := by decide +kernel
theorem dX5_part_5 : decode cX5_part 5 = .ok (.invokevirtual 137, 3) := by decide +kernel
theorem dX5_part_8 : decode cX5_part 8 = .ok (.astore 5, 2) := by decide +kernel
theorem dX5_part_10 : decode cX5_part 10 = .ok (.aload 5, 2) := by decide +kernel
theorem dX5_part_12 : decode cX5_part 12 = .ok (.ifnull 30, 3) := by decide +kernel
theorem dX5_part_15 : decode cX5_part 15 = .ok (.iload_n 2, 1) := by decide +kernel
theorem dX5_part_16 : decode cX5_part 16 = .ok (.invokestatic 112, 3) := by decide +kernel
theorem dX5_part_19 : decode cX5_part 19 = .ok (.ifCond .eq 23, 3) := by decide +kernel
theorem dX5_part_22 : decode cX5_part 22 = .ok (.iload_n 3, 1) := by decide +kernel
theorem dX5_part_23 : decode cX5_part 23 = .ok (.invokestatic 112, 3) := by decide +kernel
theorem dX5_part_26 : decode cX5_part 26 = .ok (.ifCond .eq 16, 3) := by decide +kernel
theorem dX5_part_29 : decode cX5_part 29 = .ok (.iload_n 2, 1) := by decide +kernel
theorem dX5_part_30 : decode cX5_part 30 = .ok (.iload_n 3, 1) := by decide +kernel
theorem dX5_part_31 : decode cX5_part 31 = .ok (.if_icmp .eq 11, 3) := by decide +kernel
theorem dX5_part_34 : decode cX5_part 34 = .ok (.iload 4, 2) := by decide +kernel
theorem dX5_part_36 : decode cX5_part 36 = .ok (.invokestatic 96, 3) := by decide +kernel
theorem dX5_part_39 : decode cX5_part 39 = .ok (.ifCond .ne 5, 3) := by decide +kernel
theorem dX5_part_42 : decode cX5_part 42 = .ok (.iconst (-1), 1) := by decide +kernel
theorem dX5_part_43 : decode cX5_part 43 = .ok (.ireturn, 1) := by decide +kernel
theorem dX5_part_44 : decode cX5_part 44 = .ok (.iload 4, 2) := by decide +kernel
theorem dX5_part_46 : decode cX5_part 46 = .ok (.istore 6, 2) := by decide +kernel
theorem dX5_part_48 : decode cX5_part 48 = .ok (.iconst 0, 1) := by decide +kernel
theorem dX5_part_49 : decode cX5_part 49 = .ok (.istore 7, 2) := by decide +kernel
theorem dX5_part_51 : decode cX5_part 51 = .ok (.iload 7, 2) := by decide +kernel
theorem dX5_part_53 : decode cX5_part 53 = .ok (.sipush 19999, 3) := by decide +kernel
theorem dX5_part_56 : decode cX5_part 56 = .ok (.if_icmp .gt 64, 3) := by decide +kernel
theorem dX5_part_59 : decode cX5_part 59 = .ok (.iload 6, 2) := by decide +kernel
theorem dX5_part_61 : decode cX5_part 61 = .ok (.sipush 19999, 3) := by decide +kernel
theorem dX5_part_64 : decode cX5_part 64 = .ok (.if_icmp .gt 56, 3) := by decide +kernel
theorem dX5_part_67 : decode cX5_part 67 = .ok (.aload_n 0, 1) := by decide +kernel
theorem dX5_part_68 : decode cX5_part 68 = .ok (.aload 5, 2) := by decide +kernel
theorem dX5_part_70 : decode cX5_part 70 = .ok (.iload_n 2, 1) := by decide +kernel
theorem dX5_part_71 : decode cX5_part 71 = .ok (.iload 6, 2) := by decide +kernel
theorem dX5_part_73 : decode cX5_part 73 = .ok (.invokevirtual 194, 3) := by decide +kernel
theorem dX5_part_76 : decode cX5_part 76 = .ok (.aload_n 0, 1) := by decide +kernel
theorem dX5_part_77 : decode cX5_part 77 = .ok (.aload 5, 2) := by decide +kernel
theorem dX5_part_79 : decode cX5_part 79 = .ok (.iload_n 3, 1) := by decide +kernel
theorem dX5_part_80 : decode cX5_part 80 = .ok (.iload 6, 2) := by decide +kernel
theorem dX5_part_82 : decode cX5_part 82 = .ok (.invokevirtual 194, 3) := by decide +kernel
theorem dX5_part_85 : decode cX5_part 85 = .ok (.if_icmp .eq 6, 3) := by decide +kernel
theorem dX5_part_88 : decode cX5_part 88 = .ok (.iload 6, 2) := by decide +kernel
theorem dX5_part_90 : decode cX5_part 90 = .ok (.ireturn, 1) := by decide +kernel
theorem dX5_part_91 : decode cX5_part 91 = .ok (.aload_n 0, 1) := by decide +kernel
theorem dX5_part_92 : decode cX5_part 92 = .ok (.aload 5, 2) := by decide +kernel
theorem dX5_part_94 : decode cX5_part 94 = .ok (.iload_n 2, 1) := by decide +kernel
theorem dX5_part_95 : decode cX5_part 95 = .ok (.iload 6, 2) := by decide +kernel
theorem dX5_part_97 : decode cX5_part 97 = .ok (.invokevirtual 198, 3) := by decide +kernel
theorem dX5_part_100 : decode cX5_part 100 = .ok (.aload_n 0, 1) := by decide +kernel
theorem dX5_part_101 : decode cX5_part 101 = .ok (.aload 5, 2) := by decide +kernel
theorem dX5_part_103 : decode cX5_part 103 = .ok (.iload_n 3, 1) := by decide +kernel
theorem dX5_part_104 : decode cX5_part 104 = .ok (.iload 6, 2) := by decide +kernel
theorem dX5_part_106 : decode cX5_part 106 = .ok (.invokevirtual 198, 3) := by decide +kernel
theorem dX5_part_109 : decode cX5_part 109 = .ok (.invokestatic 204, 3) := by decide +kernel
theorem dX5_part_112 : decode cX5_part 112 = .ok (.istore 6, 2) := by decide +kernel
theorem dX5_part_114 : decode cX5_part 114 = .ok (.iinc 7 1, 3) := by decide +kernel
theorem dX5_part_117 : decode cX5_part 117 = .ok (.goto (-66), 3) := by decide +kernel
theorem dX5_part_120 : decode cX5_part 120 = .ok (.bipush (-4), 2) := by decide +kernel
theorem dX5_part_122 : decode cX5_part 122 = .ok (.ireturn, 1) := by decide +kernel
theorem dX5_wrong_0 : decode cX5_wrong 0 = .ok (.iload_n 1, 1) := by decide +kernel
theorem dX5_wrong_1 : decode cX5_wrong 1 = .ok (.invokestatic 89, 3) := by decide +kernel
theorem dX5_wrong_4 : decode cX5_wrong 4 = .ok (.ifCond .eq 10, 3) := by decide +kernel
theorem dX5_wrong_7 : decode cX5_wrong 7 = .ok (.iload_n 2, 1) := by decide +kernel
theorem dX5_wrong_8 : decode cX5_wrong 8 = .ok (.invokestatic 96, 3) := by decide +kernel
theorem dX5_wrong_11 : decode cX5_wrong 11 = .ok (.ifCond .ne 5, 3) := by decide +kernel
theorem dX5_wrong_14 : decode cX5_wrong 14 = .ok (.iconst (-1), 1) := by decide +kernel
theorem dX5_wrong_15 : decode cX5_wrong 15 = .ok (.ireturn, 1) := by decide +kernel
theorem dX5_wrong_16 : decode cX5_wrong 16 = .ok (.aload_n 0, 1) := by decide +kernel
theorem dX5_wrong_17 : decode cX5_wrong 17 = .ok (.getfield 12, 3) := by decide +kernel
theorem dX5_wrong_20 : decode cX5_wrong 20 = .ok (.iload_n 1, 1) := by decide +kernel
theorem dX5_wrong_21 : decode cX5_wrong 21 = .ok (.iload_n 2, 1) := by decide +kernel
theorem dX5_wrong_22 : decode cX5_wrong 22 = .ok (.invokevirtual 207, 3) := by decide +kernel
theorem dX5_wrong_25 : decode cX5_wrong 25 = .ok (.ireturn, 1) := by decide +kernel
theorem dX5_bestLine_0 : decode cX5_bestLine 0 = .ok (.iload_n 1, 1) := by decide +kernel
theorem dX5_bestLine_1 : decode cX5_bestLine 1 = .ok (.invokestatic 96, 3) := by decide +kernel
theorem dX5_bestLine_4 : decode cX5_bestLine 4 = .ok (.ifCond .eq 12, 3) := by decide +kernel
theorem dX5_bestLine_7 : decode cX5_bestLine 7 = .ok (.iload_n 2, 1) := by decide +kernel
theorem dX5_bestLine_8 : decode cX5_bestLine 8 = .ok (.ifCond .lt 8, 3) := by decide +kernel
theorem dX5_bestLine_11 : decode cX5_bestLine 11 = .ok (.iload_n 2, 1) := by decide +kernel
theorem dX5_bestLine_12 : decode cX5_bestLine 12 = .ok (.iconst 1, 1) := by decide +kernel
theorem dX5_bestLine_13 : decode cX5_bestLine 13 = .ok (.if_icmp .le 5, 3) := by decide +kernel
theorem dX5_bestLine_16 : decode cX5_bestLine 16 = .ok (.iconst (-1), 1) := by decide +kernel
theorem dX5_bestLine_17 : decode cX5_bestLine 17 = .ok (.ireturn, 1) := by decide +kernel
theorem dX5_bestLine_18 : decode cX5_bestLine 18 = .ok (.iconst 0, 1) := by decide +kernel
theorem dX5_bestLine_19 : decode cX5_bestLine 19 = .ok (.istore_n 3, 1) := by decide +kernel
theorem dX5_bestLine_20 : decode cX5_bestLine 20 = .ok (.aload_n 0, 1) := by decide +kernel
theorem dX5_bestLine_21 : decode cX5_bestLine 21 = .ok (.getfield 12, 3) := by decide +kernel
theorem dX5_bestLine_24 : decode cX5_bestLine 24 = .ok (.iconst 0, 1) := by decide +kernel
theorem dX5_bestLine_25 : decode cX5_bestLine 25 = .ok (.iload_n 1, 1) := by decide +kernel
theorem dX5_bestLine_26 : decode cX5_bestLine 26 = .ok (.invokevirtual 207, 3) := by decide +kernel
theorem dX5_bestLine_29 : decode cX5_bestLine 29 = .ok (.istore 4, 2) := by decide +kernel
theorem dX5_bestLine_31 : decode cX5_bestLine 31 = .ok (.bipush 15, 2) := by decide +kernel
theorem dX5_bestLine_33 : decode cX5_bestLine 33 = .ok (.istore 5, 2) := by decide +kernel
theorem dX5_bestLine_35 : decode cX5_bestLine 35 = .ok (.iload 5, 2) := by decide +kernel
theorem dX5_bestLine_37 : decode cX5_bestLine 37 = .ok (.sipush 360, 3) := by decide +kernel
theorem dX5_bestLine_40 : decode cX5_bestLine 40 = .ok (.if_icmp .ge 35, 3) := by decide +kernel
theorem dX5_bestLine_43 : decode cX5_bestLine 43 = .ok (.aload_n 0, 1) := by decide +kernel
theorem dX5_bestLine_44 : decode cX5_bestLine 44 = .ok (.getfield 12, 3) := by decide +kernel
theorem dX5_bestLine_47 : decode cX5_bestLine 47 = .ok (.iload 5, 2) := by decide +kernel
theorem dX5_bestLine_49 : decode cX5_bestLine 49 = .ok (.iload_n 1, 1) := by decide +kernel
theorem dX5_bestLine_50 : decode cX5_bestLine 50 = .ok (.invokevirtual 207, 3) := by decide +kernel
theorem dX5_bestLine_53 : decode cX5_bestLine 53 = .ok (.istore 6, 2) := by decide +kernel
theorem dX5_bestLine_55 : decode cX5_bestLine 55 = .ok (.iload 6, 2) := by decide +kernel
theorem dX5_bestLine_57 : decode cX5_bestLine 57 = .ok (.iload 4, 2) := by decide +kernel
theorem dX5_bestLine_59 : decode cX5_bestLine 59 = .ok (.if_icmp .ge 10, 3) := by decide +kernel
theorem dX5_bestLine_62 : decode cX5_bestLine 62 = .ok (.iload 5, 2) := by decide +kernel
theorem dX5_bestLine_64 : decode cX5_bestLine 64 = .ok (.istore_n 3, 1) := by decide +kernel
theorem dX5_bestLine_65 : decode cX5_bestLine 65 = .ok (.iload 6, 2) := by decide +kernel
theorem dX5_bestLine_67 : decode cX5_bestLine 67 = .ok (.istore 4, 2) := by decide +kernel
theorem dX5_bestLine_69 : decode cX5_bestLine 69 = .ok (.iinc 5 15, 3) := by decide +kernel
theorem dX5_bestLine_72 : decode cX5_bestLine 72 = .ok (.goto (-37), 3) := by decide +kernel
theorem dX5_bestLine_75 : decode cX5_bestLine 75 = .ok (.iload_n 2, 1) := by decide +kernel
theorem dX5_bestLine_76 : decode cX5_bestLine 76 = .ok (.ifCond .ne 7, 3) := by decide +kernel
theorem dX5_bestLine_79 : decode cX5_bestLine 79 = .ok (.iload_n 3, 1) := by decide +kernel
theorem dX5_bestLine_80 : decode cX5_bestLine 80 = .ok (.goto 5, 3) := by decide +kernel
theorem dX5_bestLine_83 : decode cX5_bestLine 83 = .ok (.iload 4, 2) := by decide +kernel
theorem dX5_bestLine_85 : decode cX5_bestLine 85 = .ok (.ireturn, 1) := by decide +kernel
theorem dX5_moved_0 : decode cX5_moved 0 = .ok (.iload_n 1, 1) := by decide +kernel
theorem dX5_moved_1 : decode cX5_moved 1 = .ok (.invokestatic 89, 3) := by decide +kernel
theorem dX5_moved_4 : decode cX5_moved 4 = .ok (.ifCond .eq 10, 3) := by decide +kernel
theorem dX5_moved_7 : decode cX5_moved 7 = .ok (.iload_n 2, 1) := by decide +kernel
theorem dX5_moved_8 : decode cX5_moved 8 = .ok (.invokestatic 96, 3) := by decide +kernel
theorem dX5_moved_11 : decode cX5_moved 11 = .ok (.ifCond .ne 5, 3) := by decide +kernel
theorem dX5_moved_14 : decode cX5_moved 14 = .ok (.iconst (-1), 1) := by decide +kernel
theorem dX5_moved_15 : decode cX5_moved 15 = .ok (.ireturn, 1) := by decide +kernel
theorem dX5_moved_16 : decode cX5_moved 16 = .ok (.iconst 0, 1) := by decide +kernel
theorem dX5_moved_17 : decode cX5_moved 17 = .ok (.istore_n 3, 1) := by decide +kernel
theorem dX5_moved_18 : decode cX5_moved 18 = .ok (.iconst 0, 1) := by decide +kernel
theorem dX5_moved_19 : decode cX5_moved 19 = .ok (.istore 4, 2) := by decide +kernel
theorem dX5_moved_21 : decode cX5_moved 21 = .ok (.iload 4, 2) := by decide +kernel
theorem dX5_moved_23 : decode cX5_moved 23 = .ok (.aload_n 0, 1) := by decide +kernel
theorem dX5_moved_24 : decode cX5_moved 24 = .ok (.getfield 12, 3) := by decide +kernel
theorem dX5_moved_27 : decode cX5_moved 27 = .ok (.getfield 210, 3) := by decide +kernel
theorem dX5_moved_30 : decode cX5_moved 30 = .ok (.if_icmp .ge 47, 3) := by decide +kernel
theorem dX5_moved_33 : decode cX5_moved 33 = .ok (.aload_n 0, 1) := by decide +kernel
theorem dX5_moved_34 : decode cX5_moved 34 = .ok (.getfield 12, 3) := by decide +kernel
theorem dX5_moved_37 : decode cX5_moved 37 = .ok (.iload 4, 2) := by decide +kernel
theorem dX5_moved_39 : decode cX5_moved 39 = .ok (.iload_n 2, 1) := by decide +kernel
theorem dX5_moved_40 : decode cX5_moved 40 = .ok (.iload_n 1, 1) := by decide +kernel
theorem dX5_moved_41 : decode cX5_moved 41 = .ok (.invokevirtual 99, 3) := by decide +kernel
theorem dX5_moved_44 : decode cX5_moved 44 = .ok (.aload_n 0, 1) := by decide +kernel
theorem dX5_moved_45 : decode cX5_moved 45 = .ok (.getfield 12, 3) := by decide +kernel
theorem dX5_moved_48 : decode cX5_moved 48 = .ok (.iload 4, 2) := by decide +kernel
theorem dX5_moved_50 : decode cX5_moved 50 = .ok (.iload_n 2, 1) := by decide +kernel
theorem dX5_moved_51 : decode cX5_moved 51 = .ok (.aload_n 0, 1) := by decide +kernel
theorem dX5_moved_52 : decode cX5_moved 52 = .ok (.getfield 12, 3) := by decide +kernel
theorem dX5_moved_55 : decode cX5_moved 55 = .ok (.getfield 92, 3) := by decide +kernel
theorem dX5_moved_58 : decode cX5_moved 58 = .ok (.invokevirtual 99, 3) := by decide +kernel
theorem dX5_moved_61 : decode cX5_moved 61 = .ok (.if_icmp .eq 10, 3) := by decide +kernel
theorem dX5_moved_64 : decode cX5_moved 64 = .ok (.iload_n 3, 1) := by decide +kernel
theorem dX5_moved_65 : decode cX5_moved 65 = .ok (.iconst 1, 1) := by decide +kernel
theorem dX5_moved_66 : decode cX5_moved 66 = .ok (.iload 4, 2) := by decide +kernel
theorem dX5_moved_68 : decode cX5_moved 68 = .ok (.ishl, 1) := by decide +kernel
theorem dX5_moved_69 : decode cX5_moved 69 = .ok (.ior, 1) := by decide +kernel
theorem dX5_moved_70 : decode cX5_moved 70 = .ok (.istore_n 3, 1) := by decide +kernel
theorem dX5_moved_71 : decode cX5_moved 71 = .ok (.iinc 4 1, 3) := by decide +kernel
theorem dX5_moved_74 : decode cX5_moved 74 = .ok (.goto (-53), 3) := by decide +kernel
theorem dX5_moved_77 : decode cX5_moved 77 = .ok (.iload_n 3, 1) := by decide +kernel
theorem dX5_moved_78 : decode cX5_moved 78 = .ok (.ireturn, 1) := by decide +kernel
theorem dX5_judge_0 : decode cX5_judge 0 = .ok (.aload_n 0, 1) := by decide +kernel
theorem dX5_judge_1 : decode cX5_judge 1 = .ok (.getfield 12, 3) := by decide +kernel
theorem dX5_judge_4 : decode cX5_judge 4 = .ok (.iload_n 1, 1) := by decide +kernel
theorem dX5_judge_5 : decode cX5_judge 5 = .ok (.invokevirtual 137, 3) := by decide +kernel
theorem dX5_judge_8 : decode cX5_judge 8 = .ok (.astore 5, 2) := by decide +kernel
theorem dX5_judge_10 : decode cX5_judge 10 = .ok (.aload_n 0, 1) := by decide +kernel
theorem dX5_judge_11 : decode cX5_judge 11 = .ok (.iload_n 2, 1) := by decide +kernel
theorem dX5_judge_12 : decode cX5_judge 12 = .ok (.invokevirtual 44, 3) := by decide +kernel
theorem dX5_judge_15 : decode cX5_judge 15 = .ok (.astore 6, 2) := by decide +kernel
theorem dX5_judge_17 : decode cX5_judge 17 = .ok (.aload 5, 2) := by decide +kernel
theorem dX5_judge_19 : decode cX5_judge 19 = .ok (.ifnull 29, 3) := by decide +kernel
theorem dX5_judge_22 : decode cX5_judge 22 = .ok (.aload 6, 2) := by decide +kernel
theorem dX5_judge_24 : decode cX5_judge 24 = .ok (.ifnull 24, 3) := by decide +kernel
theorem dX5_judge_27 : decode cX5_judge 27 = .ok (.iload_n 3, 1) := by decide +kernel
theorem dX5_judge_28 : decode cX5_judge 28 = .ok (.invokestatic 96, 3) := by decide +kernel
theorem dX5_judge_31 : decode cX5_judge 31 = .ok (.ifCond .eq 17, 3) := by decide +kernel
theorem dX5_judge_34 : decode cX5_judge 34 = .ok (.iload 4, 2) := by decide +kernel
theorem dX5_judge_36 : decode cX5_judge 36 = .ok (.iconst 1, 1) := by decide +kernel
theorem dX5_judge_37 : decode cX5_judge 37 = .ok (.if_icmp .lt 11, 3) := by decide +kernel
theorem dX5_judge_40 : decode cX5_judge 40 = .ok (.iload 4, 2) := by decide +kernel
theorem dX5_judge_42 : decode cX5_judge 42 = .ok (.sipush 9999, 3) := by decide +kernel
theorem dX5_judge_45 : decode cX5_judge 45 = .ok (.if_icmp .le 5, 3) := by decide +kernel
theorem dX5_judge_48 : decode cX5_judge 48 = .ok (.iconst (-1), 1) := by decide +kernel
theorem dX5_judge_49 : decode cX5_judge 49 = .ok (.ireturn, 1) := by decide +kernel
theorem dX5_judge_50 : decode cX5_judge 50 = .ok (.aload 6, 2) := by decide +kernel
theorem dX5_judge_52 : decode cX5_judge 52 = .ok (.getfield 213, 3) := by decide +kernel
theorem dX5_judge_55 : decode cX5_judge 55 = .ok (.ifCond .ne 9, 3) := by decide +kernel
theorem dX5_judge_58 : decode cX5_judge 58 = .ok (.aload 6, 2) := by decide +kernel
theorem dX5_judge_60 : decode cX5_judge 60 = .ok (.invokestatic 216, 3) := by decide +kernel
theorem dX5_judge_63 : decode cX5_judge 63 = .ok (.ireturn, 1) := by decide +kernel
theorem dX5_judge_64 : decode cX5_judge 64 = .ok (.aload 6, 2) := by decide +kernel
theorem dX5_judge_66 : decode cX5_judge 66 = .ok (.getfield 220, 3) := by decide +kernel
theorem dX5_judge_69 : decode cX5_judge 69 = .ok (.ifCond .le 23, 3) := by decide +kernel
theorem dX5_judge_72 : decode cX5_judge 72 = .ok (.iload_n 3, 1) := by decide +kernel
theorem dX5_judge_73 : decode cX5_judge 73 = .ok (.aload 6, 2) := by decide +kernel
theorem dX5_judge_75 : decode cX5_judge 75 = .ok (.getfield 220, 3) := by decide +kernel
theorem dX5_judge_78 : decode cX5_judge 78 = .ok (.iconst 1, 1) := by decide +kernel
theorem dX5_judge_79 : decode cX5_judge 79 = .ok (.isub, 1) := by decide +kernel
theorem dX5_judge_80 : decode cX5_judge 80 = .ok (.iload 4, 2) := by decide +kernel
theorem dX5_judge_82 : decode cX5_judge 82 = .ok (.imul, 1) := by decide +kernel
theorem dX5_judge_83 : decode cX5_judge 83 = .ok (.iadd, 1) := by decide +kernel
theorem dX5_judge_84 : decode cX5_judge 84 = .ok (.invokestatic 96, 3) := by decide +kernel
theorem dX5_judge_87 : decode cX5_judge 87 = .ok (.ifCond .ne 5, 3) := by decide +kernel
theorem dX5_judge_90 : decode cX5_judge 90 = .ok (.iconst (-1), 1) := by decide +kernel
theorem dX5_judge_91 : decode cX5_judge 91 = .ok (.ireturn, 1) := by decide +kernel
theorem dX5_judge_92 : decode cX5_judge 92 = .ok (.aload 6, 2) := by decide +kernel
theorem dX5_judge_94 : decode cX5_judge 94 = .ok (.invokevirtual 223, 3) := by decide +kernel
theorem dX5_judge_97 : decode cX5_judge 97 = .ok (.istore 7, 2) := by decide +kernel
theorem dX5_judge_99 : decode cX5_judge 99 = .ok (.iconst 0, 1) := by decide +kernel
theorem dX5_judge_100 : decode cX5_judge 100 = .ok (.istore 8, 2) := by decide +kernel
theorem dX5_judge_102 : decode cX5_judge 102 = .ok (.iload 8, 2) := by decide +kernel
theorem dX5_judge_104 : decode cX5_judge 104 = .ok (.aload 6, 2) := by decide +kernel
theorem dX5_judge_106 : decode cX5_judge 106 = .ok (.getfield 220, 3) := by decide +kernel
theorem dX5_judge_109 : decode cX5_judge 109 = .ok (.if_icmp .ge 52, 3) := by decide +kernel
theorem dX5_judge_112 : decode cX5_judge 112 = .ok (.aload 6, 2) := by decide +kernel
theorem dX5_judge_114 : decode cX5_judge 114 = .ok (.getfield 226, 3) := by decide +kernel
theorem dX5_judge_117 : decode cX5_judge 117 = .ok (.iload 8, 2) := by decide +kernel
theorem dX5_judge_119 : decode cX5_judge 119 = .ok (.iaload, 1) := by decide +kernel
theorem dX5_judge_120 : decode cX5_judge 120 = .ok (.istore 9, 2) := by decide +kernel
theorem dX5_judge_122 : decode cX5_judge 122 = .ok (.iload 9, 2) := by decide +kernel
theorem dX5_judge_124 : decode cX5_judge 124 = .ok (.iload 7, 2) := by decide +kernel
theorem dX5_judge_126 : decode cX5_judge 126 = .ok (.if_icmp .eq 29, 3) := by decide +kernel
theorem dX5_judge_129 : decode cX5_judge 129 = .ok (.iload 9, 2) := by decide +kernel
theorem dX5_judge_131 : decode cX5_judge 131 = .ok (.aload_n 0, 1) := by decide +kernel
theorem dX5_judge_132 : decode cX5_judge 132 = .ok (.aload 5, 2) := by decide +kernel
theorem dX5_judge_134 : decode cX5_judge 134 = .ok (.aload 5, 2) := by decide +kernel
theorem dX5_judge_136 : decode cX5_judge 136 = .ok (.getfield 124, 3) := by decide +kernel
theorem dX5_judge_139 : decode cX5_judge 139 = .ok (.iload_n 3, 1) := by decide +kernel
theorem dX5_judge_140 : decode cX5_judge 140 = .ok (.iload 8, 2) := by decide +kernel
theorem dX5_judge_142 : decode cX5_judge 142 = .ok (.iload 4, 2) := by decide +kernel
theorem dX5_judge_144 : decode cX5_judge 144 = .ok (.imul, 1) := by decide +kernel
theorem dX5_judge_145 : decode cX5_judge 145 = .ok (.iadd, 1) := by decide +kernel
theorem dX5_judge_146 : decode cX5_judge 146 = .ok (.invokevirtual 194, 3) := by decide +kernel
theorem dX5_judge_149 : decode cX5_judge 149 = .ok (.if_icmp .eq 6, 3) := by decide +kernel
theorem dX5_judge_152 : decode cX5_judge 152 = .ok (.iload 8, 2) := by decide +kernel
theorem dX5_judge_154 : decode cX5_judge 154 = .ok (.ireturn, 1) := by decide +kernel
theorem dX5_judge_155 : decode cX5_judge 155 = .ok (.iinc 8 1, 3) := by decide +kernel
theorem dX5_judge_158 : decode cX5_judge 158 = .ok (.goto (-56), 3) := by decide +kernel
theorem dX5_judge_161 : decode cX5_judge 161 = .ok (.bipush (-4), 2) := by decide +kernel
theorem dX5_judge_163 : decode cX5_judge 163 = .ok (.ireturn, 1) := by decide +kernel
theorem dX5_kept_0 : decode cX5_kept 0 = .ok (.aload_n 0, 1) := by decide +kernel
theorem dX5_kept_1 : decode cX5_kept 1 = .ok (.getfield 12, 3) := by decide +kernel
theorem dX5_kept_4 : decode cX5_kept 4 = .ok (.iload_n 1, 1) := by decide +kernel
theorem dX5_kept_5 : decode cX5_kept 5 = .ok (.invokevirtual 137, 3) := by decide +kernel
theorem dX5_kept_8 : decode cX5_kept 8 = .ok (.astore 4, 2) := by decide +kernel
theorem dX5_kept_10 : decode cX5_kept 10 = .ok (.aload_n 0, 1) := by decide +kernel
theorem dX5_kept_11 : decode cX5_kept 11 = .ok (.iload_n 2, 1) := by decide +kernel
theorem dX5_kept_12 : decode cX5_kept 12 = .ok (.invokevirtual 44, 3) := by decide +kernel
theorem dX5_kept_15 : decode cX5_kept 15 = .ok (.astore 5, 2) := by decide +kernel
theorem dX5_kept_17 : decode cX5_kept 17 = .ok (.aload 4, 2) := by decide +kernel
theorem dX5_kept_19 : decode cX5_kept 19 = .ok (.ifnull 15, 3) := by decide +kernel
theorem dX5_kept_22 : decode cX5_kept 22 = .ok (.aload 5, 2) := by decide +kernel
theorem dX5_kept_24 : decode cX5_kept 24 = .ok (.ifnull 10, 3) := by decide +kernel
theorem dX5_kept_27 : decode cX5_kept 27 = .ok (.iload_n 3, 1) := by decide +kernel
theorem dX5_kept_28 : decode cX5_kept 28 = .ok (.invokestatic 229, 3) := by decide +kernel
theorem dX5_kept_31 : decode cX5_kept 31 = .ok (.ifCond .ne 5, 3) := by decide +kernel
theorem dX5_kept_34 : decode cX5_kept 34 = .ok (.iconst (-1), 1) := by decide +kernel
theorem dX5_kept_35 : decode cX5_kept 35 = .ok (.ireturn, 1) := by decide +kernel
theorem dX5_kept_36 : decode cX5_kept 36 = .ok (.aload 5, 2) := by decide +kernel
theorem dX5_kept_38 : decode cX5_kept 38 = .ok (.invokestatic 232, 3) := by decide +kernel
theorem dX5_kept_41 : decode cX5_kept 41 = .ok (.istore 6, 2) := by decide +kernel
theorem dX5_kept_43 : decode cX5_kept 43 = .ok (.iload 6, 2) := by decide +kernel
theorem dX5_kept_45 : decode cX5_kept 45 = .ok (.ifCond .eq 6, 3) := by decide +kernel
theorem dX5_kept_48 : decode cX5_kept 48 = .ok (.iload 6, 2) := by decide +kernel
theorem dX5_kept_50 : decode cX5_kept 50 = .ok (.ireturn, 1) := by decide +kernel
theorem dX5_kept_51 : decode cX5_kept 51 = .ok (.aload_n 0, 1) := by decide +kernel
theorem dX5_kept_52 : decode cX5_kept 52 = .ok (.aload 4, 2) := by decide +kernel
theorem dX5_kept_54 : decode cX5_kept 54 = .ok (.aload 4, 2) := by decide +kernel
theorem dX5_kept_56 : decode cX5_kept 56 = .ok (.getfield 162, 3) := by decide +kernel
theorem dX5_kept_59 : decode cX5_kept 59 = .ok (.aload 5, 2) := by decide +kernel
theorem dX5_kept_61 : decode cX5_kept 61 = .ok (.iload_n 3, 1) := by decide +kernel
theorem dX5_kept_62 : decode cX5_kept 62 = .ok (.invokevirtual 235, 3) := by decide +kernel
theorem dX5_kept_65 : decode cX5_kept 65 = .ok (.ireturn, 1) := by decide +kernel
theorem dX5_rounds_0 : decode cX5_rounds 0 = .ok (.aload_n 0, 1) := by decide +kernel
theorem dX5_rounds_1 : decode cX5_rounds 1 = .ok (.getfield 12, 3) := by decide +kernel
theorem dX5_rounds_4 : decode cX5_rounds 4 = .ok (.iload_n 1, 1) := by decide +kernel
theorem dX5_rounds_5 : decode cX5_rounds 5 = .ok (.invokevirtual 137, 3) := by decide +kernel
theorem dX5_rounds_8 : decode cX5_rounds 8 = .ok (.astore_n 3, 1) := by decide +kernel
theorem dX5_rounds_9 : decode cX5_rounds 9 = .ok (.aload_n 3, 1) := by decide +kernel
theorem dX5_rounds_10 : decode cX5_rounds 10 = .ok (.ifnull 10, 3) := by decide +kernel
theorem dX5_rounds_13 : decode cX5_rounds 13 = .ok (.iload_n 2, 1) := by decide +kernel
theorem dX5_rounds_14 : decode cX5_rounds 14 = .ok (.invokestatic 96, 3) := by decide +kernel
theorem dX5_rounds_17 : decode cX5_rounds 17 = .ok (.ifCond .ne 6, 3) := by decide +kernel
theorem dX5_rounds_20 : decode cX5_rounds 20 = .ok (.ldc 72, 2) := by decide +kernel
theorem dX5_rounds_22 : decode cX5_rounds 22 = .ok (.ireturn, 1) := by decide +kernel
theorem dX5_rounds_23 : decode cX5_rounds 23 = .ok (.aload_n 0, 1) := by decide +kernel
theorem dX5_rounds_24 : decode cX5_rounds 24 = .ok (.aload_n 3, 1) := by decide +kernel
theorem dX5_rounds_25 : decode cX5_rounds 25 = .ok (.iload_n 2, 1) := by decide +kernel
theorem dX5_rounds_26 : decode cX5_rounds 26 = .ok (.invokevirtual 239, 3) := by decide +kernel
theorem dX5_rounds_29 : decode cX5_rounds 29 = .ok (.ireturn, 1) := by decide +kernel
theorem dX5_log_0 : decode cX5_log 0 = .ok (.aload_n 0, 1) := by decide +kernel
theorem dX5_log_1 : decode cX5_log 1 = .ok (.getfield 12, 3) := by decide +kernel
theorem dX5_log_4 : decode cX5_log 4 = .ok (.iload_n 1, 1) := by decide +kernel
theorem dX5_log_5 : decode cX5_log 5 = .ok (.invokevirtual 137, 3) := by decide +kernel
theorem dX5_log_8 : decode cX5_log 8 = .ok (.astore_n 3, 1) := by decide +kernel
theorem dX5_log_9 : decode cX5_log 9 = .ok (.aload_n 0, 1) := by decide +kernel
theorem dX5_log_10 : decode cX5_log 10 = .ok (.iload_n 2, 1) := by decide +kernel
theorem dX5_log_11 : decode cX5_log 11 = .ok (.invokevirtual 44, 3) := by decide +kernel
theorem dX5_log_14 : decode cX5_log 14 = .ok (.astore 4, 2) := by decide +kernel
theorem dX5_log_16 : decode cX5_log 16 = .ok (.aload_n 3, 1) := by decide +kernel
theorem dX5_log_17 : decode cX5_log 17 = .ok (.ifnull 8, 3) := by decide +kernel
theorem dX5_log_20 : decode cX5_log 20 = .ok (.aload 4, 2) := by decide +kernel
theorem dX5_log_22 : decode cX5_log 22 = .ok (.ifnonnull 5, 3) := by decide +kernel
theorem dX5_log_25 : decode cX5_log 25 = .ok (.iconst (-1), 1) := by decide +kernel
theorem dX5_log_26 : decode cX5_log 26 = .ok (.ireturn, 1) := by decide +kernel
theorem dX5_log_27 : decode cX5_log 27 = .ok (.aload 4, 2) := by decide +kernel
theorem dX5_log_29 : decode cX5_log 29 = .ok (.getfield 213, 3) := by decide +kernel
theorem dX5_log_32 : decode cX5_log 32 = .ok (.ifCond .ne 9, 3) := by decide +kernel
theorem dX5_log_35 : decode cX5_log 35 = .ok (.aload 4, 2) := by decide +kernel
theorem dX5_log_37 : decode cX5_log 37 = .ok (.invokestatic 216, 3) := by decide +kernel
theorem dX5_log_40 : decode cX5_log 40 = .ok (.ireturn, 1) := by decide +kernel
theorem dX5_log_41 : decode cX5_log 41 = .ok (.aload 4, 2) := by decide +kernel
theorem dX5_log_43 : decode cX5_log 43 = .ok (.invokestatic 243, 3) := by decide +kernel
theorem dX5_log_46 : decode cX5_log 46 = .ok (.ifCond .ne 6, 3) := by decide +kernel
theorem dX5_log_49 : decode cX5_log 49 = .ok (.bipush (-13), 2) := by decide +kernel
theorem dX5_log_51 : decode cX5_log 51 = .ok (.ireturn, 1) := by decide +kernel
theorem dX5_log_52 : decode cX5_log 52 = .ok (.bipush 127, 2) := by decide +kernel
theorem dX5_log_54 : decode cX5_log 54 = .ok (.istore 5, 2) := by decide +kernel
theorem dX5_log_56 : decode cX5_log 56 = .ok (.iconst 0, 1) := by decide +kernel
theorem dX5_log_57 : decode cX5_log 57 = .ok (.istore 6, 2) := by decide +kernel
theorem dX5_log_59 : decode cX5_log 59 = .ok (.iload 6, 2) := by decide +kernel
theorem dX5_log_61 : decode cX5_log 61 = .ok (.iconst 1, 1) := by decide +kernel
theorem dX5_log_62 : decode cX5_log 62 = .ok (.iadd, 1) := by decide +kernel
theorem dX5_log_63 : decode cX5_log 63 = .ok (.aload 4, 2) := by decide +kernel
theorem dX5_log_65 : decode cX5_log 65 = .ok (.getfield 220, 3) := by decide +kernel
theorem dX5_log_68 : decode cX5_log 68 = .ok (.if_icmp .ge 47, 3) := by decide +kernel
theorem dX5_log_71 : decode cX5_log 71 = .ok (.aload 4, 2) := by decide +kernel
theorem dX5_log_73 : decode cX5_log 73 = .ok (.iload 6, 2) := by decide +kernel
theorem dX5_log_75 : decode cX5_log 75 = .ok (.invokevirtual 247, 3) := by decide +kernel
theorem dX5_log_78 : decode cX5_log 78 = .ok (.ifCond .eq 31, 3) := by decide +kernel
theorem dX5_log_81 : decode cX5_log 81 = .ok (.iload 5, 2) := by decide +kernel
theorem dX5_log_83 : decode cX5_log 83 = .ok (.aload_n 0, 1) := by decide +kernel
theorem dX5_log_84 : decode cX5_log 84 = .ok (.aload_n 3, 1) := by decide +kernel
theorem dX5_log_85 : decode cX5_log 85 = .ok (.aload 4, 2) := by decide +kernel
theorem dX5_log_87 : decode cX5_log 87 = .ok (.getfield 226, 3) := by decide +kernel
theorem dX5_log_90 : decode cX5_log 90 = .ok (.iload 6, 2) := by decide +kernel
theorem dX5_log_92 : decode cX5_log 92 = .ok (.iaload, 1) := by decide +kernel
theorem dX5_log_93 : decode cX5_log 93 = .ok (.aload 4, 2) := by decide +kernel
theorem dX5_log_95 : decode cX5_log 95 = .ok (.getfield 226, 3) := by decide +kernel
theorem dX5_log_98 : decode cX5_log 98 = .ok (.iload 6, 2) := by decide +kernel
theorem dX5_log_100 : decode cX5_log 100 = .ok (.iconst 1, 1) := by decide +kernel
theorem dX5_log_101 : decode cX5_log 101 = .ok (.iadd, 1) := by decide +kernel
theorem dX5_log_102 : decode cX5_log 102 = .ok (.iaload, 1) := by decide +kernel
theorem dX5_log_103 : decode cX5_log 103 = .ok (.invokevirtual 250, 3) := by decide +kernel
theorem dX5_log_106 : decode cX5_log 106 = .ok (.iand, 1) := by decide +kernel
theorem dX5_log_107 : decode cX5_log 107 = .ok (.istore 5, 2) := by decide +kernel
theorem dX5_log_109 : decode cX5_log 109 = .ok (.iinc 6 2, 3) := by decide +kernel
theorem dX5_log_112 : decode cX5_log 112 = .ok (.goto (-53), 3) := by decide +kernel
theorem dX5_log_115 : decode cX5_log 115 = .ok (.iload 5, 2) := by decide +kernel
theorem dX5_log_117 : decode cX5_log 117 = .ok (.ireturn, 1) := by decide +kernel
theorem dX5_plan_0 : decode cX5_plan 0 = .ok (.aload_n 0, 1) := by decide +kernel
theorem dX5_plan_1 : decode cX5_plan 1 = .ok (.getfield 12, 3) := by decide +kernel
theorem dX5_plan_4 : decode cX5_plan 4 = .ok (.iload_n 1, 1) := by decide +kernel
theorem dX5_plan_5 : decode cX5_plan 5 = .ok (.invokevirtual 137, 3) := by decide +kernel
theorem dX5_plan_8 : decode cX5_plan 8 = .ok (.astore 4, 2) := by decide +kernel
theorem dX5_plan_10 : decode cX5_plan 10 = .ok (.aload_n 0, 1) := by decide +kernel
theorem dX5_plan_11 : decode cX5_plan 11 = .ok (.iload_n 2, 1) := by decide +kernel
theorem dX5_plan_12 : decode cX5_plan 12 = .ok (.invokevirtual 44, 3) := by decide +kernel
theorem dX5_plan_15 : decode cX5_plan 15 = .ok (.astore 5, 2) := by decide +kernel
theorem dX5_plan_17 : decode cX5_plan 17 = .ok (.aload 4, 2) := by decide +kernel
theorem dX5_plan_19 : decode cX5_plan 19 = .ok (.ifnull 15, 3) := by decide +kernel
theorem dX5_plan_22 : decode cX5_plan 22 = .ok (.aload 5, 2) := by decide +kernel
theorem dX5_plan_24 : decode cX5_plan 24 = .ok (.ifnull 10, 3) := by decide +kernel
theorem dX5_plan_27 : decode cX5_plan 27 = .ok (.iload_n 3, 1) := by decide +kernel
theorem dX5_plan_28 : decode cX5_plan 28 = .ok (.invokestatic 229, 3) := by decide +kernel
theorem dX5_plan_31 : decode cX5_plan 31 = .ok (.ifCond .ne 5, 3) := by decide +kernel
theorem dX5_plan_34 : decode cX5_plan 34 = .ok (.iconst (-1), 1) := by decide +kernel
theorem dX5_plan_35 : decode cX5_plan 35 = .ok (.ireturn, 1) := by decide +kernel
theorem dX5_plan_36 : decode cX5_plan 36 = .ok (.aload 5, 2) := by decide +kernel
theorem dX5_plan_38 : decode cX5_plan 38 = .ok (.invokestatic 232, 3) := by decide +kernel
theorem dX5_plan_41 : decode cX5_plan 41 = .ok (.istore 6, 2) := by decide +kernel
theorem dX5_plan_43 : decode cX5_plan 43 = .ok (.iload 6, 2) := by decide +kernel
theorem dX5_plan_45 : decode cX5_plan 45 = .ok (.ifCond .eq 6, 3) := by decide +kernel
theorem dX5_plan_48 : decode cX5_plan 48 = .ok (.iload 6, 2) := by decide +kernel
theorem dX5_plan_50 : decode cX5_plan 50 = .ok (.ireturn, 1) := by decide +kernel
theorem dX5_plan_51 : decode cX5_plan 51 = .ok (.aload_n 0, 1) := by decide +kernel
theorem dX5_plan_52 : decode cX5_plan 52 = .ok (.aload 4, 2) := by decide +kernel
theorem dX5_plan_54 : decode cX5_plan 54 = .ok (.aload 5, 2) := by decide +kernel
theorem dX5_plan_56 : decode cX5_plan 56 = .ok (.iload_n 3, 1) := by decide +kernel
theorem dX5_plan_57 : decode cX5_plan 57 = .ok (.invokevirtual 253, 3) := by decide +kernel
theorem dX5_plan_60 : decode cX5_plan 60 = .ok (.ireturn, 1) := by decide +kernel
theorem dX5_image_0 : decode cX5_image 0 = .ok (.aload_n 0, 1) := by decide +kernel
theorem dX5_image_1 : decode cX5_image 1 = .ok (.getfield 16, 3) := by decide +kernel
theorem dX5_image_4 : decode cX5_image 4 = .ok (.aload_n 0, 1) := by decide +kernel
theorem dX5_image_5 : decode cX5_image 5 = .ok (.getfield 12, 3) := by decide +kernel
theorem dX5_image_8 : decode cX5_image 8 = .ok (.invokevirtual 257, 3) := by decide +kernel
theorem dX5_image_11 : decode cX5_image 11 = .ok (.aload_n 0, 1) := by decide +kernel
theorem dX5_image_12 : decode cX5_image 12 = .ok (.getfield 16, 3) := by decide +kernel
theorem dX5_image_15 : decode cX5_image 15 = .ok (.aload_n 0, 1) := by decide +kernel
theorem dX5_image_16 : decode cX5_image 16 = .ok (.getfield 12, 3) := by decide +kernel
theorem dX5_image_19 : decode cX5_image 19 = .ok (.iconst 0, 1) := by decide +kernel
theorem dX5_image_20 : decode cX5_image 20 = .ok (.invokevirtual 261, 3) := by decide +kernel
theorem dX5_image_23 : decode cX5_image 23 = .ok (.aload_n 0, 1) := by decide +kernel
theorem dX5_image_24 : decode cX5_image 24 = .ok (.iconst 1, 1) := by decide +kernel
theorem dX5_image_25 : decode cX5_image 25 = .ok (.putfield 19, 3) := by decide +kernel
theorem dX5_image_28 : decode cX5_image 28 = .ok (.aload_n 0, 1) := by decide +kernel
theorem dX5_image_29 : decode cX5_image 29 = .ok (.getfield 16, 3) := by decide +kernel
theorem dX5_image_32 : decode cX5_image 32 = .ok (.getfield 115, 3) := by decide +kernel
theorem dX5_image_35 : decode cX5_image 35 = .ok (.ireturn, 1) := by decide +kernel
theorem dX5_restore_0 : decode cX5_restore 0 = .ok (.aload_n 0, 1) := by decide +kernel
theorem dX5_restore_1 : decode cX5_restore 1 = .ok (.getfield 19, 3) := by decide +kernel
theorem dX5_restore_4 : decode cX5_restore 4 = .ok (.ifCond .ne 6, 3) := by decide +kernel
theorem dX5_restore_7 : decode cX5_restore 7 = .ok (.bipush (-3), 2) := by decide +kernel
theorem dX5_restore_9 : decode cX5_restore 9 = .ok (.ireturn, 1) := by decide +kernel
theorem dX5_restore_10 : decode cX5_restore 10 = .ok (.aload_n 0, 1) := by decide +kernel
theorem dX5_restore_11 : decode cX5_restore 11 = .ok (.getfield 12, 3) := by decide +kernel
theorem dX5_restore_14 : decode cX5_restore 14 = .ok (.aload_n 0, 1) := by decide +kernel
theorem dX5_restore_15 : decode cX5_restore 15 = .ok (.getfield 16, 3) := by decide +kernel
theorem dX5_restore_18 : decode cX5_restore 18 = .ok (.invokevirtual 257, 3) := by decide +kernel
theorem dX5_restore_21 : decode cX5_restore 21 = .ok (.aload_n 0, 1) := by decide +kernel
theorem dX5_restore_22 : decode cX5_restore 22 = .ok (.getfield 12, 3) := by decide +kernel
theorem dX5_restore_25 : decode cX5_restore 25 = .ok (.aload_n 0, 1) := by decide +kernel
theorem dX5_restore_26 : decode cX5_restore 26 = .ok (.getfield 16, 3) := by decide +kernel
theorem dX5_restore_29 : decode cX5_restore 29 = .ok (.iconst 1, 1) := by decide +kernel
theorem dX5_restore_30 : decode cX5_restore 30 = .ok (.invokevirtual 261, 3) := by decide +kernel
theorem dX5_restore_33 : decode cX5_restore 33 = .ok (.aload_n 0, 1) := by decide +kernel
theorem dX5_restore_34 : decode cX5_restore 34 = .ok (.getfield 12, 3) := by decide +kernel
theorem dX5_restore_37 : decode cX5_restore 37 = .ok (.getfield 115, 3) := by decide +kernel
theorem dX5_restore_40 : decode cX5_restore 40 = .ok (.ireturn, 1) := by decide +kernel
theorem dX5_count_0 : decode cX5_count 0 = .ok (.iload_n 1, 1) := by decide +kernel
theorem dX5_count_1 : decode cX5_count 1 = .ok (.tableswitch 87 0 5 #[39, 47, 55, 63, 71, 79], 39) := by decide +kernel
theorem dX5_count_40 : decode cX5_count 40 = .ok (.aload_n 0, 1) := by decide +kernel
theorem dX5_count_41 : decode cX5_count 41 = .ok (.getfield 12, 3) := by decide +kernel
theorem dX5_count_44 : decode cX5_count 44 = .ok (.getfield 210, 3) := by decide +kernel
theorem dX5_count_47 : decode cX5_count 47 = .ok (.ireturn, 1) := by decide +kernel
theorem dX5_count_48 : decode cX5_count 48 = .ok (.aload_n 0, 1) := by decide +kernel
theorem dX5_count_49 : decode cX5_count 49 = .ok (.getfield 12, 3) := by decide +kernel
theorem dX5_count_52 : decode cX5_count 52 = .ok (.getfield 115, 3) := by decide +kernel
theorem dX5_count_55 : decode cX5_count 55 = .ok (.ireturn, 1) := by decide +kernel
theorem dX5_count_56 : decode cX5_count 56 = .ok (.aload_n 0, 1) := by decide +kernel
theorem dX5_count_57 : decode cX5_count 57 = .ok (.getfield 12, 3) := by decide +kernel
theorem dX5_count_60 : decode cX5_count 60 = .ok (.invokevirtual 265, 3) := by decide +kernel
theorem dX5_count_63 : decode cX5_count 63 = .ok (.ireturn, 1) := by decide +kernel
theorem dX5_count_64 : decode cX5_count 64 = .ok (.aload_n 0, 1) := by decide +kernel
theorem dX5_count_65 : decode cX5_count 65 = .ok (.getfield 12, 3) := by decide +kernel
theorem dX5_count_68 : decode cX5_count 68 = .ok (.getfield 92, 3) := by decide +kernel
theorem dX5_count_71 : decode cX5_count 71 = .ok (.ireturn, 1) := by decide +kernel
theorem dX5_count_72 : decode cX5_count 72 = .ok (.aload_n 0, 1) := by decide +kernel
theorem dX5_count_73 : decode cX5_count 73 = .ok (.getfield 12, 3) := by decide +kernel
theorem dX5_count_76 : decode cX5_count 76 = .ok (.invokevirtual 268, 3) := by decide +kernel
theorem dX5_count_79 : decode cX5_count 79 = .ok (.ireturn, 1) := by decide +kernel
theorem dX5_count_80 : decode cX5_count 80 = .ok (.aload_n 0, 1) := by decide +kernel
theorem dX5_count_81 : decode cX5_count 81 = .ok (.getfield 12, 3) := by decide +kernel
theorem dX5_count_84 : decode cX5_count 84 = .ok (.invokevirtual 271, 3) := by decide +kernel
theorem dX5_count_87 : decode cX5_count 87 = .ok (.ireturn, 1) := by decide +kernel
theorem dX5_count_88 : decode cX5_count 88 = .ok (.iconst (-1), 1) := by decide +kernel
theorem dX5_count_89 : decode cX5_count 89 = .ok (.ireturn, 1) := by decide +kernel
theorem dX5_keep_0 : decode cX5_keep 0 = .ok (.aload_n 0, 1) := by decide +kernel
theorem dX5_keep_1 : decode cX5_keep 1 = .ok (.iload_n 1, 1) := by decide +kernel
theorem dX5_keep_2 : decode cX5_keep 2 = .ok (.invokevirtual 44, 3) := by decide +kernel
theorem dX5_keep_5 : decode cX5_keep 5 = .ok (.astore 4, 2) := by decide +kernel
theorem dX5_keep_7 : decode cX5_keep 7 = .ok (.aload 4, 2) := by decide +kernel
theorem dX5_keep_9 : decode cX5_keep 9 = .ok (.ifnonnull 5, 3) := by decide +kernel
theorem dX5_keep_12 : decode cX5_keep 12 = .ok (.iconst (-1), 1) := by decide +kernel
theorem dX5_keep_13 : decode cX5_keep 13 = .ok (.ireturn, 1) := by decide +kernel
theorem dX5_keep_14 : decode cX5_keep 14 = .ok (.iload_n 2, 1) := by decide +kernel
theorem dX5_keep_15 : decode cX5_keep 15 = .ok (.ifCond .ne 11, 3) := by decide +kernel
theorem dX5_keep_18 : decode cX5_keep 18 = .ok (.aload 4, 2) := by decide +kernel
theorem dX5_keep_20 : decode cX5_keep 20 = .ok (.aconst_null, 1) := by decide +kernel
theorem dX5_keep_21 : decode cX5_keep 21 = .ok (.invokevirtual 274, 3) := by decide +kernel
theorem dX5_keep_24 : decode cX5_keep 24 = .ok (.iconst 0, 1) := by decide +kernel
theorem dX5_keep_25 : decode cX5_keep 25 = .ok (.ireturn, 1) := by decide +kernel
theorem dX5_keep_26 : decode cX5_keep 26 = .ok (.aload_n 0, 1) := by decide +kernel
theorem dX5_keep_27 : decode cX5_keep 27 = .ok (.getfield 12, 3) := by decide +kernel
theorem dX5_keep_30 : decode cX5_keep 30 = .ok (.iload_n 3, 1) := by decide +kernel
theorem dX5_keep_31 : decode cX5_keep 31 = .ok (.invokevirtual 137, 3) := by decide +kernel
theorem dX5_keep_34 : decode cX5_keep 34 = .ok (.astore 5, 2) := by decide +kernel
theorem dX5_keep_36 : decode cX5_keep 36 = .ok (.iload_n 2, 1) := by decide +kernel
theorem dX5_keep_37 : decode cX5_keep 37 = .ok (.iconst 1, 1) := by decide +kernel
theorem dX5_keep_38 : decode cX5_keep 38 = .ok (.if_icmp .ne 8, 3) := by decide +kernel
theorem dX5_keep_41 : decode cX5_keep 41 = .ok (.aload 5, 2) := by decide +kernel
theorem dX5_keep_43 : decode cX5_keep 43 = .ok (.ifnonnull 5, 3) := by decide +kernel
theorem dX5_keep_46 : decode cX5_keep 46 = .ok (.iconst (-1), 1) := by decide +kernel
theorem dX5_keep_47 : decode cX5_keep 47 = .ok (.ireturn, 1) := by decide +kernel
theorem dX5_keep_48 : decode cX5_keep 48 = .ok (.aload 4, 2) := by decide +kernel
theorem dX5_keep_50 : decode cX5_keep 50 = .ok (.aload 5, 2) := by decide +kernel
theorem dX5_keep_52 : decode cX5_keep 52 = .ok (.invokevirtual 274, 3) := by decide +kernel
theorem dX5_keep_55 : decode cX5_keep 55 = .ok (.iconst 0, 1) := by decide +kernel
theorem dX5_keep_56 : decode cX5_keep 56 = .ok (.ireturn, 1) := by decide +kernel
theorem dX5_row_0 : decode cX5_row 0 = .ok (.aload_n 0, 1) := by decide +kernel
theorem dX5_row_1 : decode cX5_row 1 = .ok (.iload_n 1, 1) := by decide +kernel
theorem dX5_row_2 : decode cX5_row 2 = .ok (.invokevirtual 44, 3) := by decide +kernel
theorem dX5_row_5 : decode cX5_row 5 = .ok (.astore 4, 2) := by decide +kernel
theorem dX5_row_7 : decode cX5_row 7 = .ok (.aload 4, 2) := by decide +kernel
theorem dX5_row_9 : decode cX5_row 9 = .ok (.ifnull 18, 3) := by decide +kernel
theorem dX5_row_12 : decode cX5_row 12 = .ok (.iload_n 2, 1) := by decide +kernel
theorem dX5_row_13 : decode cX5_row 13 = .ok (.ifCond .lt 14, 3) := by decide +kernel
theorem dX5_row_16 : decode cX5_row 16 = .ok (.iload_n 2, 1) := by decide +kernel
theorem dX5_row_17 : decode cX5_row 17 = .ok (.iconst 2, 1) := by decide +kernel
theorem dX5_row_18 : decode cX5_row 18 = .ok (.if_icmp .gt 9, 3) := by decide +kernel
theorem dX5_row_21 : decode cX5_row 21 = .ok (.iload_n 3, 1) := by decide +kernel
theorem dX5_row_22 : decode cX5_row 22 = .ok (.bipush 100, 2) := by decide +kernel
theorem dX5_row_24 : decode cX5_row 24 = .ok (.if_icmp .le 5, 3) := by decide +kernel
theorem dX5_row_27 : decode cX5_row 27 = .ok (.iconst (-1), 1) := by decide +kernel
theorem dX5_row_28 : decode cX5_row 28 = .ok (.ireturn, 1) := by decide +kernel
theorem dX5_row_29 : decode cX5_row 29 = .ok (.iload_n 3, 1) := by decide +kernel
theorem dX5_row_30 : decode cX5_row 30 = .ok (.ifCond .ge 6, 3) := by decide +kernel
theorem dX5_row_33 : decode cX5_row 33 = .ok (.bipush (-14), 2) := by decide +kernel
theorem dX5_row_35 : decode cX5_row 35 = .ok (.ireturn, 1) := by decide +kernel
theorem dX5_row_36 : decode cX5_row 36 = .ok (.aload 4, 2) := by decide +kernel
theorem dX5_row_38 : decode cX5_row 38 = .ok (.iload_n 2, 1) := by decide +kernel
theorem dX5_row_39 : decode cX5_row 39 = .ok (.iload_n 3, 1) := by decide +kernel
theorem dX5_row_40 : decode cX5_row 40 = .ok (.invokevirtual 278, 3) := by decide +kernel
theorem dX5_row_43 : decode cX5_row 43 = .ok (.iconst 0, 1) := by decide +kernel
theorem dX5_row_44 : decode cX5_row 44 = .ok (.ireturn, 1) := by decide +kernel
theorem dX5_put_0 : decode cX5_put 0 = .ok (.aload_n 0, 1) := by decide +kernel
theorem dX5_put_1 : decode cX5_put 1 = .ok (.iload_n 1, 1) := by decide +kernel
theorem dX5_put_2 : decode cX5_put 2 = .ok (.invokevirtual 44, 3) := by decide +kernel
theorem dX5_put_5 : decode cX5_put 5 = .ok (.astore 4, 2) := by decide +kernel
theorem dX5_put_7 : decode cX5_put 7 = .ok (.aload 4, 2) := by decide +kernel
theorem dX5_put_9 : decode cX5_put 9 = .ok (.ifnonnull 5, 3) := by decide +kernel
theorem dX5_put_12 : decode cX5_put 12 = .ok (.iconst (-1), 1) := by decide +kernel
theorem dX5_put_13 : decode cX5_put 13 = .ok (.ireturn, 1) := by decide +kernel
theorem dX5_put_14 : decode cX5_put 14 = .ok (.aload 4, 2) := by decide +kernel
theorem dX5_put_16 : decode cX5_put 16 = .ok (.getfield 213, 3) := by decide +kernel
theorem dX5_put_19 : decode cX5_put 19 = .ok (.ifCond .ne 9, 3) := by decide +kernel
theorem dX5_put_22 : decode cX5_put 22 = .ok (.aload 4, 2) := by decide +kernel
theorem dX5_put_24 : decode cX5_put 24 = .ok (.invokestatic 216, 3) := by decide +kernel
theorem dX5_put_27 : decode cX5_put 27 = .ok (.ireturn, 1) := by decide +kernel
theorem dX5_put_28 : decode cX5_put 28 = .ok (.aload 4, 2) := by decide +kernel
theorem dX5_put_30 : decode cX5_put 30 = .ok (.iload_n 2, 1) := by decide +kernel
theorem dX5_put_31 : decode cX5_put 31 = .ok (.invokevirtual 282, 3) := by decide +kernel
theorem dX5_put_34 : decode cX5_put 34 = .ok (.ifCond .ne 6, 3) := by decide +kernel
theorem dX5_put_37 : decode cX5_put 37 = .ok (.bipush (-13), 2) := by decide +kernel
theorem dX5_put_39 : decode cX5_put 39 = .ok (.ireturn, 1) := by decide +kernel
theorem dX5_put_40 : decode cX5_put 40 = .ok (.aload 4, 2) := by decide +kernel
theorem dX5_put_42 : decode cX5_put 42 = .ok (.getfield 226, 3) := by decide +kernel
theorem dX5_put_45 : decode cX5_put 45 = .ok (.iload_n 2, 1) := by decide +kernel
theorem dX5_put_46 : decode cX5_put 46 = .ok (.aload 4, 2) := by decide +kernel
theorem dX5_put_48 : decode cX5_put 48 = .ok (.iload_n 3, 1) := by decide +kernel
theorem dX5_put_49 : decode cX5_put 49 = .ok (.invokevirtual 285, 3) := by decide +kernel
theorem dX5_put_52 : decode cX5_put 52 = .ok (.iastore, 1) := by decide +kernel
theorem dX5_put_53 : decode cX5_put 53 = .ok (.iconst 0, 1) := by decide +kernel
theorem dX5_put_54 : decode cX5_put 54 = .ok (.ireturn, 1) := by decide +kernel
theorem dX5_element_0 : decode cX5_element 0 = .ok (.aload_n 0, 1) := by decide +kernel
theorem dX5_element_1 : decode cX5_element 1 = .ok (.iload_n 1, 1) := by decide +kernel
theorem dX5_element_2 : decode cX5_element 2 = .ok (.invokevirtual 44, 3) := by decide +kernel
theorem dX5_element_5 : decode cX5_element 5 = .ok (.astore_n 3, 1) := by decide +kernel
theorem dX5_element_6 : decode cX5_element 6 = .ok (.aload_n 3, 1) := by decide +kernel
theorem dX5_element_7 : decode cX5_element 7 = .ok (.ifnonnull 14, 3) := by decide +kernel
theorem dX5_element_10 : decode cX5_element 10 = .ok (.new 288, 3) := by decide +kernel
theorem dX5_element_13 : decode cX5_element 13 = .ok (.dup, 1) := by decide +kernel
theorem dX5_element_14 : decode cX5_element 14 = .ok (.ldc_w 290, 3) := by decide +kernel
theorem dX5_element_17 : decode cX5_element 17 = .ok (.invokespecial 292, 3) := by decide +kernel
theorem dX5_element_20 : decode cX5_element 20 = .ok (.athrow, 1) := by decide +kernel
theorem dX5_element_21 : decode cX5_element 21 = .ok (.aload_n 3, 1) := by decide +kernel
theorem dX5_element_22 : decode cX5_element 22 = .ok (.iload_n 2, 1) := by decide +kernel
theorem dX5_element_23 : decode cX5_element 23 = .ok (.invokevirtual 282, 3) := by decide +kernel
theorem dX5_element_26 : decode cX5_element 26 = .ok (.ifCond .ne 14, 3) := by decide +kernel
theorem dX5_element_29 : decode cX5_element 29 = .ok (.new 295, 3) := by decide +kernel
theorem dX5_element_32 : decode cX5_element 32 = .ok (.dup, 1) := by decide +kernel
theorem dX5_element_33 : decode cX5_element 33 = .ok (.ldc_w 297, 3) := by decide +kernel
theorem dX5_element_36 : decode cX5_element 36 = .ok (.invokespecial 299, 3) := by decide +kernel
theorem dX5_element_39 : decode cX5_element 39 = .ok (.athrow, 1) := by decide +kernel
theorem dX5_element_40 : decode cX5_element 40 = .ok (.aload_n 3, 1) := by decide +kernel
theorem dX5_element_41 : decode cX5_element 41 = .ok (.getfield 226, 3) := by decide +kernel
theorem dX5_element_44 : decode cX5_element 44 = .ok (.iload_n 2, 1) := by decide +kernel
theorem dX5_element_45 : decode cX5_element 45 = .ok (.iaload, 1) := by decide +kernel
theorem dX5_element_46 : decode cX5_element 46 = .ok (.i2l, 1) := by decide +kernel
theorem dX5_element_47 : decode cX5_element 47 = .ok (.lreturn, 1) := by decide +kernel
theorem dX5_copy_0 : decode cX5_copy 0 = .ok (.aload_n 0, 1) := by decide +kernel
theorem dX5_copy_1 : decode cX5_copy 1 = .ok (.iload_n 1, 1) := by decide +kernel
theorem dX5_copy_2 : decode cX5_copy 2 = .ok (.invokevirtual 44, 3) := by decide +kernel
theorem dX5_copy_5 : decode cX5_copy 5 = .ok (.astore 6, 2) := by decide +kernel
theorem dX5_copy_7 : decode cX5_copy 7 = .ok (.aload_n 0, 1) := by decide +kernel
theorem dX5_copy_8 : decode cX5_copy 8 = .ok (.iload_n 3, 1) := by decide +kernel
theorem dX5_copy_9 : decode cX5_copy 9 = .ok (.invokevirtual 44, 3) := by decide +kernel
theorem dX5_copy_12 : decode cX5_copy 12 = .ok (.astore 7, 2) := by decide +kernel
theorem dX5_copy_14 : decode cX5_copy 14 = .ok (.aload 6, 2) := by decide +kernel
theorem dX5_copy_16 : decode cX5_copy 16 = .ok (.ifnull 8, 3) := by decide +kernel
theorem dX5_copy_19 : decode cX5_copy 19 = .ok (.aload 7, 2) := by decide +kernel
theorem dX5_copy_21 : decode cX5_copy 21 = .ok (.ifnonnull 5, 3) := by decide +kernel
theorem dX5_copy_24 : decode cX5_copy 24 = .ok (.iconst (-1), 1) := by decide +kernel
theorem dX5_copy_25 : decode cX5_copy 25 = .ok (.ireturn, 1) := by decide +kernel
theorem dX5_copy_26 : decode cX5_copy 26 = .ok (.aload 6, 2) := by decide +kernel
theorem dX5_copy_28 : decode cX5_copy 28 = .ok (.invokevirtual 300, 3) := by decide +kernel
theorem dX5_copy_31 : decode cX5_copy 31 = .ok (.ifCond .ne 11, 3) := by decide +kernel
theorem dX5_copy_34 : decode cX5_copy 34 = .ok (.aload 7, 2) := by decide +kernel
theorem dX5_copy_36 : decode cX5_copy 36 = .ok (.invokevirtual 300, 3) := by decide +kernel
theorem dX5_copy_39 : decode cX5_copy 39 = .ok (.ifCond .eq 6, 3) := by decide +kernel
theorem dX5_copy_42 : decode cX5_copy 42 = .ok (.bipush (-11), 2) := by decide +kernel
theorem dX5_copy_44 : decode cX5_copy 44 = .ok (.ireturn, 1) := by decide +kernel
theorem dX5_copy_45 : decode cX5_copy 45 = .ok (.aload 6, 2) := by decide +kernel
theorem dX5_copy_47 : decode cX5_copy 47 = .ok (.getfield 213, 3) := by decide +kernel
theorem dX5_copy_50 : decode cX5_copy 50 = .ok (.ifCond .eq 24, 3) := by decide +kernel
theorem dX5_copy_53 : decode cX5_copy 53 = .ok (.aload 7, 2) := by decide +kernel
theorem dX5_copy_55 : decode cX5_copy 55 = .ok (.getfield 213, 3) := by decide +kernel
theorem dX5_copy_58 : decode cX5_copy 58 = .ok (.ifCond .eq 16, 3) := by decide +kernel
theorem dX5_copy_61 : decode cX5_copy 61 = .ok (.aload 6, 2) := by decide +kernel
theorem dX5_copy_63 : decode cX5_copy 63 = .ok (.getfield 303, 3) := by decide +kernel
theorem dX5_copy_66 : decode cX5_copy 66 = .ok (.aload 7, 2) := by decide +kernel
theorem dX5_copy_68 : decode cX5_copy 68 = .ok (.getfield 303, 3) := by decide +kernel
theorem dX5_copy_71 : decode cX5_copy 71 = .ok (.if_icmp .eq 6, 3) := by decide +kernel
theorem dX5_copy_74 : decode cX5_copy 74 = .ok (.bipush (-12), 2) := by decide +kernel
theorem dX5_copy_76 : decode cX5_copy 76 = .ok (.ireturn, 1) := by decide +kernel
theorem dX5_copy_77 : decode cX5_copy 77 = .ok (.aload 6, 2) := by decide +kernel
theorem dX5_copy_79 : decode cX5_copy 79 = .ok (.iload_n 2, 1) := by decide +kernel
theorem dX5_copy_80 : decode cX5_copy 80 = .ok (.iload 5, 2) := by decide +kernel
theorem dX5_copy_82 : decode cX5_copy 82 = .ok (.invokevirtual 306, 3) := by decide +kernel
theorem dX5_copy_85 : decode cX5_copy 85 = .ok (.ifCond .eq 15, 3) := by decide +kernel
theorem dX5_copy_88 : decode cX5_copy 88 = .ok (.aload 7, 2) := by decide +kernel
theorem dX5_copy_90 : decode cX5_copy 90 = .ok (.iload 4, 2) := by decide +kernel
theorem dX5_copy_92 : decode cX5_copy 92 = .ok (.iload 5, 2) := by decide +kernel
theorem dX5_copy_94 : decode cX5_copy 94 = .ok (.invokevirtual 306, 3) := by decide +kernel
theorem dX5_copy_97 : decode cX5_copy 97 = .ok (.ifCond .ne 6, 3) := by decide +kernel
theorem dX5_copy_100 : decode cX5_copy 100 = .ok (.bipush (-13), 2) := by decide +kernel
theorem dX5_copy_102 : decode cX5_copy 102 = .ok (.ireturn, 1) := by decide +kernel
theorem dX5_copy_103 : decode cX5_copy 103 = .ok (.aload 6, 2) := by decide +kernel
theorem dX5_copy_105 : decode cX5_copy 105 = .ok (.getfield 226, 3) := by decide +kernel
theorem dX5_copy_108 : decode cX5_copy 108 = .ok (.iload_n 2, 1) := by decide +kernel
theorem dX5_copy_109 : decode cX5_copy 109 = .ok (.aload 7, 2) := by decide +kernel
theorem dX5_copy_111 : decode cX5_copy 111 = .ok (.getfield 226, 3) := by decide +kernel
theorem dX5_copy_114 : decode cX5_copy 114 = .ok (.iload 4, 2) := by decide +kernel
theorem dX5_copy_116 : decode cX5_copy 116 = .ok (.iload 5, 2) := by decide +kernel
theorem dX5_copy_118 : decode cX5_copy 118 = .ok (.invokestatic 310, 3) := by decide +kernel
theorem dX5_copy_121 : decode cX5_copy 121 = .ok (.iload 5, 2) := by decide +kernel
theorem dX5_copy_123 : decode cX5_copy 123 = .ok (.ireturn, 1) := by decide +kernel
theorem dX5_weight_0 : decode cX5_weight 0 = .ok (.aload_n 0, 1) := by decide +kernel
theorem dX5_weight_1 : decode cX5_weight 1 = .ok (.iload_n 1, 1) := by decide +kernel
theorem dX5_weight_2 : decode cX5_weight 2 = .ok (.invokevirtual 44, 3) := by decide +kernel
theorem dX5_weight_5 : decode cX5_weight 5 = .ok (.astore_n 2, 1) := by decide +kernel
theorem dX5_weight_6 : decode cX5_weight 6 = .ok (.aload_n 2, 1) := by decide +kernel
theorem dX5_weight_7 : decode cX5_weight 7 = .ok (.ifnonnull 5, 3) := by decide +kernel
theorem dX5_weight_10 : decode cX5_weight 10 = .ok (.iconst (-1), 1) := by decide +kernel
theorem dX5_weight_11 : decode cX5_weight 11 = .ok (.ireturn, 1) := by decide +kernel
theorem dX5_weight_12 : decode cX5_weight 12 = .ok (.aload_n 2, 1) := by decide +kernel
theorem dX5_weight_13 : decode cX5_weight 13 = .ok (.getfield 316, 3) := by decide +kernel
theorem dX5_weight_16 : decode cX5_weight 16 = .ok (.ifnonnull 8, 3) := by decide +kernel
theorem dX5_weight_19 : decode cX5_weight 19 = .ok (.aload_n 2, 1) := by decide +kernel
theorem dX5_weight_20 : decode cX5_weight 20 = .ok (.invokestatic 320, 3) := by decide +kernel
theorem dX5_weight_23 : decode cX5_weight 23 = .ok (.ireturn, 1) := by decide +kernel
theorem dX5_weight_24 : decode cX5_weight 24 = .ok (.aload_n 2, 1) := by decide +kernel
theorem dX5_weight_25 : decode cX5_weight 25 = .ok (.getfield 316, 3) := by decide +kernel
theorem dX5_weight_28 : decode cX5_weight 28 = .ok (.aload_n 2, 1) := by decide +kernel
theorem dX5_weight_29 : decode cX5_weight 29 = .ok (.getfield 316, 3) := by decide +kernel
theorem dX5_weight_32 : decode cX5_weight 32 = .ok (.getfield 124, 3) := by decide +kernel
theorem dX5_weight_35 : decode cX5_weight 35 = .ok (.invokevirtual 323, 3) := by decide +kernel
theorem dX5_weight_38 : decode cX5_weight 38 = .ok (.ireturn, 1) := by decide +kernel
theorem dX5_toss_0 : decode cX5_toss 0 = .ok (.aload_n 0, 1) := by decide +kernel
theorem dX5_toss_1 : decode cX5_toss 1 = .ok (.iload_n 1, 1) := by decide +kernel
theorem dX5_toss_2 : decode cX5_toss 2 = .ok (.invokevirtual 44, 3) := by decide +kernel
theorem dX5_toss_5 : decode cX5_toss 5 = .ok (.astore_n 2, 1) := by decide +kernel
theorem dX5_toss_6 : decode cX5_toss 6 = .ok (.aload_n 2, 1) := by decide +kernel
theorem dX5_toss_7 : decode cX5_toss 7 = .ok (.ifnonnull 5, 3) := by decide +kernel
theorem dX5_toss_10 : decode cX5_toss 10 = .ok (.iconst (-1), 1) := by decide +kernel
theorem dX5_toss_11 : decode cX5_toss 11 = .ok (.ireturn, 1) := by decide +kernel
theorem dX5_toss_12 : decode cX5_toss 12 = .ok (.aload_n 2, 1) := by decide +kernel
theorem dX5_toss_13 : decode cX5_toss 13 = .ok (.getfield 316, 3) := by decide +kernel
theorem dX5_toss_16 : decode cX5_toss 16 = .ok (.astore_n 3, 1) := by decide +kernel
theorem dX5_toss_17 : decode cX5_toss 17 = .ok (.aload_n 3, 1) := by decide +kernel
theorem dX5_toss_18 : decode cX5_toss 18 = .ok (.ifnonnull 8, 3) := by decide +kernel
theorem dX5_toss_21 : decode cX5_toss 21 = .ok (.aload_n 2, 1) := by decide +kernel
theorem dX5_toss_22 : decode cX5_toss 22 = .ok (.invokestatic 320, 3) := by decide +kernel
theorem dX5_toss_25 : decode cX5_toss 25 = .ok (.ireturn, 1) := by decide +kernel
theorem dX5_toss_26 : decode cX5_toss 26 = .ok (.aload_n 3, 1) := by decide +kernel
theorem dX5_toss_27 : decode cX5_toss 27 = .ok (.invokestatic 326, 3) := by decide +kernel
theorem dX5_toss_30 : decode cX5_toss 30 = .ok (.goto 31, 3) := by decide +kernel
theorem dX5_toss_33 : decode cX5_toss 33 = .ok (.astore 4, 2) := by decide +kernel
theorem dX5_toss_35 : decode cX5_toss 35 = .ok (.aload_n 3, 1) := by decide +kernel
theorem dX5_toss_36 : decode cX5_toss 36 = .ok (.getfield 121, 3) := by decide +kernel
theorem dX5_toss_39 : decode cX5_toss 39 = .ok (.ireturn, 1) := by decide +kernel
theorem dX5_toss_40 : decode cX5_toss 40 = .ok (.astore 4, 2) := by decide +kernel
theorem dX5_toss_42 : decode cX5_toss 42 = .ok (.bipush 100, 2) := by decide +kernel
theorem dX5_toss_44 : decode cX5_toss 44 = .ok (.aload_n 3, 1) := by decide +kernel
theorem dX5_toss_45 : decode cX5_toss 45 = .ok (.getfield 121, 3) := by decide +kernel
theorem dX5_toss_48 : decode cX5_toss 48 = .ok (.iadd, 1) := by decide +kernel
theorem dX5_toss_49 : decode cX5_toss 49 = .ok (.ireturn, 1) := by decide +kernel
theorem dX5_toss_50 : decode cX5_toss 50 = .ok (.astore 4, 2) := by decide +kernel
theorem dX5_toss_52 : decode cX5_toss 52 = .ok (.sipush 200, 3) := by decide +kernel
theorem dX5_toss_55 : decode cX5_toss 55 = .ok (.aload_n 3, 1) := by decide +kernel
theorem dX5_toss_56 : decode cX5_toss 56 = .ok (.getfield 130, 3) := by decide +kernel
theorem dX5_toss_59 : decode cX5_toss 59 = .ok (.iadd, 1) := by decide +kernel
theorem dX5_toss_60 : decode cX5_toss 60 = .ok (.ireturn, 1) := by decide +kernel
theorem dX5_toss_61 : decode cX5_toss 61 = .ok (.bipush (-15), 2) := by decide +kernel
theorem dX5_toss_63 : decode cX5_toss 63 = .ok (.ireturn, 1) := by decide +kernel
theorem dX5_isMinute_0 : decode cX5_isMinute 0 = .ok (.iload_n 0, 1) := by decide +kernel
theorem dX5_isMinute_1 : decode cX5_isMinute 1 = .ok (.ifCond .lt 14, 3) := by decide +kernel
theorem dX5_isMinute_4 : decode cX5_isMinute 4 = .ok (.iload_n 0, 1) := by decide +kernel
theorem dX5_isMinute_5 : decode cX5_isMinute 5 = .ok (.sipush 19999, 3) := by decide +kernel
theorem dX5_isMinute_8 : decode cX5_isMinute 8 = .ok (.if_icmp .gt 7, 3) := by decide +kernel
theorem dX5_isMinute_11 : decode cX5_isMinute 11 = .ok (.iconst 1, 1) := by decide +kernel
theorem dX5_isMinute_12 : decode cX5_isMinute 12 = .ok (.goto 4, 3) := by decide +kernel
theorem dX5_isMinute_15 : decode cX5_isMinute 15 = .ok (.iconst 0, 1) := by decide +kernel
theorem dX5_isMinute_16 : decode cX5_isMinute 16 = .ok (.ireturn, 1) := by decide +kernel
theorem dX5_isDegree_0 : decode cX5_isDegree 0 = .ok (.iload_n 0, 1) := by decide +kernel
theorem dX5_isDegree_1 : decode cX5_isDegree 1 = .ok (.ifCond .lt 14, 3) := by decide +kernel
theorem dX5_isDegree_4 : decode cX5_isDegree 4 = .ok (.iload_n 0, 1) := by decide +kernel
theorem dX5_isDegree_5 : decode cX5_isDegree 5 = .ok (.sipush 360, 3) := by decide +kernel
theorem dX5_isDegree_8 : decode cX5_isDegree 8 = .ok (.if_icmp .ge 7, 3) := by decide +kernel
theorem dX5_isDegree_11 : decode cX5_isDegree 11 = .ok (.iconst 1, 1) := by decide +kernel
theorem dX5_isDegree_12 : decode cX5_isDegree 12 = .ok (.goto 4, 3) := by decide +kernel
theorem dX5_isDegree_15 : decode cX5_isDegree 15 = .ok (.iconst 0, 1) := by decide +kernel
theorem dX5_isDegree_16 : decode cX5_isDegree 16 = .ok (.ireturn, 1) := by decide +kernel
theorem dX5_isKind_0 : decode cX5_isKind 0 = .ok (.iload_n 0, 1) := by decide +kernel
theorem dX5_isKind_1 : decode cX5_isKind 1 = .ok (.ifCond .lt 13, 3) := by decide +kernel
theorem dX5_isKind_4 : decode cX5_isKind 4 = .ok (.iload_n 0, 1) := by decide +kernel
theorem dX5_isKind_5 : decode cX5_isKind 5 = .ok (.bipush 7, 2) := by decide +kernel
theorem dX5_isKind_7 : decode cX5_isKind 7 = .ok (.if_icmp .gt 7, 3) := by decide +kernel
theorem dX5_isKind_10 : decode cX5_isKind 10 = .ok (.iconst 1, 1) := by decide +kernel
theorem dX5_isKind_11 : decode cX5_isKind 11 = .ok (.goto 4, 3) := by decide +kernel
theorem dX5_isKind_14 : decode cX5_isKind 14 = .ok (.iconst 0, 1) := by decide +kernel
theorem dX5_isKind_15 : decode cX5_isKind 15 = .ok (.ireturn, 1) := by decide +kernel
theorem dX5_isRestDay_0 : decode cX5_isRestDay 0 = .ok (.iload_n 0, 1) := by decide +kernel
theorem dX5_isRestDay_1 : decode cX5_isRestDay 1 = .ok (.ifCond .lt 13, 3) := by decide +kernel
theorem dX5_isRestDay_4 : decode cX5_isRestDay 4 = .ok (.iload_n 0, 1) := by decide +kernel
theorem dX5_isRestDay_5 : decode cX5_isRestDay 5 = .ok (.bipush 6, 2) := by decide +kernel
theorem dX5_isRestDay_7 : decode cX5_isRestDay 7 = .ok (.if_icmp .gt 7, 3) := by decide +kernel
theorem dX5_isRestDay_10 : decode cX5_isRestDay 10 = .ok (.iconst 1, 1) := by decide +kernel
theorem dX5_isRestDay_11 : decode cX5_isRestDay 11 = .ok (.goto 4, 3) := by decide +kernel
theorem dX5_isRestDay_14 : decode cX5_isRestDay 14 = .ok (.iconst 0, 1) := by decide +kernel
theorem dX5_isRestDay_15 : decode cX5_isRestDay 15 = .ok (.ireturn, 1) := by decide +kernel
theorem dX5_minuteOrNone_0 : decode cX5_minuteOrNone 0 = .ok (.iload_n 0, 1) := by decide +kernel
theorem dX5_minuteOrNone_1 : decode cX5_minuteOrNone 1 = .ok (.sipush 19999, 3) := by decide +kernel
theorem dX5_minuteOrNone_4 : decode cX5_minuteOrNone 4 = .ok (.if_icmp .le 8, 3) := by decide +kernel
theorem dX5_minuteOrNone_7 : decode cX5_minuteOrNone 7 = .ok (.bipush (-4), 2) := by decide +kernel
theorem dX5_minuteOrNone_9 : decode cX5_minuteOrNone 9 = .ok (.goto 4, 3) := by decide +kernel
theorem dX5_minuteOrNone_12 : decode cX5_minuteOrNone 12 = .ok (.iload_n 0, 1) := by decide +kernel
theorem dX5_minuteOrNone_13 : decode cX5_minuteOrNone 13 = .ok (.ireturn, 1) := by decide +kernel
theorem dX5_commonDivisor_0 : decode cX5_commonDivisor 0 = .ok (.lload_n 2, 1) := by decide +kernel
theorem dX5_commonDivisor_1 : decode cX5_commonDivisor 1 = .ok (.lstore 4, 2) := by decide +kernel
theorem dX5_commonDivisor_3 : decode cX5_commonDivisor 3 = .ok (.lload_n 0, 1) := by decide +kernel
theorem dX5_commonDivisor_4 : decode cX5_commonDivisor 4 = .ok (.lstore 6, 2) := by decide +kernel
theorem dX5_commonDivisor_6 : decode cX5_commonDivisor 6 = .ok (.iconst 0, 1) := by decide +kernel
theorem dX5_commonDivisor_7 : decode cX5_commonDivisor 7 = .ok (.istore 8, 2) := by decide +kernel
theorem dX5_commonDivisor_9 : decode cX5_commonDivisor 9 = .ok (.iload 8, 2) := by decide +kernel
theorem dX5_commonDivisor_11 : decode cX5_commonDivisor 11 = .ok (.bipush 100, 2) := by decide +kernel
theorem dX5_commonDivisor_13 : decode cX5_commonDivisor 13 = .ok (.if_icmp .ge 31, 3) := by decide +kernel
theorem dX5_commonDivisor_16 : decode cX5_commonDivisor 16 = .ok (.lload 6, 2) := by decide +kernel
theorem dX5_commonDivisor_18 : decode cX5_commonDivisor 18 = .ok (.lconst 0, 1) := by decide +kernel
theorem dX5_commonDivisor_19 : decode cX5_commonDivisor 19 = .ok (.lcmp, 1) := by decide +kernel
theorem dX5_commonDivisor_20 : decode cX5_commonDivisor 20 = .ok (.ifCond .eq 24, 3) := by decide +kernel
theorem dX5_commonDivisor_23 : decode cX5_commonDivisor 23 = .ok (.lload 4, 2) := by decide +kernel
theorem dX5_commonDivisor_25 : decode cX5_commonDivisor 25 = .ok (.lload 6, 2) := by decide +kernel
theorem dX5_commonDivisor_27 : decode cX5_commonDivisor 27 = .ok (.lrem, 1) := by decide +kernel
theorem dX5_commonDivisor_28 : decode cX5_commonDivisor 28 = .ok (.lstore 9, 2) := by decide +kernel
theorem dX5_commonDivisor_30 : decode cX5_commonDivisor 30 = .ok (.lload 6, 2) := by decide +kernel
theorem dX5_commonDivisor_32 : decode cX5_commonDivisor 32 = .ok (.lstore 4, 2) := by decide +kernel
theorem dX5_commonDivisor_34 : decode cX5_commonDivisor 34 = .ok (.lload 9, 2) := by decide +kernel
theorem dX5_commonDivisor_36 : decode cX5_commonDivisor 36 = .ok (.lstore 6, 2) := by decide +kernel
theorem dX5_commonDivisor_38 : decode cX5_commonDivisor 38 = .ok (.iinc 8 1, 3) := by decide +kernel
theorem dX5_commonDivisor_41 : decode cX5_commonDivisor 41 = .ok (.goto (-32), 3) := by decide +kernel
theorem dX5_commonDivisor_44 : decode cX5_commonDivisor 44 = .ok (.lload 4, 2) := by decide +kernel
theorem dX5_commonDivisor_46 : decode cX5_commonDivisor 46 = .ok (.lconst 0, 1) := by decide +kernel
theorem dX5_commonDivisor_47 : decode cX5_commonDivisor 47 = .ok (.lcmp, 1) := by decide +kernel
theorem dX5_commonDivisor_48 : decode cX5_commonDivisor 48 = .ok (.ifCond .ne 7, 3) := by decide +kernel
theorem dX5_commonDivisor_51 : decode cX5_commonDivisor 51 = .ok (.lconst 1, 1) := by decide +kernel
theorem dX5_commonDivisor_52 : decode cX5_commonDivisor 52 = .ok (.goto 5, 3) := by decide +kernel
theorem dX5_commonDivisor_55 : decode cX5_commonDivisor 55 = .ok (.lload 4, 2) := by decide +kernel
theorem dX5_commonDivisor_57 : decode cX5_commonDivisor 57 = .ok (.lreturn, 1) := by decide +kernel
theorem dX5_shelfOf_0 : decode cX5_shelfOf 0 = .ok (.iload_n 1, 1) := by decide +kernel
theorem dX5_shelfOf_1 : decode cX5_shelfOf 1 = .ok (.ifCond .lt 18, 3) := by decide +kernel
theorem dX5_shelfOf_4 : decode cX5_shelfOf 4 = .ok (.iload_n 1, 1) := by decide +kernel
theorem dX5_shelfOf_5 : decode cX5_shelfOf 5 = .ok (.bipush 8, 2) := by decide +kernel
theorem dX5_shelfOf_7 : decode cX5_shelfOf 7 = .ok (.if_icmp .ge 12, 3) := by decide +kernel
theorem dX5_shelfOf_10 : decode cX5_shelfOf 10 = .ok (.aload_n 0, 1) := by decide +kernel
theorem dX5_shelfOf_11 : decode cX5_shelfOf 11 = .ok (.getfield 25, 3) := by decide +kernel
theorem dX5_shelfOf_14 : decode cX5_shelfOf 14 = .ok (.iload_n 1, 1) := by decide +kernel
theorem dX5_shelfOf_15 : decode cX5_shelfOf 15 = .ok (.aaload, 1) := by decide +kernel
theorem dX5_shelfOf_16 : decode cX5_shelfOf 16 = .ok (.goto 4, 3) := by decide +kernel
theorem dX5_shelfOf_19 : decode cX5_shelfOf 19 = .ok (.aconst_null, 1) := by decide +kernel
theorem dX5_shelfOf_20 : decode cX5_shelfOf 20 = .ok (.areturn, 1) := by decide +kernel
theorem dX5_refusalOfRow_0 : decode cX5_refusalOfRow 0 = .ok (.aload_n 0, 1) := by decide +kernel
theorem dX5_refusalOfRow_1 : decode cX5_refusalOfRow 1 = .ok (.getfield 213, 3) := by decide +kernel
theorem dX5_refusalOfRow_4 : decode cX5_refusalOfRow 4 = .ok (.ifCond .eq 5, 3) := by decide +kernel
theorem dX5_refusalOfRow_7 : decode cX5_refusalOfRow 7 = .ok (.iconst 0, 1) := by decide +kernel
theorem dX5_refusalOfRow_8 : decode cX5_refusalOfRow 8 = .ok (.ireturn, 1) := by decide +kernel
theorem dX5_refusalOfRow_9 : decode cX5_refusalOfRow 9 = .ok (.aload_n 0, 1) := by decide +kernel
theorem dX5_refusalOfRow_10 : decode cX5_refusalOfRow 10 = .ok (.invokevirtual 300, 3) := by decide +kernel
theorem dX5_refusalOfRow_13 : decode cX5_refusalOfRow 13 = .ok (.ifCond .eq 8, 3) := by decide +kernel
theorem dX5_refusalOfRow_16 : decode cX5_refusalOfRow 16 = .ok (.bipush (-11), 2) := by decide +kernel
theorem dX5_refusalOfRow_18 : decode cX5_refusalOfRow 18 = .ok (.goto 5, 3) := by decide +kernel
theorem dX5_refusalOfRow_21 : decode cX5_refusalOfRow 21 = .ok (.bipush (-12), 2) := by decide +kernel
theorem dX5_refusalOfRow_23 : decode cX5_refusalOfRow 23 = .ok (.ireturn, 1) := by decide +kernel
theorem dX5_refusalOfSort_0 : decode cX5_refusalOfSort 0 = .ok (.aload_n 0, 1) := by decide +kernel
theorem dX5_refusalOfSort_1 : decode cX5_refusalOfSort 1 = .ok (.getfield 213, 3) := by decide +kernel
theorem dX5_refusalOfSort_4 : decode cX5_refusalOfSort 4 = .ok (.ifCond .eq 14, 3) := by decide +kernel
theorem dX5_refusalOfSort_7 : decode cX5_refusalOfSort 7 = .ok (.aload_n 0, 1) := by decide +kernel
theorem dX5_refusalOfSort_8 : decode cX5_refusalOfSort 8 = .ok (.getfield 303, 3) := by decide +kernel
theorem dX5_refusalOfSort_11 : decode cX5_refusalOfSort 11 = .ok (.iload_n 1, 1) := by decide +kernel
theorem dX5_refusalOfSort_12 : decode cX5_refusalOfSort 12 = .ok (.if_icmp .eq 6, 3) := by decide +kernel
theorem dX5_refusalOfSort_15 : decode cX5_refusalOfSort 15 = .ok (.bipush (-12), 2) := by decide +kernel
theorem dX5_refusalOfSort_17 : decode cX5_refusalOfSort 17 = .ok (.ireturn, 1) := by decide +kernel
theorem dX5_refusalOfSort_18 : decode cX5_refusalOfSort 18 = .ok (.aload_n 0, 1) := by decide +kernel
theorem dX5_refusalOfSort_19 : decode cX5_refusalOfSort 19 = .ok (.invokestatic 216, 3) := by decide +kernel
theorem dX5_refusalOfSort_22 : decode cX5_refusalOfSort 22 = .ok (.ireturn, 1) := by decide +kernel
theorem dX5_refusalOfTraveller_0 : decode cX5_refusalOfTraveller 0 = .ok (.aload_n 0, 1) := by decide +kernel
theorem dX5_refusalOfTraveller_1 : decode cX5_refusalOfTraveller 1 = .ok (.invokevirtual 300, 3) := by decide +kernel
theorem dX5_refusalOfTraveller_4 : decode cX5_refusalOfTraveller 4 = .ok (.ifCond .eq 8, 3) := by decide +kernel
theorem dX5_refusalOfTraveller_7 : decode cX5_refusalOfTraveller 7 = .ok (.bipush (-11), 2) := by decide +kernel
theorem dX5_refusalOfTraveller_9 : decode cX5_refusalOfTraveller 9 = .ok (.goto 5, 3) := by decide +kernel
theorem dX5_refusalOfTraveller_12 : decode cX5_refusalOfTraveller 12 = .ok (.bipush (-12), 2) := by decide +kernel
theorem dX5_refusalOfTraveller_14 : decode cX5_refusalOfTraveller 14 = .ok (.ireturn, 1) := by decide +kernel
theorem dX5_refusalOfDuties_0 : decode cX5_refusalOfDuties 0 = .ok (.aload_n 0, 1) := by decide +kernel
theorem dX5_refusalOfDuties_1 : decode cX5_refusalOfDuties 1 = .ok (.iconst 2, 1) := by decide +kernel
theorem dX5_refusalOfDuties_2 : decode cX5_refusalOfDuties 2 = .ok (.invokestatic 48, 3) := by decide +kernel
theorem dX5_refusalOfDuties_5 : decode cX5_refusalOfDuties 5 = .ok (.istore_n 1, 1) := by decide +kernel
theorem dX5_refusalOfDuties_6 : decode cX5_refusalOfDuties 6 = .ok (.iload_n 1, 1) := by decide +kernel
theorem dX5_refusalOfDuties_7 : decode cX5_refusalOfDuties 7 = .ok (.ifCond .eq 5, 3) := by decide +kernel
theorem dX5_refusalOfDuties_10 : decode cX5_refusalOfDuties 10 = .ok (.iload_n 1, 1) := by decide +kernel
theorem dX5_refusalOfDuties_11 : decode cX5_refusalOfDuties 11 = .ok (.ireturn, 1) := by decide +kernel
theorem dX5_refusalOfDuties_12 : decode cX5_refusalOfDuties 12 = .ok (.iconst 0, 1) := by decide +kernel
theorem dX5_refusalOfDuties_13 : decode cX5_refusalOfDuties 13 = .ok (.istore_n 2, 1) := by decide +kernel
theorem dX5_refusalOfDuties_14 : decode cX5_refusalOfDuties 14 = .ok (.iload_n 2, 1) := by decide +kernel
theorem dX5_refusalOfDuties_15 : decode cX5_refusalOfDuties 15 = .ok (.aload_n 0, 1) := by decide +kernel
theorem dX5_refusalOfDuties_16 : decode cX5_refusalOfDuties 16 = .ok (.getfield 220, 3) := by decide +kernel
theorem dX5_refusalOfDuties_19 : decode cX5_refusalOfDuties 19 = .ok (.if_icmp .ge 24, 3) := by decide +kernel
theorem dX5_refusalOfDuties_22 : decode cX5_refusalOfDuties 22 = .ok (.aload_n 0, 1) := by decide +kernel
theorem dX5_refusalOfDuties_23 : decode cX5_refusalOfDuties 23 = .ok (.getfield 226, 3) := by decide +kernel
theorem dX5_refusalOfDuties_26 : decode cX5_refusalOfDuties 26 = .ok (.iload_n 2, 1) := by decide +kernel
theorem dX5_refusalOfDuties_27 : decode cX5_refusalOfDuties 27 = .ok (.iaload, 1) := by decide +kernel
theorem dX5_refusalOfDuties_28 : decode cX5_refusalOfDuties 28 = .ok (.invokestatic 96, 3) := by decide +kernel
theorem dX5_refusalOfDuties_31 : decode cX5_refusalOfDuties 31 = .ok (.ifCond .ne 6, 3) := by decide +kernel
theorem dX5_refusalOfDuties_34 : decode cX5_refusalOfDuties 34 = .ok (.bipush (-13), 2) := by decide +kernel
theorem dX5_refusalOfDuties_36 : decode cX5_refusalOfDuties 36 = .ok (.ireturn, 1) := by decide +kernel
theorem dX5_refusalOfDuties_37 : decode cX5_refusalOfDuties 37 = .ok (.iinc 2 1, 3) := by decide +kernel
theorem dX5_refusalOfDuties_40 : decode cX5_refusalOfDuties 40 = .ok (.goto (-26), 3) := by decide +kernel
theorem dX5_refusalOfDuties_43 : decode cX5_refusalOfDuties 43 = .ok (.iconst 0, 1) := by decide +kernel
theorem dX5_refusalOfDuties_44 : decode cX5_refusalOfDuties 44 = .ok (.ireturn, 1) := by decide +kernel
theorem dX5_isLog_0 : decode cX5_isLog 0 = .ok (.aload_n 0, 1) := by decide +kernel
theorem dX5_isLog_1 : decode cX5_isLog 1 = .ok (.getfield 220, 3) := by decide +kernel
theorem dX5_isLog_4 : decode cX5_isLog 4 = .ok (.iconst 2, 1) := by decide +kernel
theorem dX5_isLog_5 : decode cX5_isLog 5 = .ok (.irem, 1) := by decide +kernel
theorem dX5_isLog_6 : decode cX5_isLog 6 = .ok (.ifCond .eq 5, 3) := by decide +kernel
theorem dX5_isLog_9 : decode cX5_isLog 9 = .ok (.iconst 0, 1) := by decide +kernel
theorem dX5_isLog_10 : decode cX5_isLog 10 = .ok (.ireturn, 1) := by decide +kernel
theorem dX5_isLog_11 : decode cX5_isLog 11 = .ok (.iconst 0, 1) := by decide +kernel
theorem dX5_isLog_12 : decode cX5_isLog 12 = .ok (.istore_n 1, 1) := by decide +kernel
theorem dX5_isLog_13 : decode cX5_isLog 13 = .ok (.iload_n 1, 1) := by decide +kernel
theorem dX5_isLog_14 : decode cX5_isLog 14 = .ok (.iconst 1, 1) := by decide +kernel
theorem dX5_isLog_15 : decode cX5_isLog 15 = .ok (.iadd, 1) := by decide +kernel
theorem dX5_isLog_16 : decode cX5_isLog 16 = .ok (.aload_n 0, 1) := by decide +kernel
theorem dX5_isLog_17 : decode cX5_isLog 17 = .ok (.getfield 220, 3) := by decide +kernel
theorem dX5_isLog_20 : decode cX5_isLog 20 = .ok (.if_icmp .ge 31, 3) := by decide +kernel
theorem dX5_isLog_23 : decode cX5_isLog 23 = .ok (.aload_n 0, 1) := by decide +kernel
theorem dX5_isLog_24 : decode cX5_isLog 24 = .ok (.iload_n 1, 1) := by decide +kernel
theorem dX5_isLog_25 : decode cX5_isLog 25 = .ok (.invokevirtual 247, 3) := by decide +kernel
theorem dX5_isLog_28 : decode cX5_isLog 28 = .ok (.ifCond .eq 17, 3) := by decide +kernel
theorem dX5_isLog_31 : decode cX5_isLog 31 = .ok (.aload_n 0, 1) := by decide +kernel
theorem dX5_isLog_32 : decode cX5_isLog 32 = .ok (.getfield 226, 3) := by decide +kernel
theorem dX5_isLog_35 : decode cX5_isLog 35 = .ok (.iload_n 1, 1) := by decide +kernel
theorem dX5_isLog_36 : decode cX5_isLog 36 = .ok (.iaload, 1) := by decide +kernel
theorem dX5_isLog_37 : decode cX5_isLog 37 = .ok (.invokestatic 96, 3) := by decide +kernel
theorem dX5_isLog_40 : decode cX5_isLog 40 = .ok (.ifCond .ne 5, 3) := by decide +kernel
theorem dX5_isLog_43 : decode cX5_isLog 43 = .ok (.iconst 0, 1) := by decide +kernel
theorem dX5_isLog_44 : decode cX5_isLog 44 = .ok (.ireturn, 1) := by decide +kernel
theorem dX5_isLog_45 : decode cX5_isLog 45 = .ok (.iinc 1 2, 3) := by decide +kernel
theorem dX5_isLog_48 : decode cX5_isLog 48 = .ok (.goto (-35), 3) := by decide +kernel
theorem dX5_isLog_51 : decode cX5_isLog 51 = .ok (.iconst 1, 1) := by decide +kernel
theorem dX5_isLog_52 : decode cX5_isLog 52 = .ok (.ireturn, 1) := by decide +kernel
theorem dX5_shiftOf_0 : decode cX5_shiftOf 0 = .ok (.aload_n 0, 1) := by decide +kernel
theorem dX5_shiftOf_1 : decode cX5_shiftOf 1 = .ok (.aload_n 1, 1) := by decide +kernel
theorem dX5_shiftOf_2 : decode cX5_shiftOf 2 = .ok (.iconst 1, 1) := by decide +kernel
theorem dX5_shiftOf_3 : decode cX5_shiftOf 3 = .ok (.iload_n 2, 1) := by decide +kernel
theorem dX5_shiftOf_4 : decode cX5_shiftOf 4 = .ok (.invokevirtual 194, 3) := by decide +kernel
theorem dX5_shiftOf_7 : decode cX5_shiftOf 7 = .ok (.i2l, 1) := by decide +kernel
theorem dX5_shiftOf_8 : decode cX5_shiftOf 8 = .ok (.iload_n 3, 1) := by decide +kernel
theorem dX5_shiftOf_9 : decode cX5_shiftOf 9 = .ok (.i2l, 1) := by decide +kernel
theorem dX5_shiftOf_10 : decode cX5_shiftOf 10 = .ok (.lsub, 1) := by decide +kernel
theorem dX5_shiftOf_11 : decode cX5_shiftOf 11 = .ok (.lstore 4, 2) := by decide +kernel
theorem dX5_shiftOf_13 : decode cX5_shiftOf 13 = .ok (.lload 4, 2) := by decide +kernel
theorem dX5_shiftOf_15 : decode cX5_shiftOf 15 = .ok (.ldc2_w 331, 3) := by decide +kernel
theorem dX5_shiftOf_18 : decode cX5_shiftOf 18 = .ok (.lcmp, 1) := by decide +kernel
theorem dX5_shiftOf_19 : decode cX5_shiftOf 19 = .ok (.ifCond .lt 12, 3) := by decide +kernel
theorem dX5_shiftOf_22 : decode cX5_shiftOf 22 = .ok (.lload 4, 2) := by decide +kernel
theorem dX5_shiftOf_24 : decode cX5_shiftOf 24 = .ok (.ldc2_w 333, 3) := by decide +kernel
theorem dX5_shiftOf_27 : decode cX5_shiftOf 27 = .ok (.lcmp, 1) := by decide +kernel
theorem dX5_shiftOf_28 : decode cX5_shiftOf 28 = .ok (.ifCond .le 5, 3) := by decide +kernel
theorem dX5_shiftOf_31 : decode cX5_shiftOf 31 = .ok (.iconst 0, 1) := by decide +kernel
theorem dX5_shiftOf_32 : decode cX5_shiftOf 32 = .ok (.ireturn, 1) := by decide +kernel
theorem dX5_shiftOf_33 : decode cX5_shiftOf 33 = .ok (.iconst 1, 1) := by decide +kernel
theorem dX5_shiftOf_34 : decode cX5_shiftOf 34 = .ok (.lload 4, 2) := by decide +kernel
theorem dX5_shiftOf_36 : decode cX5_shiftOf 36 = .ok (.ldc2_w 333, 3) := by decide +kernel
theorem dX5_shiftOf_39 : decode cX5_shiftOf 39 = .ok (.ladd, 1) := by decide +kernel
theorem dX5_shiftOf_40 : decode cX5_shiftOf 40 = .ok (.l2i, 1) := by decide +kernel
theorem dX5_shiftOf_41 : decode cX5_shiftOf 41 = .ok (.ishl, 1) := by decide +kernel
theorem dX5_shiftOf_42 : decode cX5_shiftOf 42 = .ok (.ireturn, 1) := by decide +kernel
theorem dX5_throwFailure_0 : decode cX5_throwFailure 0 = .ok (.aload_n 0, 1) := by decide +kernel
theorem dX5_throwFailure_1 : decode cX5_throwFailure 1 = .ok (.getfield 141, 3) := by decide +kernel
theorem dX5_throwFailure_4 : decode cX5_throwFailure 4 = .ok (.ifCond .ne 4, 3) := by decide +kernel
theorem dX5_throwFailure_7 : decode cX5_throwFailure 7 = .ok (.return_, 1) := by decide +kernel
theorem dX5_throwFailure_8 : decode cX5_throwFailure 8 = .ok (.aload_n 0, 1) := by decide +kernel
theorem dX5_throwFailure_9 : decode cX5_throwFailure 9 = .ok (.getfield 124, 3) := by decide +kernel
theorem dX5_throwFailure_12 : decode cX5_throwFailure 12 = .ok (.tableswitch 59 3 7 #[36, 37, 59, 48, 36], 36) := by decide +kernel
theorem dX5_throwFailure_48 : decode cX5_throwFailure 48 = .ok (.return_, 1) := by decide +kernel
theorem dX5_throwFailure_49 : decode cX5_throwFailure 49 = .ok (.new 295, 3) := by decide +kernel
theorem dX5_throwFailure_52 : decode cX5_throwFailure 52 = .ok (.dup, 1) := by decide +kernel
theorem dX5_throwFailure_53 : decode cX5_throwFailure 53 = .ok (.ldc_w 335, 3) := by decide +kernel
theorem dX5_throwFailure_56 : decode cX5_throwFailure 56 = .ok (.invokespecial 299, 3) := by decide +kernel
theorem dX5_throwFailure_59 : decode cX5_throwFailure 59 = .ok (.athrow, 1) := by decide +kernel
theorem dX5_throwFailure_60 : decode cX5_throwFailure 60 = .ok (.new 288, 3) := by decide +kernel
theorem dX5_throwFailure_63 : decode cX5_throwFailure 63 = .ok (.dup, 1) := by decide +kernel
theorem dX5_throwFailure_64 : decode cX5_throwFailure 64 = .ok (.ldc_w 337, 3) := by decide +kernel
theorem dX5_throwFailure_67 : decode cX5_throwFailure 67 = .ok (.invokespecial 292, 3) := by decide +kernel
theorem dX5_throwFailure_70 : decode cX5_throwFailure 70 = .ok (.athrow, 1) := by decide +kernel
theorem dX5_throwFailure_71 : decode cX5_throwFailure 71 = .ok (.new 329, 3) := by decide +kernel
theorem dX5_throwFailure_74 : decode cX5_throwFailure 74 = .ok (.dup, 1) := by decide +kernel
theorem dX5_throwFailure_75 : decode cX5_throwFailure 75 = .ok (.ldc_w 339, 3) := by decide +kernel
theorem dX5_throwFailure_78 : decode cX5_throwFailure 78 = .ok (.invokespecial 341, 3) := by decide +kernel
theorem dX5_throwFailure_81 : decode cX5_throwFailure 81 = .ok (.athrow, 1) := by decide +kernel
theorem dX5_readForm_0 : decode cX5_readForm 0 = .ok (.aload_n 0, 1) := by decide +kernel
theorem dX5_readForm_1 : decode cX5_readForm 1 = .ok (.getfield 39, 3) := by decide +kernel
theorem dX5_readForm_4 : decode cX5_readForm 4 = .ok (.invokevirtual 342, 3) := by decide +kernel
theorem dX5_readForm_7 : decode cX5_readForm 7 = .ok (.iconst 1, 1) := by decide +kernel
theorem dX5_readForm_8 : decode cX5_readForm 8 = .ok (.istore_n 1, 1) := by decide +kernel
theorem dX5_readForm_9 : decode cX5_readForm 9 = .ok (.iload_n 1, 1) := by decide +kernel
theorem dX5_readForm_10 : decode cX5_readForm 10 = .ok (.bipush 100, 2) := by decide +kernel
theorem dX5_readForm_12 : decode cX5_readForm 12 = .ok (.if_icmp .gt 43, 3) := by decide +kernel
theorem dX5_readForm_15 : decode cX5_readForm 15 = .ok (.aload_n 0, 1) := by decide +kernel
theorem dX5_readForm_16 : decode cX5_readForm 16 = .ok (.getfield 39, 3) := by decide +kernel
theorem dX5_readForm_19 : decode cX5_readForm 19 = .ok (.invokevirtual 345, 3) := by decide +kernel
theorem dX5_readForm_22 : decode cX5_readForm 22 = .ok (.ifCond .ne 15, 3) := by decide +kernel
theorem dX5_readForm_25 : decode cX5_readForm 25 = .ok (.sipush (-1000), 3) := by decide +kernel
theorem dX5_readForm_28 : decode cX5_readForm 28 = .ok (.aload_n 0, 1) := by decide +kernel
theorem dX5_readForm_29 : decode cX5_readForm 29 = .ok (.getfield 39, 3) := by decide +kernel
theorem dX5_readForm_32 : decode cX5_readForm 32 = .ok (.getfield 348, 3) := by decide +kernel
theorem dX5_readForm_35 : decode cX5_readForm 35 = .ok (.isub, 1) := by decide +kernel
theorem dX5_readForm_36 : decode cX5_readForm 36 = .ok (.ireturn, 1) := by decide +kernel
theorem dX5_readForm_37 : decode cX5_readForm 37 = .ok (.aload_n 0, 1) := by decide +kernel
theorem dX5_readForm_38 : decode cX5_readForm 38 = .ok (.getfield 39, 3) := by decide +kernel
theorem dX5_readForm_41 : decode cX5_readForm 41 = .ok (.invokevirtual 351, 3) := by decide +kernel
theorem dX5_readForm_44 : decode cX5_readForm 44 = .ok (.ifCond .eq 5, 3) := by decide +kernel
theorem dX5_readForm_47 : decode cX5_readForm 47 = .ok (.iload_n 1, 1) := by decide +kernel
theorem dX5_readForm_48 : decode cX5_readForm 48 = .ok (.ireturn, 1) := by decide +kernel
theorem dX5_readForm_49 : decode cX5_readForm 49 = .ok (.iinc 1 1, 3) := by decide +kernel
theorem dX5_readForm_52 : decode cX5_readForm 52 = .ok (.goto (-43), 3) := by decide +kernel
theorem dX5_readForm_55 : decode cX5_readForm 55 = .ok (.sipush (-1000), 3) := by decide +kernel
theorem dX5_readForm_58 : decode cX5_readForm 58 = .ok (.aload_n 0, 1) := by decide +kernel
theorem dX5_readForm_59 : decode cX5_readForm 59 = .ok (.getfield 39, 3) := by decide +kernel
theorem dX5_readForm_62 : decode cX5_readForm 62 = .ok (.getfield 348, 3) := by decide +kernel
theorem dX5_readForm_65 : decode cX5_readForm 65 = .ok (.isub, 1) := by decide +kernel
theorem dX5_readForm_66 : decode cX5_readForm 66 = .ok (.ireturn, 1) := by decide +kernel
theorem dX5_readSense_0 : decode cX5_readSense 0 = .ok (.aload_n 0, 1) := by decide +kernel
theorem dX5_readSense_1 : decode cX5_readSense 1 = .ok (.getfield 39, 3) := by decide +kernel
theorem dX5_readSense_4 : decode cX5_readSense 4 = .ok (.invokevirtual 342, 3) := by decide +kernel
theorem dX5_readSense_7 : decode cX5_readSense 7 = .ok (.aload_n 0, 1) := by decide +kernel
theorem dX5_readSense_8 : decode cX5_readSense 8 = .ok (.getfield 12, 3) := by decide +kernel
theorem dX5_readSense_11 : decode cX5_readSense 11 = .ok (.getfield 210, 3) := by decide +kernel
theorem dX5_readSense_14 : decode cX5_readSense 14 = .ok (.istore_n 2, 1) := by decide +kernel
theorem dX5_readSense_15 : decode cX5_readSense 15 = .ok (.iconst 0, 1) := by decide +kernel
theorem dX5_readSense_16 : decode cX5_readSense 16 = .ok (.istore_n 3, 1) := by decide +kernel
theorem dX5_readSense_17 : decode cX5_readSense 17 = .ok (.iload_n 3, 1) := by decide +kernel
theorem dX5_readSense_18 : decode cX5_readSense 18 = .ok (.iload_n 1, 1) := by decide +kernel
theorem dX5_readSense_19 : decode cX5_readSense 19 = .ok (.if_icmp .ge 57, 3) := by decide +kernel
theorem dX5_readSense_22 : decode cX5_readSense 22 = .ok (.aload_n 0, 1) := by decide +kernel
theorem dX5_readSense_23 : decode cX5_readSense 23 = .ok (.getfield 39, 3) := by decide +kernel
theorem dX5_readSense_26 : decode cX5_readSense 26 = .ok (.invokevirtual 345, 3) := by decide +kernel
theorem dX5_readSense_29 : decode cX5_readSense 29 = .ok (.ifCond .eq 14, 3) := by decide +kernel
theorem dX5_readSense_32 : decode cX5_readSense 32 = .ok (.aload_n 0, 1) := by decide +kernel
theorem dX5_readSense_33 : decode cX5_readSense 33 = .ok (.getfield 39, 3) := by decide +kernel
theorem dX5_readSense_36 : decode cX5_readSense 36 = .ok (.iload_n 2, 1) := by decide +kernel
theorem dX5_readSense_37 : decode cX5_readSense 37 = .ok (.invokevirtual 354, 3) := by decide +kernel
theorem dX5_readSense_40 : decode cX5_readSense 40 = .ok (.ifCond .ne 15, 3) := by decide +kernel
theorem dX5_readSense_43 : decode cX5_readSense 43 = .ok (.sipush (-2000), 3) := by decide +kernel
theorem dX5_readSense_46 : decode cX5_readSense 46 = .ok (.aload_n 0, 1) := by decide +kernel
theorem dX5_readSense_47 : decode cX5_readSense 47 = .ok (.getfield 39, 3) := by decide +kernel
theorem dX5_readSense_50 : decode cX5_readSense 50 = .ok (.getfield 357, 3) := by decide +kernel
theorem dX5_readSense_53 : decode cX5_readSense 53 = .ok (.isub, 1) := by decide +kernel
theorem dX5_readSense_54 : decode cX5_readSense 54 = .ok (.ireturn, 1) := by decide +kernel
theorem dX5_readSense_55 : decode cX5_readSense 55 = .ok (.aload_n 0, 1) := by decide +kernel
theorem dX5_readSense_56 : decode cX5_readSense 56 = .ok (.getfield 39, 3) := by decide +kernel
theorem dX5_readSense_59 : decode cX5_readSense 59 = .ok (.getfield 360, 3) := by decide +kernel
theorem dX5_readSense_62 : decode cX5_readSense 62 = .ok (.bipush 112, 2) := by decide +kernel
theorem dX5_readSense_64 : decode cX5_readSense 64 = .ok (.if_icmp .ne 6, 3) := by decide +kernel
theorem dX5_readSense_67 : decode cX5_readSense 67 = .ok (.iinc 2 1, 3) := by decide +kernel
theorem dX5_readSense_70 : decode cX5_readSense 70 = .ok (.iinc 3 1, 3) := by decide +kernel
theorem dX5_readSense_73 : decode cX5_readSense 73 = .ok (.goto (-56), 3) := by decide +kernel
theorem dX5_readSense_76 : decode cX5_readSense 76 = .ok (.iconst 0, 1) := by decide +kernel
theorem dX5_readSense_77 : decode cX5_readSense 77 = .ok (.ireturn, 1) := by decide +kernel
theorem dX5_makeAll_0 : decode cX5_makeAll 0 = .ok (.aload_n 0, 1) := by decide +kernel
theorem dX5_makeAll_1 : decode cX5_makeAll 1 = .ok (.getfield 39, 3) := by decide +kernel
theorem dX5_makeAll_4 : decode cX5_makeAll 4 = .ok (.invokevirtual 342, 3) := by decide +kernel
theorem dX5_makeAll_7 : decode cX5_makeAll 7 = .ok (.iconst 0, 1) := by decide +kernel
theorem dX5_makeAll_8 : decode cX5_makeAll 8 = .ok (.istore_n 2, 1) := by decide +kernel
theorem dX5_makeAll_9 : decode cX5_makeAll 9 = .ok (.iload_n 2, 1) := by decide +kernel
theorem dX5_makeAll_10 : decode cX5_makeAll 10 = .ok (.iload_n 1, 1) := by decide +kernel
theorem dX5_makeAll_11 : decode cX5_makeAll 11 = .ok (.if_icmp .ge 124, 3) := by decide +kernel
theorem dX5_makeAll_14 : decode cX5_makeAll 14 = .ok (.aload_n 0, 1) := by decide +kernel
theorem dX5_makeAll_15 : decode cX5_makeAll 15 = .ok (.getfield 39, 3) := by decide +kernel
theorem dX5_makeAll_18 : decode cX5_makeAll 18 = .ok (.invokevirtual 345, 3) := by decide +kernel
theorem dX5_makeAll_21 : decode cX5_makeAll 21 = .ok (.pop, 1) := by decide +kernel
theorem dX5_makeAll_22 : decode cX5_makeAll 22 = .ok (.aload_n 0, 1) := by decide +kernel
theorem dX5_makeAll_23 : decode cX5_makeAll 23 = .ok (.getfield 39, 3) := by decide +kernel
theorem dX5_makeAll_26 : decode cX5_makeAll 26 = .ok (.getfield 360, 3) := by decide +kernel
theorem dX5_makeAll_29 : decode cX5_makeAll 29 = .ok (.bipush 112, 2) := by decide +kernel
theorem dX5_makeAll_31 : decode cX5_makeAll 31 = .ok (.if_icmp .ne 41, 3) := by decide +kernel
theorem dX5_makeAll_34 : decode cX5_makeAll 34 = .ok (.aload_n 0, 1) := by decide +kernel
theorem dX5_makeAll_35 : decode cX5_makeAll 35 = .ok (.getfield 12, 3) := by decide +kernel
theorem dX5_makeAll_38 : decode cX5_makeAll 38 = .ok (.aload_n 0, 1) := by decide +kernel
theorem dX5_makeAll_39 : decode cX5_makeAll 39 = .ok (.getfield 39, 3) := by decide +kernel
theorem dX5_makeAll_42 : decode cX5_makeAll 42 = .ok (.getfield 363, 3) := by decide +kernel
theorem dX5_makeAll_45 : decode cX5_makeAll 45 = .ok (.aload_n 0, 1) := by decide +kernel
theorem dX5_makeAll_46 : decode cX5_makeAll 46 = .ok (.getfield 39, 3) := by decide +kernel
theorem dX5_makeAll_49 : decode cX5_makeAll 49 = .ok (.getfield 366, 3) := by decide +kernel
theorem dX5_makeAll_52 : decode cX5_makeAll 52 = .ok (.aload_n 0, 1) := by decide +kernel
theorem dX5_makeAll_53 : decode cX5_makeAll 53 = .ok (.getfield 39, 3) := by decide +kernel
theorem dX5_makeAll_56 : decode cX5_makeAll 56 = .ok (.getfield 369, 3) := by decide +kernel
theorem dX5_makeAll_59 : decode cX5_makeAll 59 = .ok (.aload_n 0, 1) := by decide +kernel
theorem dX5_makeAll_60 : decode cX5_makeAll 60 = .ok (.getfield 39, 3) := by decide +kernel
theorem dX5_makeAll_63 : decode cX5_makeAll 63 = .ok (.getfield 372, 3) := by decide +kernel
theorem dX5_makeAll_66 : decode cX5_makeAll 66 = .ok (.invokevirtual 375, 3) := by decide +kernel
theorem dX5_makeAll_69 : decode cX5_makeAll 69 = .ok (.goto 60, 3) := by decide +kernel
theorem dX5_makeAll_72 : decode cX5_makeAll 72 = .ok (.aload_n 0, 1) := by decide +kernel
theorem dX5_makeAll_73 : decode cX5_makeAll 73 = .ok (.getfield 39, 3) := by decide +kernel
theorem dX5_makeAll_76 : decode cX5_makeAll 76 = .ok (.getfield 360, 3) := by decide +kernel
theorem dX5_makeAll_79 : decode cX5_makeAll 79 = .ok (.bipush 108, 2) := by decide +kernel
theorem dX5_makeAll_81 : decode cX5_makeAll 81 = .ok (.if_icmp .ne 20, 3) := by decide +kernel
theorem dX5_makeAll_84 : decode cX5_makeAll 84 = .ok (.aload_n 0, 1) := by decide +kernel
theorem dX5_makeAll_85 : decode cX5_makeAll 85 = .ok (.getfield 12, 3) := by decide +kernel
theorem dX5_makeAll_88 : decode cX5_makeAll 88 = .ok (.aload_n 0, 1) := by decide +kernel
theorem dX5_makeAll_89 : decode cX5_makeAll 89 = .ok (.getfield 39, 3) := by decide +kernel
theorem dX5_makeAll_92 : decode cX5_makeAll 92 = .ok (.getfield 363, 3) := by decide +kernel
theorem dX5_makeAll_95 : decode cX5_makeAll 95 = .ok (.putfield 92, 3) := by decide +kernel
theorem dX5_makeAll_98 : decode cX5_makeAll 98 = .ok (.goto 31, 3) := by decide +kernel
theorem dX5_makeAll_101 : decode cX5_makeAll 101 = .ok (.aload_n 0, 1) := by decide +kernel
theorem dX5_makeAll_102 : decode cX5_makeAll 102 = .ok (.getfield 12, 3) := by decide +kernel
theorem dX5_makeAll_105 : decode cX5_makeAll 105 = .ok (.aload_n 0, 1) := by decide +kernel
theorem dX5_makeAll_106 : decode cX5_makeAll 106 = .ok (.getfield 39, 3) := by decide +kernel
theorem dX5_makeAll_109 : decode cX5_makeAll 109 = .ok (.getfield 363, 3) := by decide +kernel
theorem dX5_makeAll_112 : decode cX5_makeAll 112 = .ok (.aload_n 0, 1) := by decide +kernel
theorem dX5_makeAll_113 : decode cX5_makeAll 113 = .ok (.getfield 39, 3) := by decide +kernel
theorem dX5_makeAll_116 : decode cX5_makeAll 116 = .ok (.getfield 366, 3) := by decide +kernel
theorem dX5_makeAll_119 : decode cX5_makeAll 119 = .ok (.aload_n 0, 1) := by decide +kernel
theorem dX5_makeAll_120 : decode cX5_makeAll 120 = .ok (.getfield 39, 3) := by decide +kernel
theorem dX5_makeAll_123 : decode cX5_makeAll 123 = .ok (.getfield 369, 3) := by decide +kernel
theorem dX5_makeAll_126 : decode cX5_makeAll 126 = .ok (.invokevirtual 379, 3) := by decide +kernel
theorem dX5_makeAll_129 : decode cX5_makeAll 129 = .ok (.iinc 2 1, 3) := by decide +kernel
theorem dX5_makeAll_132 : decode cX5_makeAll 132 = .ok (.goto (-123), 3) := by decide +kernel
theorem dX5_makeAll_135 : decode cX5_makeAll 135 = .ok (.return_, 1) := by decide +kernel
theorem dX5_roundsAt_0 : decode cX5_roundsAt 0 = .ok (.aload_n 0, 1) := by decide +kernel
theorem dX5_roundsAt_1 : decode cX5_roundsAt 1 = .ok (.getfield 12, 3) := by decide +kernel
theorem dX5_roundsAt_4 : decode cX5_roundsAt 4 = .ok (.aload_n 1, 1) := by decide +kernel
theorem dX5_roundsAt_5 : decode cX5_roundsAt 5 = .ok (.aload_n 1, 1) := by decide +kernel
theorem dX5_roundsAt_6 : decode cX5_roundsAt 6 = .ok (.getfield 162, 3) := by decide +kernel
theorem dX5_roundsAt_9 : decode cX5_roundsAt 9 = .ok (.iload_n 2, 1) := by decide +kernel
theorem dX5_roundsAt_10 : decode cX5_roundsAt 10 = .ok (.aload_n 0, 1) := by decide +kernel
theorem dX5_roundsAt_11 : decode cX5_roundsAt 11 = .ok (.getfield 32, 3) := by decide +kernel
theorem dX5_roundsAt_14 : decode cX5_roundsAt 14 = .ok (.invokevirtual 165, 3) := by decide +kernel
theorem dX5_roundsAt_17 : decode cX5_roundsAt 17 = .ok (.aload_n 0, 1) := by decide +kernel
theorem dX5_roundsAt_18 : decode cX5_roundsAt 18 = .ok (.getfield 32, 3) := by decide +kernel
theorem dX5_roundsAt_21 : decode cX5_roundsAt 21 = .ok (.invokevirtual 383, 3) := by decide +kernel
theorem dX5_roundsAt_24 : decode cX5_roundsAt 24 = .ok (.ireturn, 1) := by decide +kernel
theorem dX5_dayTold_0 : decode cX5_dayTold 0 = .ok (.aload_n 0, 1) := by decide +kernel
theorem dX5_dayTold_1 : decode cX5_dayTold 1 = .ok (.getfield 12, 3) := by decide +kernel
theorem dX5_dayTold_4 : decode cX5_dayTold 4 = .ok (.aload_n 1, 1) := by decide +kernel
theorem dX5_dayTold_5 : decode cX5_dayTold 5 = .ok (.aload_n 1, 1) := by decide +kernel
theorem dX5_dayTold_6 : decode cX5_dayTold 6 = .ok (.getfield 162, 3) := by decide +kernel
theorem dX5_dayTold_9 : decode cX5_dayTold 9 = .ok (.iload_n 3, 1) := by decide +kernel
theorem dX5_dayTold_10 : decode cX5_dayTold 10 = .ok (.aload_n 0, 1) := by decide +kernel
theorem dX5_dayTold_11 : decode cX5_dayTold 11 = .ok (.getfield 32, 3) := by decide +kernel
theorem dX5_dayTold_14 : decode cX5_dayTold 14 = .ok (.invokevirtual 165, 3) := by decide +kernel
theorem dX5_dayTold_17 : decode cX5_dayTold 17 = .ok (.iload_n 2, 1) := by decide +kernel
theorem dX5_dayTold_18 : decode cX5_dayTold 18 = .ok (.tableswitch 225 1 7 #[42, 51, 95, 115, 130, 147, 189], 42) := by decide +kernel
theorem dX5_dayTold_60 : decode cX5_dayTold 60 = .ok (.aload_n 0, 1) := by decide +kernel
theorem dX5_dayTold_61 : decode cX5_dayTold 61 = .ok (.getfield 32, 3) := by decide +kernel
theorem dX5_dayTold_64 : decode cX5_dayTold 64 = .ok (.iload_n 3, 1) := by decide +kernel
theorem dX5_dayTold_65 : decode cX5_dayTold 65 = .ok (.invokevirtual 386, 3) := by decide +kernel
theorem dX5_dayTold_68 : decode cX5_dayTold 68 = .ok (.ireturn, 1) := by decide +kernel
theorem dX5_dayTold_69 : decode cX5_dayTold 69 = .ok (.aload_n 0, 1) := by decide +kernel
theorem dX5_dayTold_70 : decode cX5_dayTold 70 = .ok (.getfield 32, 3) := by decide +kernel
theorem dX5_dayTold_73 : decode cX5_dayTold 73 = .ok (.invokevirtual 187, 3) := by decide +kernel
theorem dX5_dayTold_76 : decode cX5_dayTold 76 = .ok (.ifCond .eq 14, 3) := by decide +kernel
theorem dX5_dayTold_79 : decode cX5_dayTold 79 = .ok (.aload_n 0, 1) := by decide +kernel
theorem dX5_dayTold_80 : decode cX5_dayTold 80 = .ok (.getfield 32, 3) := by decide +kernel
theorem dX5_dayTold_83 : decode cX5_dayTold 83 = .ok (.iload_n 3, 1) := by decide +kernel
theorem dX5_dayTold_84 : decode cX5_dayTold 84 = .ok (.invokevirtual 389, 3) := by decide +kernel
theorem dX5_dayTold_87 : decode cX5_dayTold 87 = .ok (.goto 25, 3) := by decide +kernel
theorem dX5_dayTold_90 : decode cX5_dayTold 90 = .ok (.aload_n 0, 1) := by decide +kernel
theorem dX5_dayTold_91 : decode cX5_dayTold 91 = .ok (.getfield 12, 3) := by decide +kernel
theorem dX5_dayTold_94 : decode cX5_dayTold 94 = .ok (.aload_n 0, 1) := by decide +kernel
theorem dX5_dayTold_95 : decode cX5_dayTold 95 = .ok (.getfield 32, 3) := by decide +kernel
theorem dX5_dayTold_98 : decode cX5_dayTold 98 = .ok (.getfield 191, 3) := by decide +kernel
theorem dX5_dayTold_101 : decode cX5_dayTold 101 = .ok (.iload_n 3, 1) := by decide +kernel
theorem dX5_dayTold_102 : decode cX5_dayTold 102 = .ok (.aload_n 0, 1) := by decide +kernel
theorem dX5_dayTold_103 : decode cX5_dayTold 103 = .ok (.getfield 12, 3) := by decide +kernel
theorem dX5_dayTold_106 : decode cX5_dayTold 106 = .ok (.getfield 92, 3) := by decide +kernel
theorem dX5_dayTold_109 : decode cX5_dayTold 109 = .ok (.invokevirtual 99, 3) := by decide +kernel
theorem dX5_dayTold_112 : decode cX5_dayTold 112 = .ok (.ireturn, 1) := by decide +kernel
theorem dX5_dayTold_113 : decode cX5_dayTold 113 = .ok (.aload_n 0, 1) := by decide +kernel
theorem dX5_dayTold_114 : decode cX5_dayTold 114 = .ok (.getfield 12, 3) := by decide +kernel
theorem dX5_dayTold_117 : decode cX5_dayTold 117 = .ok (.aload_n 1, 1) := by decide +kernel
theorem dX5_dayTold_118 : decode cX5_dayTold 118 = .ok (.getfield 127, 3) := by decide +kernel
theorem dX5_dayTold_121 : decode cX5_dayTold 121 = .ok (.iload_n 3, 1) := by decide +kernel
theorem dX5_dayTold_122 : decode cX5_dayTold 122 = .ok (.aload_n 0, 1) := by decide +kernel
theorem dX5_dayTold_123 : decode cX5_dayTold 123 = .ok (.getfield 12, 3) := by decide +kernel
theorem dX5_dayTold_126 : decode cX5_dayTold 126 = .ok (.getfield 92, 3) := by decide +kernel
theorem dX5_dayTold_129 : decode cX5_dayTold 129 = .ok (.invokevirtual 99, 3) := by decide +kernel
theorem dX5_dayTold_132 : decode cX5_dayTold 132 = .ok (.ireturn, 1) := by decide +kernel
theorem dX5_dayTold_133 : decode cX5_dayTold 133 = .ok (.aload_n 0, 1) := by decide +kernel
theorem dX5_dayTold_134 : decode cX5_dayTold 134 = .ok (.getfield 32, 3) := by decide +kernel
theorem dX5_dayTold_137 : decode cX5_dayTold 137 = .ok (.iload_n 3, 1) := by decide +kernel
theorem dX5_dayTold_138 : decode cX5_dayTold 138 = .ok (.invokevirtual 386, 3) := by decide +kernel
theorem dX5_dayTold_141 : decode cX5_dayTold 141 = .ok (.aload_n 1, 1) := by decide +kernel
theorem dX5_dayTold_142 : decode cX5_dayTold 142 = .ok (.iload_n 3, 1) := by decide +kernel
theorem dX5_dayTold_143 : decode cX5_dayTold 143 = .ok (.invokevirtual 392, 3) := by decide +kernel
theorem dX5_dayTold_146 : decode cX5_dayTold 146 = .ok (.iadd, 1) := by decide +kernel
theorem dX5_dayTold_147 : decode cX5_dayTold 147 = .ok (.ireturn, 1) := by decide +kernel
theorem dX5_dayTold_148 : decode cX5_dayTold 148 = .ok (.aload_n 0, 1) := by decide +kernel
theorem dX5_dayTold_149 : decode cX5_dayTold 149 = .ok (.getfield 32, 3) := by decide +kernel
theorem dX5_dayTold_152 : decode cX5_dayTold 152 = .ok (.iload_n 3, 1) := by decide +kernel
theorem dX5_dayTold_153 : decode cX5_dayTold 153 = .ok (.invokevirtual 386, 3) := by decide +kernel
theorem dX5_dayTold_156 : decode cX5_dayTold 156 = .ok (.aload_n 0, 1) := by decide +kernel
theorem dX5_dayTold_157 : decode cX5_dayTold 157 = .ok (.getfield 32, 3) := by decide +kernel
theorem dX5_dayTold_160 : decode cX5_dayTold 160 = .ok (.invokevirtual 383, 3) := by decide +kernel
theorem dX5_dayTold_163 : decode cX5_dayTold 163 = .ok (.isub, 1) := by decide +kernel
theorem dX5_dayTold_164 : decode cX5_dayTold 164 = .ok (.ireturn, 1) := by decide +kernel
theorem dX5_dayTold_165 : decode cX5_dayTold 165 = .ok (.aload_n 0, 1) := by decide +kernel
theorem dX5_dayTold_166 : decode cX5_dayTold 166 = .ok (.getfield 12, 3) := by decide +kernel
theorem dX5_dayTold_169 : decode cX5_dayTold 169 = .ok (.aload_n 1, 1) := by decide +kernel
theorem dX5_dayTold_170 : decode cX5_dayTold 170 = .ok (.aload_n 0, 1) := by decide +kernel
theorem dX5_dayTold_171 : decode cX5_dayTold 171 = .ok (.getfield 32, 3) := by decide +kernel
theorem dX5_dayTold_174 : decode cX5_dayTold 174 = .ok (.iload_n 3, 1) := by decide +kernel
theorem dX5_dayTold_175 : decode cX5_dayTold 175 = .ok (.invokevirtual 395, 3) := by decide +kernel
theorem dX5_dayTold_178 : decode cX5_dayTold 178 = .ok (.ifCond .eq 13, 3) := by decide +kernel
theorem dX5_dayTold_181 : decode cX5_dayTold 181 = .ok (.aload_n 0, 1) := by decide +kernel
theorem dX5_dayTold_182 : decode cX5_dayTold 182 = .ok (.getfield 32, 3) := by decide +kernel
theorem dX5_dayTold_185 : decode cX5_dayTold 185 = .ok (.getfield 191, 3) := by decide +kernel
theorem dX5_dayTold_188 : decode cX5_dayTold 188 = .ok (.goto 7, 3) := by decide +kernel
theorem dX5_dayTold_191 : decode cX5_dayTold 191 = .ok (.aload_n 1, 1) := by decide +kernel
theorem dX5_dayTold_192 : decode cX5_dayTold 192 = .ok (.getfield 127, 3) := by decide +kernel
theorem dX5_dayTold_195 : decode cX5_dayTold 195 = .ok (.iload_n 3, 1) := by decide +kernel
theorem dX5_dayTold_196 : decode cX5_dayTold 196 = .ok (.aload_n 0, 1) := by decide +kernel
theorem dX5_dayTold_197 : decode cX5_dayTold 197 = .ok (.getfield 12, 3) := by decide +kernel
theorem dX5_dayTold_200 : decode cX5_dayTold 200 = .ok (.getfield 92, 3) := by decide +kernel
theorem dX5_dayTold_203 : decode cX5_dayTold 203 = .ok (.invokevirtual 99, 3) := by decide +kernel
theorem dX5_dayTold_206 : decode cX5_dayTold 206 = .ok (.ireturn, 1) := by decide +kernel
theorem dX5_dayTold_207 : decode cX5_dayTold 207 = .ok (.aload_n 0, 1) := by decide +kernel
theorem dX5_dayTold_208 : decode cX5_dayTold 208 = .ok (.getfield 12, 3) := by decide +kernel
theorem dX5_dayTold_211 : decode cX5_dayTold 211 = .ok (.aload_n 1, 1) := by decide +kernel
theorem dX5_dayTold_212 : decode cX5_dayTold 212 = .ok (.getfield 127, 3) := by decide +kernel
theorem dX5_dayTold_215 : decode cX5_dayTold 215 = .ok (.iload_n 3, 1) := by decide +kernel
theorem dX5_dayTold_216 : decode cX5_dayTold 216 = .ok (.aload_n 0, 1) := by decide +kernel
theorem dX5_dayTold_217 : decode cX5_dayTold 217 = .ok (.getfield 12, 3) := by decide +kernel
theorem dX5_dayTold_220 : decode cX5_dayTold 220 = .ok (.getfield 92, 3) := by decide +kernel
theorem dX5_dayTold_223 : decode cX5_dayTold 223 = .ok (.invokevirtual 99, 3) := by decide +kernel
theorem dX5_dayTold_226 : decode cX5_dayTold 226 = .ok (.aload_n 0, 1) := by decide +kernel
theorem dX5_dayTold_227 : decode cX5_dayTold 227 = .ok (.getfield 32, 3) := by decide +kernel
theorem dX5_dayTold_230 : decode cX5_dayTold 230 = .ok (.invokevirtual 187, 3) := by decide +kernel
theorem dX5_dayTold_233 : decode cX5_dayTold 233 = .ok (.ifCond .eq 7, 3) := by decide +kernel
theorem dX5_dayTold_236 : decode cX5_dayTold 236 = .ok (.iconst 1, 1) := by decide +kernel
theorem dX5_dayTold_237 : decode cX5_dayTold 237 = .ok (.goto 4, 3) := by decide +kernel
theorem dX5_dayTold_240 : decode cX5_dayTold 240 = .ok (.iconst 0, 1) := by decide +kernel
theorem dX5_dayTold_241 : decode cX5_dayTold 241 = .ok (.iadd, 1) := by decide +kernel
theorem dX5_dayTold_242 : decode cX5_dayTold 242 = .ok (.ireturn, 1) := by decide +kernel
theorem dX5_dayTold_243 : decode cX5_dayTold 243 = .ok (.aload_n 0, 1) := by decide +kernel
theorem dX5_dayTold_244 : decode cX5_dayTold 244 = .ok (.getfield 32, 3) := by decide +kernel
theorem dX5_dayTold_247 : decode cX5_dayTold 247 = .ok (.iload_n 3, 1) := by decide +kernel
theorem dX5_dayTold_248 : decode cX5_dayTold 248 = .ok (.invokevirtual 389, 3) := by decide +kernel
theorem dX5_dayTold_251 : decode cX5_dayTold 251 = .ok (.ireturn, 1) := by decide +kernel
theorem dX5_nextChange_0 : decode cX5_nextChange 0 = .ok (.aload_n 0, 1) := by decide +kernel
theorem dX5_nextChange_1 : decode cX5_nextChange 1 = .ok (.aload_n 1, 1) := by decide +kernel
theorem dX5_nextChange_2 : decode cX5_nextChange 2 = .ok (.iload_n 2, 1) := by decide +kernel
theorem dX5_nextChange_3 : decode cX5_nextChange 3 = .ok (.iload_n 3, 1) := by decide +kernel
theorem dX5_nextChange_4 : decode cX5_nextChange 4 = .ok (.invokevirtual 194, 3) := by decide +kernel
theorem dX5_nextChange_7 : decode cX5_nextChange 7 = .ok (.istore 4, 2) := by decide +kernel
theorem dX5_nextChange_9 : decode cX5_nextChange 9 = .ok (.iload_n 3, 1) := by decide +kernel
theorem dX5_nextChange_10 : decode cX5_nextChange 10 = .ok (.istore 5, 2) := by decide +kernel
theorem dX5_nextChange_12 : decode cX5_nextChange 12 = .ok (.iconst 0, 1) := by decide +kernel
theorem dX5_nextChange_13 : decode cX5_nextChange 13 = .ok (.istore 6, 2) := by decide +kernel
theorem dX5_nextChange_15 : decode cX5_nextChange 15 = .ok (.iload 6, 2) := by decide +kernel
theorem dX5_nextChange_17 : decode cX5_nextChange 17 = .ok (.sipush 19999, 3) := by decide +kernel
theorem dX5_nextChange_20 : decode cX5_nextChange 20 = .ok (.if_icmp .gt 80, 3) := by decide +kernel
theorem dX5_nextChange_23 : decode cX5_nextChange 23 = .ok (.iload 5, 2) := by decide +kernel
theorem dX5_nextChange_25 : decode cX5_nextChange 25 = .ok (.sipush 19999, 3) := by decide +kernel
theorem dX5_nextChange_28 : decode cX5_nextChange 28 = .ok (.if_icmp .gt 72, 3) := by decide +kernel
theorem dX5_nextChange_31 : decode cX5_nextChange 31 = .ok (.aload_n 0, 1) := by decide +kernel
theorem dX5_nextChange_32 : decode cX5_nextChange 32 = .ok (.aload_n 1, 1) := by decide +kernel
theorem dX5_nextChange_33 : decode cX5_nextChange 33 = .ok (.iload 5, 2) := by decide +kernel
theorem dX5_nextChange_35 : decode cX5_nextChange 35 = .ok (.invokevirtual 399, 3) := by decide +kernel
theorem dX5_nextChange_38 : decode cX5_nextChange 38 = .ok (.istore 7, 2) := by decide +kernel
theorem dX5_nextChange_40 : decode cX5_nextChange 40 = .ok (.aload_n 0, 1) := by decide +kernel
theorem dX5_nextChange_41 : decode cX5_nextChange 41 = .ok (.aload_n 1, 1) := by decide +kernel
theorem dX5_nextChange_42 : decode cX5_nextChange 42 = .ok (.iload_n 2, 1) := by decide +kernel
theorem dX5_nextChange_43 : decode cX5_nextChange 43 = .ok (.iload 7, 2) := by decide +kernel
theorem dX5_nextChange_45 : decode cX5_nextChange 45 = .ok (.invokevirtual 194, 3) := by decide +kernel
theorem dX5_nextChange_48 : decode cX5_nextChange 48 = .ok (.iload 4, 2) := by decide +kernel
theorem dX5_nextChange_50 : decode cX5_nextChange 50 = .ok (.if_icmp .eq 14, 3) := by decide +kernel
theorem dX5_nextChange_53 : decode cX5_nextChange 53 = .ok (.aload_n 0, 1) := by decide +kernel
theorem dX5_nextChange_54 : decode cX5_nextChange 54 = .ok (.aload_n 1, 1) := by decide +kernel
theorem dX5_nextChange_55 : decode cX5_nextChange 55 = .ok (.iload_n 2, 1) := by decide +kernel
theorem dX5_nextChange_56 : decode cX5_nextChange 56 = .ok (.iload 5, 2) := by decide +kernel
theorem dX5_nextChange_58 : decode cX5_nextChange 58 = .ok (.iload 7, 2) := by decide +kernel
theorem dX5_nextChange_60 : decode cX5_nextChange 60 = .ok (.invokevirtual 402, 3) := by decide +kernel
theorem dX5_nextChange_63 : decode cX5_nextChange 63 = .ok (.ireturn, 1) := by decide +kernel
theorem dX5_nextChange_64 : decode cX5_nextChange 64 = .ok (.iload 7, 2) := by decide +kernel
theorem dX5_nextChange_66 : decode cX5_nextChange 66 = .ok (.iconst 1, 1) := by decide +kernel
theorem dX5_nextChange_67 : decode cX5_nextChange 67 = .ok (.iadd, 1) := by decide +kernel
theorem dX5_nextChange_68 : decode cX5_nextChange 68 = .ok (.istore 5, 2) := by decide +kernel
theorem dX5_nextChange_70 : decode cX5_nextChange 70 = .ok (.iload 5, 2) := by decide +kernel
theorem dX5_nextChange_72 : decode cX5_nextChange 72 = .ok (.sipush 19999, 3) := by decide +kernel
theorem dX5_nextChange_75 : decode cX5_nextChange 75 = .ok (.if_icmp .gt 19, 3) := by decide +kernel
theorem dX5_nextChange_78 : decode cX5_nextChange 78 = .ok (.aload_n 0, 1) := by decide +kernel
theorem dX5_nextChange_79 : decode cX5_nextChange 79 = .ok (.aload_n 1, 1) := by decide +kernel
theorem dX5_nextChange_80 : decode cX5_nextChange 80 = .ok (.iload_n 2, 1) := by decide +kernel
theorem dX5_nextChange_81 : decode cX5_nextChange 81 = .ok (.iload 5, 2) := by decide +kernel
theorem dX5_nextChange_83 : decode cX5_nextChange 83 = .ok (.invokevirtual 194, 3) := by decide +kernel
theorem dX5_nextChange_86 : decode cX5_nextChange 86 = .ok (.iload 4, 2) := by decide +kernel
theorem dX5_nextChange_88 : decode cX5_nextChange 88 = .ok (.if_icmp .eq 6, 3) := by decide +kernel
theorem dX5_nextChange_91 : decode cX5_nextChange 91 = .ok (.iload 5, 2) := by decide +kernel
theorem dX5_nextChange_93 : decode cX5_nextChange 93 = .ok (.ireturn, 1) := by decide +kernel
theorem dX5_nextChange_94 : decode cX5_nextChange 94 = .ok (.iinc 6 1, 3) := by decide +kernel
theorem dX5_nextChange_97 : decode cX5_nextChange 97 = .ok (.goto (-82), 3) := by decide +kernel
theorem dX5_nextChange_100 : decode cX5_nextChange 100 = .ok (.sipush 20000, 3) := by decide +kernel
theorem dX5_nextChange_103 : decode cX5_nextChange 103 = .ok (.ireturn, 1) := by decide +kernel
theorem dX5_evenTill_0 : decode cX5_evenTill 0 = .ok (.aload_n 1, 1) := by decide +kernel
theorem dX5_evenTill_1 : decode cX5_evenTill 1 = .ok (.iload_n 2, 1) := by decide +kernel
theorem dX5_evenTill_2 : decode cX5_evenTill 2 = .ok (.invokevirtual 406, 3) := by decide +kernel
theorem dX5_evenTill_5 : decode cX5_evenTill 5 = .ok (.iconst 1, 1) := by decide +kernel
theorem dX5_evenTill_6 : decode cX5_evenTill 6 = .ok (.isub, 1) := by decide +kernel
theorem dX5_evenTill_7 : decode cX5_evenTill 7 = .ok (.istore_n 3, 1) := by decide +kernel
theorem dX5_evenTill_8 : decode cX5_evenTill 8 = .ok (.aload_n 0, 1) := by decide +kernel
theorem dX5_evenTill_9 : decode cX5_evenTill 9 = .ok (.aload_n 1, 1) := by decide +kernel
theorem dX5_evenTill_10 : decode cX5_evenTill 10 = .ok (.iload_n 2, 1) := by decide +kernel
theorem dX5_evenTill_11 : decode cX5_evenTill 11 = .ok (.invokevirtual 239, 3) := by decide +kernel
theorem dX5_evenTill_14 : decode cX5_evenTill 14 = .ok (.istore 4, 2) := by decide +kernel
theorem dX5_evenTill_16 : decode cX5_evenTill 16 = .ok (.aload_n 0, 1) := by decide +kernel
theorem dX5_evenTill_17 : decode cX5_evenTill 17 = .ok (.aload_n 1, 1) := by decide +kernel
theorem dX5_evenTill_18 : decode cX5_evenTill 18 = .ok (.iload_n 3, 1) := by decide +kernel
theorem dX5_evenTill_19 : decode cX5_evenTill 19 = .ok (.invokevirtual 239, 3) := by decide +kernel
theorem dX5_evenTill_22 : decode cX5_evenTill 22 = .ok (.iload 4, 2) := by decide +kernel
theorem dX5_evenTill_24 : decode cX5_evenTill 24 = .ok (.if_icmp .ne 5, 3) := by decide +kernel
theorem dX5_evenTill_27 : decode cX5_evenTill 27 = .ok (.iload_n 3, 1) := by decide +kernel
theorem dX5_evenTill_28 : decode cX5_evenTill 28 = .ok (.ireturn, 1) := by decide +kernel
theorem dX5_evenTill_29 : decode cX5_evenTill 29 = .ok (.iload_n 2, 1) := by decide +kernel
theorem dX5_evenTill_30 : decode cX5_evenTill 30 = .ok (.istore 5, 2) := by decide +kernel
theorem dX5_evenTill_32 : decode cX5_evenTill 32 = .ok (.iload_n 3, 1) := by decide +kernel
theorem dX5_evenTill_33 : decode cX5_evenTill 33 = .ok (.istore 6, 2) := by decide +kernel
theorem dX5_evenTill_35 : decode cX5_evenTill 35 = .ok (.iconst 0, 1) := by decide +kernel
theorem dX5_evenTill_36 : decode cX5_evenTill 36 = .ok (.istore 7, 2) := by decide +kernel
theorem dX5_evenTill_38 : decode cX5_evenTill 38 = .ok (.iload 7, 2) := by decide +kernel
theorem dX5_evenTill_40 : decode cX5_evenTill 40 = .ok (.bipush 16, 2) := by decide +kernel
theorem dX5_evenTill_42 : decode cX5_evenTill 42 = .ok (.if_icmp .ge 50, 3) := by decide +kernel
theorem dX5_evenTill_45 : decode cX5_evenTill 45 = .ok (.iload 6, 2) := by decide +kernel
theorem dX5_evenTill_47 : decode cX5_evenTill 47 = .ok (.iload 5, 2) := by decide +kernel
theorem dX5_evenTill_49 : decode cX5_evenTill 49 = .ok (.isub, 1) := by decide +kernel
theorem dX5_evenTill_50 : decode cX5_evenTill 50 = .ok (.iconst 1, 1) := by decide +kernel
theorem dX5_evenTill_51 : decode cX5_evenTill 51 = .ok (.if_icmp .le 41, 3) := by decide +kernel
theorem dX5_evenTill_54 : decode cX5_evenTill 54 = .ok (.iload 5, 2) := by decide +kernel
theorem dX5_evenTill_56 : decode cX5_evenTill 56 = .ok (.iload 6, 2) := by decide +kernel
theorem dX5_evenTill_58 : decode cX5_evenTill 58 = .ok (.iadd, 1) := by decide +kernel
theorem dX5_evenTill_59 : decode cX5_evenTill 59 = .ok (.iconst 2, 1) := by decide +kernel
theorem dX5_evenTill_60 : decode cX5_evenTill 60 = .ok (.idiv, 1) := by decide +kernel
theorem dX5_evenTill_61 : decode cX5_evenTill 61 = .ok (.istore 8, 2) := by decide +kernel
theorem dX5_evenTill_63 : decode cX5_evenTill 63 = .ok (.aload_n 0, 1) := by decide +kernel
theorem dX5_evenTill_64 : decode cX5_evenTill 64 = .ok (.aload_n 1, 1) := by decide +kernel
theorem dX5_evenTill_65 : decode cX5_evenTill 65 = .ok (.iload 8, 2) := by decide +kernel
theorem dX5_evenTill_67 : decode cX5_evenTill 67 = .ok (.invokevirtual 239, 3) := by decide +kernel
theorem dX5_evenTill_70 : decode cX5_evenTill 70 = .ok (.iload 4, 2) := by decide +kernel
theorem dX5_evenTill_72 : decode cX5_evenTill 72 = .ok (.if_icmp .ne 10, 3) := by decide +kernel
theorem dX5_evenTill_75 : decode cX5_evenTill 75 = .ok (.iload 8, 2) := by decide +kernel
theorem dX5_evenTill_77 : decode cX5_evenTill 77 = .ok (.istore 5, 2) := by decide +kernel
theorem dX5_evenTill_79 : decode cX5_evenTill 79 = .ok (.goto 7, 3) := by decide +kernel
theorem dX5_evenTill_82 : decode cX5_evenTill 82 = .ok (.iload 8, 2) := by decide +kernel
theorem dX5_evenTill_84 : decode cX5_evenTill 84 = .ok (.istore 6, 2) := by decide +kernel
theorem dX5_evenTill_86 : decode cX5_evenTill 86 = .ok (.iinc 7 1, 3) := by decide +kernel
theorem dX5_evenTill_89 : decode cX5_evenTill 89 = .ok (.goto (-51), 3) := by decide +kernel
theorem dX5_evenTill_92 : decode cX5_evenTill 92 = .ok (.iload 5, 2) := by decide +kernel
theorem dX5_evenTill_94 : decode cX5_evenTill 94 = .ok (.ireturn, 1) := by decide +kernel
theorem dX5_firstOther_0 : decode cX5_firstOther 0 = .ok (.aload_n 0, 1) := by decide +kernel
theorem dX5_firstOther_1 : decode cX5_firstOther 1 = .ok (.aload_n 1, 1) := by decide +kernel
theorem dX5_firstOther_2 : decode cX5_firstOther 2 = .ok (.iload_n 2, 1) := by decide +kernel
theorem dX5_firstOther_3 : decode cX5_firstOther 3 = .ok (.iload_n 3, 1) := by decide +kernel
theorem dX5_firstOther_4 : decode cX5_firstOther 4 = .ok (.invokevirtual 194, 3) := by decide +kernel
theorem dX5_firstOther_7 : decode cX5_firstOther 7 = .ok (.istore 5, 2) := by decide +kernel
theorem dX5_firstOther_9 : decode cX5_firstOther 9 = .ok (.iload_n 3, 1) := by decide +kernel
theorem dX5_firstOther_10 : decode cX5_firstOther 10 = .ok (.istore 6, 2) := by decide +kernel
theorem dX5_firstOther_12 : decode cX5_firstOther 12 = .ok (.iload 4, 2) := by decide +kernel
theorem dX5_firstOther_14 : decode cX5_firstOther 14 = .ok (.istore 7, 2) := by decide +kernel
theorem dX5_firstOther_16 : decode cX5_firstOther 16 = .ok (.iconst 0, 1) := by decide +kernel
theorem dX5_firstOther_17 : decode cX5_firstOther 17 = .ok (.istore 8, 2) := by decide +kernel
theorem dX5_firstOther_19 : decode cX5_firstOther 19 = .ok (.iload 8, 2) := by decide +kernel
theorem dX5_firstOther_21 : decode cX5_firstOther 21 = .ok (.bipush 16, 2) := by decide +kernel
theorem dX5_firstOther_23 : decode cX5_firstOther 23 = .ok (.if_icmp .ge 51, 3) := by decide +kernel
theorem dX5_firstOther_26 : decode cX5_firstOther 26 = .ok (.iload 7, 2) := by decide +kernel
theorem dX5_firstOther_28 : decode cX5_firstOther 28 = .ok (.iload 6, 2) := by decide +kernel
theorem dX5_firstOther_30 : decode cX5_firstOther 30 = .ok (.isub, 1) := by decide +kernel
theorem dX5_firstOther_31 : decode cX5_firstOther 31 = .ok (.iconst 1, 1) := by decide +kernel
theorem dX5_firstOther_32 : decode cX5_firstOther 32 = .ok (.if_icmp .le 42, 3) := by decide +kernel
theorem dX5_firstOther_35 : decode cX5_firstOther 35 = .ok (.iload 6, 2) := by decide +kernel
theorem dX5_firstOther_37 : decode cX5_firstOther 37 = .ok (.iload 7, 2) := by decide +kernel
theorem dX5_firstOther_39 : decode cX5_firstOther 39 = .ok (.iadd, 1) := by decide +kernel
theorem dX5_firstOther_40 : decode cX5_firstOther 40 = .ok (.iconst 2, 1) := by decide +kernel
theorem dX5_firstOther_41 : decode cX5_firstOther 41 = .ok (.idiv, 1) := by decide +kernel
theorem dX5_firstOther_42 : decode cX5_firstOther 42 = .ok (.istore 9, 2) := by decide +kernel
theorem dX5_firstOther_44 : decode cX5_firstOther 44 = .ok (.aload_n 0, 1) := by decide +kernel
theorem dX5_firstOther_45 : decode cX5_firstOther 45 = .ok (.aload_n 1, 1) := by decide +kernel
theorem dX5_firstOther_46 : decode cX5_firstOther 46 = .ok (.iload_n 2, 1) := by decide +kernel
theorem dX5_firstOther_47 : decode cX5_firstOther 47 = .ok (.iload 9, 2) := by decide +kernel
theorem dX5_firstOther_49 : decode cX5_firstOther 49 = .ok (.invokevirtual 194, 3) := by decide +kernel
theorem dX5_firstOther_52 : decode cX5_firstOther 52 = .ok (.iload 5, 2) := by decide +kernel
theorem dX5_firstOther_54 : decode cX5_firstOther 54 = .ok (.if_icmp .ne 10, 3) := by decide +kernel
theorem dX5_firstOther_57 : decode cX5_firstOther 57 = .ok (.iload 9, 2) := by decide +kernel
theorem dX5_firstOther_59 : decode cX5_firstOther 59 = .ok (.istore 6, 2) := by decide +kernel
theorem dX5_firstOther_61 : decode cX5_firstOther 61 = .ok (.goto 7, 3) := by decide +kernel
theorem dX5_firstOther_64 : decode cX5_firstOther 64 = .ok (.iload 9, 2) := by decide +kernel
theorem dX5_firstOther_66 : decode cX5_firstOther 66 = .ok (.istore 7, 2) := by decide +kernel
theorem dX5_firstOther_68 : decode cX5_firstOther 68 = .ok (.iinc 8 1, 3) := by decide +kernel
theorem dX5_firstOther_71 : decode cX5_firstOther 71 = .ok (.goto (-52), 3) := by decide +kernel
theorem dX5_firstOther_74 : decode cX5_firstOther 74 = .ok (.iload 7, 2) := by decide +kernel
theorem dX5_firstOther_76 : decode cX5_firstOther 76 = .ok (.ireturn, 1) := by decide +kernel
theorem dX5_firstBroken_0 : decode cX5_firstBroken 0 = .ok (.iconst 0, 1) := by decide +kernel
theorem dX5_firstBroken_1 : decode cX5_firstBroken 1 = .ok (.istore 5, 2) := by decide +kernel
theorem dX5_firstBroken_3 : decode cX5_firstBroken 3 = .ok (.iload 5, 2) := by decide +kernel
theorem dX5_firstBroken_5 : decode cX5_firstBroken 5 = .ok (.aload_n 3, 1) := by decide +kernel
theorem dX5_firstBroken_6 : decode cX5_firstBroken 6 = .ok (.getfield 220, 3) := by decide +kernel
theorem dX5_firstBroken_9 : decode cX5_firstBroken 9 = .ok (.if_icmp .ge 65, 3) := by decide +kernel
theorem dX5_firstBroken_12 : decode cX5_firstBroken 12 = .ok (.aload_n 3, 1) := by decide +kernel
theorem dX5_firstBroken_13 : decode cX5_firstBroken 13 = .ok (.getfield 226, 3) := by decide +kernel
theorem dX5_firstBroken_16 : decode cX5_firstBroken 16 = .ok (.iload 5, 2) := by decide +kernel
theorem dX5_firstBroken_18 : decode cX5_firstBroken 18 = .ok (.iaload, 1) := by decide +kernel
theorem dX5_firstBroken_19 : decode cX5_firstBroken 19 = .ok (.istore 6, 2) := by decide +kernel
theorem dX5_firstBroken_21 : decode cX5_firstBroken 21 = .ok (.aload_n 0, 1) := by decide +kernel
theorem dX5_firstBroken_22 : decode cX5_firstBroken 22 = .ok (.getfield 12, 3) := by decide +kernel
theorem dX5_firstBroken_25 : decode cX5_firstBroken 25 = .ok (.aload_n 1, 1) := by decide +kernel
theorem dX5_firstBroken_26 : decode cX5_firstBroken 26 = .ok (.iload_n 2, 1) := by decide +kernel
theorem dX5_firstBroken_27 : decode cX5_firstBroken 27 = .ok (.iload 6, 2) := by decide +kernel
theorem dX5_firstBroken_29 : decode cX5_firstBroken 29 = .ok (.aload_n 0, 1) := by decide +kernel
theorem dX5_firstBroken_30 : decode cX5_firstBroken 30 = .ok (.getfield 32, 3) := by decide +kernel
theorem dX5_firstBroken_33 : decode cX5_firstBroken 33 = .ok (.invokevirtual 165, 3) := by decide +kernel
theorem dX5_firstBroken_36 : decode cX5_firstBroken 36 = .ok (.aload_n 0, 1) := by decide +kernel
theorem dX5_firstBroken_37 : decode cX5_firstBroken 37 = .ok (.getfield 32, 3) := by decide +kernel
theorem dX5_firstBroken_40 : decode cX5_firstBroken 40 = .ok (.invokevirtual 187, 3) := by decide +kernel
theorem dX5_firstBroken_43 : decode cX5_firstBroken 43 = .ok (.ifCond .eq 25, 3) := by decide +kernel
theorem dX5_firstBroken_46 : decode cX5_firstBroken 46 = .ok (.aload_n 0, 1) := by decide +kernel
theorem dX5_firstBroken_47 : decode cX5_firstBroken 47 = .ok (.getfield 32, 3) := by decide +kernel
theorem dX5_firstBroken_50 : decode cX5_firstBroken 50 = .ok (.iload 6, 2) := by decide +kernel
theorem dX5_firstBroken_52 : decode cX5_firstBroken 52 = .ok (.invokevirtual 389, 3) := by decide +kernel
theorem dX5_firstBroken_55 : decode cX5_firstBroken 55 = .ok (.bipush 7, 2) := by decide +kernel
theorem dX5_firstBroken_57 : decode cX5_firstBroken 57 = .ok (.invokestatic 106, 3) := by decide +kernel
theorem dX5_firstBroken_60 : decode cX5_firstBroken 60 = .ok (.iload 4, 2) := by decide +kernel
theorem dX5_firstBroken_62 : decode cX5_firstBroken 62 = .ok (.if_icmp .ne 6, 3) := by decide +kernel
theorem dX5_firstBroken_65 : decode cX5_firstBroken 65 = .ok (.iload 5, 2) := by decide +kernel
theorem dX5_firstBroken_67 : decode cX5_firstBroken 67 = .ok (.ireturn, 1) := by decide +kernel
theorem dX5_firstBroken_68 : decode cX5_firstBroken 68 = .ok (.iinc 5 1, 3) := by decide +kernel
theorem dX5_firstBroken_71 : decode cX5_firstBroken 71 = .ok (.goto (-68), 3) := by decide +kernel
theorem dX5_firstBroken_74 : decode cX5_firstBroken 74 = .ok (.bipush (-4), 2) := by decide +kernel
theorem dX5_firstBroken_76 : decode cX5_firstBroken 76 = .ok (.ireturn, 1) := by decide +kernel
theorem dX5_leastPlan_0 : decode cX5_leastPlan 0 = .ok (.iconst 0, 1) := by decide +kernel
theorem dX5_leastPlan_1 : decode cX5_leastPlan 1 = .ok (.istore 4, 2) := by decide +kernel
theorem dX5_leastPlan_3 : decode cX5_leastPlan 3 = .ok (.iconst 0, 1) := by decide +kernel
theorem dX5_leastPlan_4 : decode cX5_leastPlan 4 = .ok (.istore 5, 2) := by decide +kernel
theorem dX5_leastPlan_6 : decode cX5_leastPlan 6 = .ok (.iload 5, 2) := by decide +kernel
theorem dX5_leastPlan_8 : decode cX5_leastPlan 8 = .ok (.bipush 6, 2) := by decide +kernel
theorem dX5_leastPlan_10 : decode cX5_leastPlan 10 = .ok (.if_icmp .gt 53, 3) := by decide +kernel
theorem dX5_leastPlan_13 : decode cX5_leastPlan 13 = .ok (.aload_n 0, 1) := by decide +kernel
theorem dX5_leastPlan_14 : decode cX5_leastPlan 14 = .ok (.aload_n 1, 1) := by decide +kernel
theorem dX5_leastPlan_15 : decode cX5_leastPlan 15 = .ok (.iload 4, 2) := by decide +kernel
theorem dX5_leastPlan_17 : decode cX5_leastPlan 17 = .ok (.aload_n 2, 1) := by decide +kernel
theorem dX5_leastPlan_18 : decode cX5_leastPlan 18 = .ok (.iload_n 3, 1) := by decide +kernel
theorem dX5_leastPlan_19 : decode cX5_leastPlan 19 = .ok (.invokevirtual 235, 3) := by decide +kernel
theorem dX5_leastPlan_22 : decode cX5_leastPlan 22 = .ok (.ifCond .ge 6, 3) := by decide +kernel
theorem dX5_leastPlan_25 : decode cX5_leastPlan 25 = .ok (.iload 4, 2) := by decide +kernel
theorem dX5_leastPlan_27 : decode cX5_leastPlan 27 = .ok (.ireturn, 1) := by decide +kernel
theorem dX5_leastPlan_28 : decode cX5_leastPlan 28 = .ok (.iconst 1, 1) := by decide +kernel
theorem dX5_leastPlan_29 : decode cX5_leastPlan 29 = .ok (.aload_n 0, 1) := by decide +kernel
theorem dX5_leastPlan_30 : decode cX5_leastPlan 30 = .ok (.getfield 32, 3) := by decide +kernel
theorem dX5_leastPlan_33 : decode cX5_leastPlan 33 = .ok (.getfield 409, 3) := by decide +kernel
theorem dX5_leastPlan_36 : decode cX5_leastPlan 36 = .ok (.ishl, 1) := by decide +kernel
theorem dX5_leastPlan_37 : decode cX5_leastPlan 37 = .ok (.istore 6, 2) := by decide +kernel
theorem dX5_leastPlan_39 : decode cX5_leastPlan 39 = .ok (.iload 4, 2) := by decide +kernel
theorem dX5_leastPlan_41 : decode cX5_leastPlan 41 = .ok (.iload 6, 2) := by decide +kernel
theorem dX5_leastPlan_43 : decode cX5_leastPlan 43 = .ok (.iand, 1) := by decide +kernel
theorem dX5_leastPlan_44 : decode cX5_leastPlan 44 = .ok (.ifCond .eq 6, 3) := by decide +kernel
theorem dX5_leastPlan_47 : decode cX5_leastPlan 47 = .ok (.bipush (-4), 2) := by decide +kernel
theorem dX5_leastPlan_49 : decode cX5_leastPlan 49 = .ok (.ireturn, 1) := by decide +kernel
theorem dX5_leastPlan_50 : decode cX5_leastPlan 50 = .ok (.iload 4, 2) := by decide +kernel
theorem dX5_leastPlan_52 : decode cX5_leastPlan 52 = .ok (.iload 6, 2) := by decide +kernel
theorem dX5_leastPlan_54 : decode cX5_leastPlan 54 = .ok (.ior, 1) := by decide +kernel
theorem dX5_leastPlan_55 : decode cX5_leastPlan 55 = .ok (.istore 4, 2) := by decide +kernel
theorem dX5_leastPlan_57 : decode cX5_leastPlan 57 = .ok (.iinc 5 1, 3) := by decide +kernel
theorem dX5_leastPlan_60 : decode cX5_leastPlan 60 = .ok (.goto (-54), 3) := by decide +kernel
theorem dX5_leastPlan_63 : decode cX5_leastPlan 63 = .ok (.bipush (-4), 2) := by decide +kernel
theorem dX5_leastPlan_65 : decode cX5_leastPlan 65 = .ok (.ireturn, 1) := by decide +kernel
theorem dJ9_floorDiv_7cf53_0 : decode cJ9_floorDiv_7cf53 0 = .ok (.iload_n 0, 1) := by decide +kernel
theorem dJ9_floorDiv_7cf53_1 : decode cJ9_floorDiv_7cf53 1 = .ok (.iload_n 1, 1) := by decide +kernel
theorem dJ9_floorDiv_7cf53_2 : decode cJ9_floorDiv_7cf53 2 = .ok (.idiv, 1) := by decide +kernel
theorem dJ9_floorDiv_7cf53_3 : decode cJ9_floorDiv_7cf53 3 = .ok (.istore_n 2, 1) := by decide +kernel
theorem dJ9_floorDiv_7cf53_4 : decode cJ9_floorDiv_7cf53 4 = .ok (.iload_n 0, 1) := by decide +kernel
theorem dJ9_floorDiv_7cf53_5 : decode cJ9_floorDiv_7cf53 5 = .ok (.iload_n 1, 1) := by decide +kernel
theorem dJ9_floorDiv_7cf53_6 : decode cJ9_floorDiv_7cf53 6 = .ok (.ixor, 1) := by decide +kernel
theorem dJ9_floorDiv_7cf53_7 : decode cJ9_floorDiv_7cf53 7 = .ok (.ifCond .ge 14, 3) := by decide +kernel
theorem dJ9_floorDiv_7cf53_10 : decode cJ9_floorDiv_7cf53 10 = .ok (.iload_n 2, 1) := by decide +kernel
theorem dJ9_floorDiv_7cf53_11 : decode cJ9_floorDiv_7cf53 11 = .ok (.iload_n 1, 1) := by decide +kernel
theorem dJ9_floorDiv_7cf53_12 : decode cJ9_floorDiv_7cf53 12 = .ok (.imul, 1) := by decide +kernel
theorem dJ9_floorDiv_7cf53_13 : decode cJ9_floorDiv_7cf53 13 = .ok (.iload_n 0, 1) := by decide +kernel
theorem dJ9_floorDiv_7cf53_14 : decode cJ9_floorDiv_7cf53 14 = .ok (.if_icmp .eq 7, 3) := by decide +kernel
theorem dJ9_floorDiv_7cf53_17 : decode cJ9_floorDiv_7cf53 17 = .ok (.iload_n 2, 1) := by decide +kernel
theorem dJ9_floorDiv_7cf53_18 : decode cJ9_floorDiv_7cf53 18 = .ok (.iconst 1, 1) := by decide +kernel
theorem dJ9_floorDiv_7cf53_19 : decode cJ9_floorDiv_7cf53 19 = .ok (.isub, 1) := by decide +kernel
theorem dJ9_floorDiv_7cf53_20 : decode cJ9_floorDiv_7cf53 20 = .ok (.ireturn, 1) := by decide +kernel
theorem dJ9_floorDiv_7cf53_21 : decode cJ9_floorDiv_7cf53 21 = .ok (.iload_n 2, 1) := by decide +kernel
theorem dJ9_floorDiv_7cf53_22 : decode cJ9_floorDiv_7cf53 22 = .ok (.ireturn, 1) := by decide +kernel
theorem dJ9_floorDiv_f86c9_0 : decode cJ9_floorDiv_f86c9 0 = .ok (.lload_n 0, 1) := by decide +kernel
theorem dJ9_floorDiv_f86c9_1 : decode cJ9_floorDiv_f86c9 1 = .ok (.lload_n 2, 1) := by decide +kernel
theorem dJ9_floorDiv_f86c9_2 : decode cJ9_floorDiv_f86c9 2 = .ok (.ldiv, 1) := by decide +kernel
theorem dJ9_floorDiv_f86c9_3 : decode cJ9_floorDiv_f86c9 3 = .ok (.lstore 4, 2) := by decide +kernel
theorem dJ9_floorDiv_f86c9_5 : decode cJ9_floorDiv_f86c9 5 = .ok (.lload_n 0, 1) := by decide +kernel
theorem dJ9_floorDiv_f86c9_6 : decode cJ9_floorDiv_f86c9 6 = .ok (.lload_n 2, 1) := by decide +kernel
theorem dJ9_floorDiv_f86c9_7 : decode cJ9_floorDiv_f86c9 7 = .ok (.lxor, 1) := by decide +kernel
theorem dJ9_floorDiv_f86c9_8 : decode cJ9_floorDiv_f86c9 8 = .ok (.lconst 0, 1) := by decide +kernel
theorem dJ9_floorDiv_f86c9_9 : decode cJ9_floorDiv_f86c9 9 = .ok (.lcmp, 1) := by decide +kernel
theorem dJ9_floorDiv_f86c9_10 : decode cJ9_floorDiv_f86c9 10 = .ok (.ifCond .ge 17, 3) := by decide +kernel
theorem dJ9_floorDiv_f86c9_13 : decode cJ9_floorDiv_f86c9 13 = .ok (.lload 4, 2) := by decide +kernel
theorem dJ9_floorDiv_f86c9_15 : decode cJ9_floorDiv_f86c9 15 = .ok (.lload_n 2, 1) := by decide +kernel
theorem dJ9_floorDiv_f86c9_16 : decode cJ9_floorDiv_f86c9 16 = .ok (.lmul, 1) := by decide +kernel
theorem dJ9_floorDiv_f86c9_17 : decode cJ9_floorDiv_f86c9 17 = .ok (.lload_n 0, 1) := by decide +kernel
theorem dJ9_floorDiv_f86c9_18 : decode cJ9_floorDiv_f86c9 18 = .ok (.lcmp, 1) := by decide +kernel
theorem dJ9_floorDiv_f86c9_19 : decode cJ9_floorDiv_f86c9 19 = .ok (.ifCond .eq 8, 3) := by decide +kernel
theorem dJ9_floorDiv_f86c9_22 : decode cJ9_floorDiv_f86c9 22 = .ok (.lload 4, 2) := by decide +kernel
theorem dJ9_floorDiv_f86c9_24 : decode cJ9_floorDiv_f86c9 24 = .ok (.lconst 1, 1) := by decide +kernel
theorem dJ9_floorDiv_f86c9_25 : decode cJ9_floorDiv_f86c9 25 = .ok (.lsub, 1) := by decide +kernel
theorem dJ9_floorDiv_f86c9_26 : decode cJ9_floorDiv_f86c9 26 = .ok (.lreturn, 1) := by decide +kernel
theorem dJ9_floorDiv_f86c9_27 : decode cJ9_floorDiv_f86c9 27 = .ok (.lload 4, 2) := by decide +kernel
theorem dJ9_floorDiv_f86c9_29 : decode cJ9_floorDiv_f86c9 29 = .ok (.lreturn, 1) := by decide +kernel
theorem dJ9_floorMod_7cf53_0 : decode cJ9_floorMod_7cf53 0 = .ok (.iload_n 0, 1) := by decide +kernel
theorem dJ9_floorMod_7cf53_1 : decode cJ9_floorMod_7cf53 1 = .ok (.iload_n 1, 1) := by decide +kernel
theorem dJ9_floorMod_7cf53_2 : decode cJ9_floorMod_7cf53 2 = .ok (.irem, 1) := by decide +kernel
theorem dJ9_floorMod_7cf53_3 : decode cJ9_floorMod_7cf53 3 = .ok (.istore_n 2, 1) := by decide +kernel
theorem dJ9_floorMod_7cf53_4 : decode cJ9_floorMod_7cf53 4 = .ok (.iload_n 0, 1) := by decide +kernel
theorem dJ9_floorMod_7cf53_5 : decode cJ9_floorMod_7cf53 5 = .ok (.iload_n 1, 1) := by decide +kernel
theorem dJ9_floorMod_7cf53_6 : decode cJ9_floorMod_7cf53 6 = .ok (.ixor, 1) := by decide +kernel
theorem dJ9_floorMod_7cf53_7 : decode cJ9_floorMod_7cf53 7 = .ok (.ifCond .ge 11, 3) := by decide +kernel
theorem dJ9_floorMod_7cf53_10 : decode cJ9_floorMod_7cf53 10 = .ok (.iload_n 2, 1) := by decide +kernel
theorem dJ9_floorMod_7cf53_11 : decode cJ9_floorMod_7cf53 11 = .ok (.ifCond .eq 7, 3) := by decide +kernel
theorem dJ9_floorMod_7cf53_14 : decode cJ9_floorMod_7cf53 14 = .ok (.iload_n 2, 1) := by decide +kernel
theorem dJ9_floorMod_7cf53_15 : decode cJ9_floorMod_7cf53 15 = .ok (.iload_n 1, 1) := by decide +kernel
theorem dJ9_floorMod_7cf53_16 : decode cJ9_floorMod_7cf53 16 = .ok (.iadd, 1) := by decide +kernel
theorem dJ9_floorMod_7cf53_17 : decode cJ9_floorMod_7cf53 17 = .ok (.ireturn, 1) := by decide +kernel
theorem dJ9_floorMod_7cf53_18 : decode cJ9_floorMod_7cf53 18 = .ok (.iload_n 2, 1) := by decide +kernel
theorem dJ9_floorMod_7cf53_19 : decode cJ9_floorMod_7cf53 19 = .ok (.ireturn, 1) := by decide +kernel
theorem dJ9_floorMod_f86c9_0 : decode cJ9_floorMod_f86c9 0 = .ok (.lload_n 0, 1) := by decide +kernel
theorem dJ9_floorMod_f86c9_1 : decode cJ9_floorMod_f86c9 1 = .ok (.lload_n 2, 1) := by decide +kernel
theorem dJ9_floorMod_f86c9_2 : decode cJ9_floorMod_f86c9 2 = .ok (.lrem, 1) := by decide +kernel
theorem dJ9_floorMod_f86c9_3 : decode cJ9_floorMod_f86c9 3 = .ok (.lstore 4, 2) := by decide +kernel
theorem dJ9_floorMod_f86c9_5 : decode cJ9_floorMod_f86c9 5 = .ok (.lload_n 0, 1) := by decide +kernel
theorem dJ9_floorMod_f86c9_6 : decode cJ9_floorMod_f86c9 6 = .ok (.lload_n 2, 1) := by decide +kernel
theorem dJ9_floorMod_f86c9_7 : decode cJ9_floorMod_f86c9 7 = .ok (.lxor, 1) := by decide +kernel
theorem dJ9_floorMod_f86c9_8 : decode cJ9_floorMod_f86c9 8 = .ok (.lconst 0, 1) := by decide +kernel
theorem dJ9_floorMod_f86c9_9 : decode cJ9_floorMod_f86c9 9 = .ok (.lcmp, 1) := by decide +kernel
theorem dJ9_floorMod_f86c9_10 : decode cJ9_floorMod_f86c9 10 = .ok (.ifCond .ge 15, 3) := by decide +kernel
theorem dJ9_floorMod_f86c9_13 : decode cJ9_floorMod_f86c9 13 = .ok (.lload 4, 2) := by decide +kernel
theorem dJ9_floorMod_f86c9_15 : decode cJ9_floorMod_f86c9 15 = .ok (.lconst 0, 1) := by decide +kernel
theorem dJ9_floorMod_f86c9_16 : decode cJ9_floorMod_f86c9 16 = .ok (.lcmp, 1) := by decide +kernel
theorem dJ9_floorMod_f86c9_17 : decode cJ9_floorMod_f86c9 17 = .ok (.ifCond .eq 8, 3) := by decide +kernel
theorem dJ9_floorMod_f86c9_20 : decode cJ9_floorMod_f86c9 20 = .ok (.lload 4, 2) := by decide +kernel
theorem dJ9_floorMod_f86c9_22 : decode cJ9_floorMod_f86c9 22 = .ok (.lload_n 2, 1) := by decide +kernel
theorem dJ9_floorMod_f86c9_23 : decode cJ9_floorMod_f86c9 23 = .ok (.ladd, 1) := by decide +kernel
theorem dJ9_floorMod_f86c9_24 : decode cJ9_floorMod_f86c9 24 = .ok (.lreturn, 1) := by decide +kernel
theorem dJ9_floorMod_f86c9_25 : decode cJ9_floorMod_f86c9 25 = .ok (.lload 4, 2) := by decide +kernel
theorem dJ9_floorMod_f86c9_27 : decode cJ9_floorMod_f86c9 27 = .ok (.lreturn, 1) := by decide +kernel
theorem dJ9_min_7cf53_0 : decode cJ9_min_7cf53 0 = .ok (.iload_n 0, 1) := by decide +kernel
theorem dJ9_min_7cf53_1 : decode cJ9_min_7cf53 1 = .ok (.iload_n 1, 1) := by decide +kernel
theorem dJ9_min_7cf53_2 : decode cJ9_min_7cf53 2 = .ok (.if_icmp .gt 7, 3) := by decide +kernel
theorem dJ9_min_7cf53_5 : decode cJ9_min_7cf53 5 = .ok (.iload_n 0, 1) := by decide +kernel
theorem dJ9_min_7cf53_6 : decode cJ9_min_7cf53 6 = .ok (.goto 4, 3) := by decide +kernel
theorem dJ9_min_7cf53_9 : decode cJ9_min_7cf53 9 = .ok (.iload_n 1, 1) := by decide +kernel
theorem dJ9_min_7cf53_10 : decode cJ9_min_7cf53 10 = .ok (.ireturn, 1) := by decide +kernel
