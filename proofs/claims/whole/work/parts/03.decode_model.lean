theorem dX6_init_0 : decode cX6_init 0 = .ok (.aload_n 0, 1) := by decide +kernel
theorem dX6_init_1 : decode cX6_init 1 = .ok (.invokespecial 1, 3) := by decide +kernel
theorem dX6_init_4 : decode cX6_init 4 = .ok (.aload_n 0, 1) := by decide +kernel
theorem dX6_init_5 : decode cX6_init 5 = .ok (.sipush 503, 3) := by decide +kernel
theorem dX6_init_8 : decode cX6_init 8 = .ok (.newarray .int, 2) := by decide +kernel
theorem dX6_init_10 : decode cX6_init 10 = .ok (.putfield 9, 3) := by decide +kernel
theorem dX6_init_13 : decode cX6_init 13 = .ok (.aload_n 0, 1) := by decide +kernel
theorem dX6_init_14 : decode cX6_init 14 = .ok (.sipush 503, 3) := by decide +kernel
theorem dX6_init_17 : decode cX6_init 17 = .ok (.newarray .int, 2) := by decide +kernel
theorem dX6_init_19 : decode cX6_init 19 = .ok (.putfield 13, 3) := by decide +kernel
theorem dX6_init_22 : decode cX6_init 22 = .ok (.aload_n 0, 1) := by decide +kernel
theorem dX6_init_23 : decode cX6_init 23 = .ok (.bipush 8, 2) := by decide +kernel
theorem dX6_init_25 : decode cX6_init 25 = .ok (.newarray .int, 2) := by decide +kernel
theorem dX6_init_27 : decode cX6_init 27 = .ok (.putfield 16, 3) := by decide +kernel
theorem dX6_init_30 : decode cX6_init 30 = .ok (.aload_n 0, 1) := by decide +kernel
theorem dX6_init_31 : decode cX6_init 31 = .ok (.bipush 8, 2) := by decide +kernel
theorem dX6_init_33 : decode cX6_init 33 = .ok (.newarray .int, 2) := by decide +kernel
theorem dX6_init_35 : decode cX6_init 35 = .ok (.putfield 19, 3) := by decide +kernel
theorem dX6_init_38 : decode cX6_init 38 = .ok (.aload_n 0, 1) := by decide +kernel
theorem dX6_init_39 : decode cX6_init 39 = .ok (.bipush 8, 2) := by decide +kernel
theorem dX6_init_41 : decode cX6_init 41 = .ok (.newarray .int, 2) := by decide +kernel
theorem dX6_init_43 : decode cX6_init 43 = .ok (.putfield 22, 3) := by decide +kernel
theorem dX6_init_46 : decode cX6_init 46 = .ok (.aload_n 0, 1) := by decide +kernel
theorem dX6_init_47 : decode cX6_init 47 = .ok (.sipush 800, 3) := by decide +kernel
theorem dX6_init_50 : decode cX6_init 50 = .ok (.newarray .int, 2) := by decide +kernel
theorem dX6_init_52 : decode cX6_init 52 = .ok (.putfield 25, 3) := by decide +kernel
theorem dX6_init_55 : decode cX6_init 55 = .ok (.aload_n 0, 1) := by decide +kernel
theorem dX6_init_56 : decode cX6_init 56 = .ok (.bipush 8, 2) := by decide +kernel
theorem dX6_init_58 : decode cX6_init 58 = .ok (.newarray .int, 2) := by decide +kernel
theorem dX6_init_60 : decode cX6_init 60 = .ok (.putfield 28, 3) := by decide +kernel
theorem dX6_init_63 : decode cX6_init 63 = .ok (.aload_n 0, 1) := by decide +kernel
theorem dX6_init_64 : decode cX6_init 64 = .ok (.sipush 360, 3) := by decide +kernel
theorem dX6_init_67 : decode cX6_init 67 = .ok (.newarray .int, 2) := by decide +kernel
theorem dX6_init_69 : decode cX6_init 69 = .ok (.putfield 31, 3) := by decide +kernel
theorem dX6_init_72 : decode cX6_init 72 = .ok (.aload_n 0, 1) := by decide +kernel
theorem dX6_init_73 : decode cX6_init 73 = .ok (.bipush 8, 2) := by decide +kernel
theorem dX6_init_75 : decode cX6_init 75 = .ok (.newarray .boolean, 2) := by decide +kernel
theorem dX6_init_77 : decode cX6_init 77 = .ok (.putfield 34, 3) := by decide +kernel
theorem dX6_init_80 : decode cX6_init 80 = .ok (.aload_n 0, 1) := by decide +kernel
theorem dX6_init_81 : decode cX6_init 81 = .ok (.iconst 3, 1) := by decide +kernel
theorem dX6_init_82 : decode cX6_init 82 = .ok (.newarray .int, 2) := by decide +kernel
theorem dX6_init_84 : decode cX6_init 84 = .ok (.putfield 38, 3) := by decide +kernel
theorem dX6_init_87 : decode cX6_init 87 = .ok (.aload_n 0, 1) := by decide +kernel
theorem dX6_init_88 : decode cX6_init 88 = .ok (.sipush 503, 3) := by decide +kernel
theorem dX6_init_91 : decode cX6_init 91 = .ok (.newarray .int, 2) := by decide +kernel
theorem dX6_init_93 : decode cX6_init 93 = .ok (.putfield 41, 3) := by decide +kernel
theorem dX6_init_96 : decode cX6_init 96 = .ok (.aload_n 0, 1) := by decide +kernel
theorem dX6_init_97 : decode cX6_init 97 = .ok (.getfield 9, 3) := by decide +kernel
theorem dX6_init_100 : decode cX6_init 100 = .ok (.iconst 2, 1) := by decide +kernel
theorem dX6_init_101 : decode cX6_init 101 = .ok (.sipush 180, 3) := by decide +kernel
theorem dX6_init_104 : decode cX6_init 104 = .ok (.iastore, 1) := by decide +kernel
theorem dX6_init_105 : decode cX6_init 105 = .ok (.return_, 1) := by decide +kernel
theorem dX6_thrown_0 : decode cX6_thrown 0 = .ok (.aload_n 0, 1) := by decide +kernel
theorem dX6_thrown_1 : decode cX6_thrown 1 = .ok (.getfield 44, 3) := by decide +kernel
theorem dX6_thrown_4 : decode cX6_thrown 4 = .ok (.ireturn, 1) := by decide +kernel
theorem dX6_isIn_0 : decode cX6_isIn 0 = .ok (.lload_n 0, 1) := by decide +kernel
theorem dX6_isIn_1 : decode cX6_isIn 1 = .ok (.lload_n 2, 1) := by decide +kernel
theorem dX6_isIn_2 : decode cX6_isIn 2 = .ok (.lcmp, 1) := by decide +kernel
theorem dX6_isIn_3 : decode cX6_isIn 3 = .ok (.ifCond .lt 14, 3) := by decide +kernel
theorem dX6_isIn_6 : decode cX6_isIn 6 = .ok (.lload_n 0, 1) := by decide +kernel
theorem dX6_isIn_7 : decode cX6_isIn 7 = .ok (.lload 4, 2) := by decide +kernel
theorem dX6_isIn_9 : decode cX6_isIn 9 = .ok (.lcmp, 1) := by decide +kernel
theorem dX6_isIn_10 : decode cX6_isIn 10 = .ok (.ifCond .gt 7, 3) := by decide +kernel
theorem dX6_isIn_13 : decode cX6_isIn 13 = .ok (.iconst 1, 1) := by decide +kernel
theorem dX6_isIn_14 : decode cX6_isIn 14 = .ok (.goto 4, 3) := by decide +kernel
theorem dX6_isIn_17 : decode cX6_isIn 17 = .ok (.iconst 0, 1) := by decide +kernel
theorem dX6_isIn_18 : decode cX6_isIn 18 = .ok (.ireturn, 1) := by decide +kernel
theorem dX6_isPlace_0 : decode cX6_isPlace 0 = .ok (.iload_n 1, 1) := by decide +kernel
theorem dX6_isPlace_1 : decode cX6_isPlace 1 = .ok (.i2l, 1) := by decide +kernel
theorem dX6_isPlace_2 : decode cX6_isPlace 2 = .ok (.lconst 0, 1) := by decide +kernel
theorem dX6_isPlace_3 : decode cX6_isPlace 3 = .ok (.aload_n 0, 1) := by decide +kernel
theorem dX6_isPlace_4 : decode cX6_isPlace 4 = .ok (.getfield 9, 3) := by decide +kernel
theorem dX6_isPlace_7 : decode cX6_isPlace 7 = .ok (.iconst 0, 1) := by decide +kernel
theorem dX6_isPlace_8 : decode cX6_isPlace 8 = .ok (.iaload, 1) := by decide +kernel
theorem dX6_isPlace_9 : decode cX6_isPlace 9 = .ok (.iconst 1, 1) := by decide +kernel
theorem dX6_isPlace_10 : decode cX6_isPlace 10 = .ok (.isub, 1) := by decide +kernel
theorem dX6_isPlace_11 : decode cX6_isPlace 11 = .ok (.i2l, 1) := by decide +kernel
theorem dX6_isPlace_12 : decode cX6_isPlace 12 = .ok (.invokestatic 48, 3) := by decide +kernel
theorem dX6_isPlace_15 : decode cX6_isPlace 15 = .ok (.ireturn, 1) := by decide +kernel
theorem dX6_isOne_0 : decode cX6_isOne 0 = .ok (.iload_n 1, 1) := by decide +kernel
theorem dX6_isOne_1 : decode cX6_isOne 1 = .ok (.i2l, 1) := by decide +kernel
theorem dX6_isOne_2 : decode cX6_isOne 2 = .ok (.lconst 0, 1) := by decide +kernel
theorem dX6_isOne_3 : decode cX6_isOne 3 = .ok (.aload_n 0, 1) := by decide +kernel
theorem dX6_isOne_4 : decode cX6_isOne 4 = .ok (.getfield 9, 3) := by decide +kernel
theorem dX6_isOne_7 : decode cX6_isOne 7 = .ok (.iconst 1, 1) := by decide +kernel
theorem dX6_isOne_8 : decode cX6_isOne 8 = .ok (.iaload, 1) := by decide +kernel
theorem dX6_isOne_9 : decode cX6_isOne 9 = .ok (.iconst 1, 1) := by decide +kernel
theorem dX6_isOne_10 : decode cX6_isOne 10 = .ok (.isub, 1) := by decide +kernel
theorem dX6_isOne_11 : decode cX6_isOne 11 = .ok (.i2l, 1) := by decide +kernel
theorem dX6_isOne_12 : decode cX6_isOne 12 = .ok (.invokestatic 48, 3) := by decide +kernel
theorem dX6_isOne_15 : decode cX6_isOne 15 = .ok (.ireturn, 1) := by decide +kernel
theorem dX6_isMinute_0 : decode cX6_isMinute 0 = .ok (.lload_n 0, 1) := by decide +kernel
theorem dX6_isMinute_1 : decode cX6_isMinute 1 = .ok (.lconst 0, 1) := by decide +kernel
theorem dX6_isMinute_2 : decode cX6_isMinute 2 = .ok (.ldc2_w 52, 3) := by decide +kernel
theorem dX6_isMinute_5 : decode cX6_isMinute 5 = .ok (.invokestatic 48, 3) := by decide +kernel
theorem dX6_isMinute_8 : decode cX6_isMinute 8 = .ok (.ireturn, 1) := by decide +kernel
theorem dX6_isShelf_0 : decode cX6_isShelf 0 = .ok (.iload_n 0, 1) := by decide +kernel
theorem dX6_isShelf_1 : decode cX6_isShelf 1 = .ok (.i2l, 1) := by decide +kernel
theorem dX6_isShelf_2 : decode cX6_isShelf 2 = .ok (.lconst 0, 1) := by decide +kernel
theorem dX6_isShelf_3 : decode cX6_isShelf 3 = .ok (.ldc2_w 54, 3) := by decide +kernel
theorem dX6_isShelf_6 : decode cX6_isShelf 6 = .ok (.invokestatic 48, 3) := by decide +kernel
theorem dX6_isShelf_9 : decode cX6_isShelf 9 = .ok (.ireturn, 1) := by decide +kernel
theorem dX6_get_0 : decode cX6_get 0 = .ok (.aload_n 0, 1) := by decide +kernel
theorem dX6_get_1 : decode cX6_get 1 = .ok (.getfield 9, 3) := by decide +kernel
theorem dX6_get_4 : decode cX6_get 4 = .ok (.iconst 3, 1) := by decide +kernel
theorem dX6_get_5 : decode cX6_get 5 = .ok (.iconst 4, 1) := by decide +kernel
theorem dX6_get_6 : decode cX6_get 6 = .ok (.iload_n 1, 1) := by decide +kernel
theorem dX6_get_7 : decode cX6_get 7 = .ok (.imul, 1) := by decide +kernel
theorem dX6_get_8 : decode cX6_get 8 = .ok (.iadd, 1) := by decide +kernel
theorem dX6_get_9 : decode cX6_get 9 = .ok (.iload_n 2, 1) := by decide +kernel
theorem dX6_get_10 : decode cX6_get 10 = .ok (.iadd, 1) := by decide +kernel
theorem dX6_get_11 : decode cX6_get 11 = .ok (.iaload, 1) := by decide +kernel
theorem dX6_get_12 : decode cX6_get 12 = .ok (.ireturn, 1) := by decide +kernel
theorem dX6_becomes_0 : decode cX6_becomes 0 = .ok (.aload_n 0, 1) := by decide +kernel
theorem dX6_becomes_1 : decode cX6_becomes 1 = .ok (.getfield 9, 3) := by decide +kernel
theorem dX6_becomes_4 : decode cX6_becomes 4 = .ok (.iload_n 1, 1) := by decide +kernel
theorem dX6_becomes_5 : decode cX6_becomes 5 = .ok (.iaload, 1) := by decide +kernel
theorem dX6_becomes_6 : decode cX6_becomes 6 = .ok (.istore_n 3, 1) := by decide +kernel
theorem dX6_becomes_7 : decode cX6_becomes 7 = .ok (.aload_n 0, 1) := by decide +kernel
theorem dX6_becomes_8 : decode cX6_becomes 8 = .ok (.getfield 9, 3) := by decide +kernel
theorem dX6_becomes_11 : decode cX6_becomes 11 = .ok (.iload_n 1, 1) := by decide +kernel
theorem dX6_becomes_12 : decode cX6_becomes 12 = .ok (.iload_n 2, 1) := by decide +kernel
theorem dX6_becomes_13 : decode cX6_becomes 13 = .ok (.iastore, 1) := by decide +kernel
theorem dX6_becomes_14 : decode cX6_becomes 14 = .ok (.iload_n 3, 1) := by decide +kernel
theorem dX6_becomes_15 : decode cX6_becomes 15 = .ok (.ireturn, 1) := by decide +kernel
theorem dX6_floor_0 : decode cX6_floor 0 = .ok (.lload_n 0, 1) := by decide +kernel
theorem dX6_floor_1 : decode cX6_floor 1 = .ok (.lconst 0, 1) := by decide +kernel
theorem dX6_floor_2 : decode cX6_floor 2 = .ok (.lcmp, 1) := by decide +kernel
theorem dX6_floor_3 : decode cX6_floor 3 = .ok (.ifCond .lt 9, 3) := by decide +kernel
theorem dX6_floor_6 : decode cX6_floor 6 = .ok (.lload_n 0, 1) := by decide +kernel
theorem dX6_floor_7 : decode cX6_floor 7 = .ok (.lload_n 2, 1) := by decide +kernel
theorem dX6_floor_8 : decode cX6_floor 8 = .ok (.ldiv, 1) := by decide +kernel
theorem dX6_floor_9 : decode cX6_floor 9 = .ok (.goto 11, 3) := by decide +kernel
theorem dX6_floor_12 : decode cX6_floor 12 = .ok (.lload_n 2, 1) := by decide +kernel
theorem dX6_floor_13 : decode cX6_floor 13 = .ok (.lconst 1, 1) := by decide +kernel
theorem dX6_floor_14 : decode cX6_floor 14 = .ok (.lsub, 1) := by decide +kernel
theorem dX6_floor_15 : decode cX6_floor 15 = .ok (.lload_n 0, 1) := by decide +kernel
theorem dX6_floor_16 : decode cX6_floor 16 = .ok (.lsub, 1) := by decide +kernel
theorem dX6_floor_17 : decode cX6_floor 17 = .ok (.lload_n 2, 1) := by decide +kernel
theorem dX6_floor_18 : decode cX6_floor 18 = .ok (.ldiv, 1) := by decide +kernel
theorem dX6_floor_19 : decode cX6_floor 19 = .ok (.lneg, 1) := by decide +kernel
theorem dX6_floor_20 : decode cX6_floor 20 = .ok (.lreturn, 1) := by decide +kernel
theorem dX6_here_0 : decode cX6_here 0 = .ok (.aload_n 0, 1) := by decide +kernel
theorem dX6_here_1 : decode cX6_here 1 = .ok (.getfield 56, 3) := by decide +kernel
theorem dX6_here_4 : decode cX6_here 4 = .ok (.aload_n 0, 1) := by decide +kernel
theorem dX6_here_5 : decode cX6_here 5 = .ok (.getfield 59, 3) := by decide +kernel
theorem dX6_here_8 : decode cX6_here 8 = .ok (.if_icmp .ge 20, 3) := by decide +kernel
theorem dX6_here_11 : decode cX6_here 11 = .ok (.aload_n 0, 1) := by decide +kernel
theorem dX6_here_12 : decode cX6_here 12 = .ok (.getfield 25, 3) := by decide +kernel
theorem dX6_here_15 : decode cX6_here 15 = .ok (.aload_n 0, 1) := by decide +kernel
theorem dX6_here_16 : decode cX6_here 16 = .ok (.getfield 62, 3) := by decide +kernel
theorem dX6_here_19 : decode cX6_here 19 = .ok (.aload_n 0, 1) := by decide +kernel
theorem dX6_here_20 : decode cX6_here 20 = .ok (.getfield 56, 3) := by decide +kernel
theorem dX6_here_23 : decode cX6_here 23 = .ok (.iadd, 1) := by decide +kernel
theorem dX6_here_24 : decode cX6_here 24 = .ok (.iaload, 1) := by decide +kernel
theorem dX6_here_25 : decode cX6_here 25 = .ok (.goto 6, 3) := by decide +kernel
theorem dX6_here_28 : decode cX6_here 28 = .ok (.sipush (-1000), 3) := by decide +kernel
theorem dX6_here_31 : decode cX6_here 31 = .ok (.ireturn, 1) := by decide +kernel
theorem dX6_takes_0 : decode cX6_takes 0 = .ok (.aload_n 0, 1) := by decide +kernel
theorem dX6_takes_1 : decode cX6_takes 1 = .ok (.invokevirtual 65, 3) := by decide +kernel
theorem dX6_takes_4 : decode cX6_takes 4 = .ok (.iload_n 1, 1) := by decide +kernel
theorem dX6_takes_5 : decode cX6_takes 5 = .ok (.if_icmp .eq 5, 3) := by decide +kernel
theorem dX6_takes_8 : decode cX6_takes 8 = .ok (.iconst 0, 1) := by decide +kernel
theorem dX6_takes_9 : decode cX6_takes 9 = .ok (.ireturn, 1) := by decide +kernel
theorem dX6_takes_10 : decode cX6_takes 10 = .ok (.aload_n 0, 1) := by decide +kernel
theorem dX6_takes_11 : decode cX6_takes 11 = .ok (.dup, 1) := by decide +kernel
theorem dX6_takes_12 : decode cX6_takes 12 = .ok (.getfield 56, 3) := by decide +kernel
theorem dX6_takes_15 : decode cX6_takes 15 = .ok (.iconst 1, 1) := by decide +kernel
theorem dX6_takes_16 : decode cX6_takes 16 = .ok (.iadd, 1) := by decide +kernel
theorem dX6_takes_17 : decode cX6_takes 17 = .ok (.putfield 56, 3) := by decide +kernel
theorem dX6_takes_20 : decode cX6_takes 20 = .ok (.iconst 1, 1) := by decide +kernel
theorem dX6_takes_21 : decode cX6_takes 21 = .ok (.ireturn, 1) := by decide +kernel
theorem dX6_readsNumber_0 : decode cX6_readsNumber 0 = .ok (.aload_n 0, 1) := by decide +kernel
theorem dX6_readsNumber_1 : decode cX6_readsNumber 1 = .ok (.invokevirtual 65, 3) := by decide +kernel
theorem dX6_readsNumber_4 : decode cX6_readsNumber 4 = .ok (.i2l, 1) := by decide +kernel
theorem dX6_readsNumber_5 : decode cX6_readsNumber 5 = .ok (.ldc2_w 69, 3) := by decide +kernel
theorem dX6_readsNumber_8 : decode cX6_readsNumber 8 = .ok (.ldc2_w 71, 3) := by decide +kernel
theorem dX6_readsNumber_11 : decode cX6_readsNumber 11 = .ok (.invokestatic 48, 3) := by decide +kernel
theorem dX6_readsNumber_14 : decode cX6_readsNumber 14 = .ok (.ifCond .ne 5, 3) := by decide +kernel
theorem dX6_readsNumber_17 : decode cX6_readsNumber 17 = .ok (.iconst 0, 1) := by decide +kernel
theorem dX6_readsNumber_18 : decode cX6_readsNumber 18 = .ok (.ireturn, 1) := by decide +kernel
theorem dX6_readsNumber_19 : decode cX6_readsNumber 19 = .ok (.aload_n 0, 1) := by decide +kernel
theorem dX6_readsNumber_20 : decode cX6_readsNumber 20 = .ok (.aload_n 0, 1) := by decide +kernel
theorem dX6_readsNumber_21 : decode cX6_readsNumber 21 = .ok (.invokevirtual 65, 3) := by decide +kernel
theorem dX6_readsNumber_24 : decode cX6_readsNumber 24 = .ok (.bipush 48, 2) := by decide +kernel
theorem dX6_readsNumber_26 : decode cX6_readsNumber 26 = .ok (.isub, 1) := by decide +kernel
theorem dX6_readsNumber_27 : decode cX6_readsNumber 27 = .ok (.putfield 73, 3) := by decide +kernel
theorem dX6_readsNumber_30 : decode cX6_readsNumber 30 = .ok (.aload_n 0, 1) := by decide +kernel
theorem dX6_readsNumber_31 : decode cX6_readsNumber 31 = .ok (.dup, 1) := by decide +kernel
theorem dX6_readsNumber_32 : decode cX6_readsNumber 32 = .ok (.getfield 56, 3) := by decide +kernel
theorem dX6_readsNumber_35 : decode cX6_readsNumber 35 = .ok (.iconst 1, 1) := by decide +kernel
theorem dX6_readsNumber_36 : decode cX6_readsNumber 36 = .ok (.iadd, 1) := by decide +kernel
theorem dX6_readsNumber_37 : decode cX6_readsNumber 37 = .ok (.putfield 56, 3) := by decide +kernel
theorem dX6_readsNumber_40 : decode cX6_readsNumber 40 = .ok (.iconst 1, 1) := by decide +kernel
theorem dX6_readsNumber_41 : decode cX6_readsNumber 41 = .ok (.istore_n 1, 1) := by decide +kernel
theorem dX6_readsNumber_42 : decode cX6_readsNumber 42 = .ok (.iload_n 1, 1) := by decide +kernel
theorem dX6_readsNumber_43 : decode cX6_readsNumber 43 = .ok (.iconst 3, 1) := by decide +kernel
theorem dX6_readsNumber_44 : decode cX6_readsNumber 44 = .ok (.if_icmp .ge 62, 3) := by decide +kernel
theorem dX6_readsNumber_47 : decode cX6_readsNumber 47 = .ok (.aload_n 0, 1) := by decide +kernel
theorem dX6_readsNumber_48 : decode cX6_readsNumber 48 = .ok (.getfield 73, 3) := by decide +kernel
theorem dX6_readsNumber_51 : decode cX6_readsNumber 51 = .ok (.ifCond .le 55, 3) := by decide +kernel
theorem dX6_readsNumber_54 : decode cX6_readsNumber 54 = .ok (.aload_n 0, 1) := by decide +kernel
theorem dX6_readsNumber_55 : decode cX6_readsNumber 55 = .ok (.invokevirtual 65, 3) := by decide +kernel
theorem dX6_readsNumber_58 : decode cX6_readsNumber 58 = .ok (.i2l, 1) := by decide +kernel
theorem dX6_readsNumber_59 : decode cX6_readsNumber 59 = .ok (.ldc2_w 69, 3) := by decide +kernel
theorem dX6_readsNumber_62 : decode cX6_readsNumber 62 = .ok (.ldc2_w 71, 3) := by decide +kernel
theorem dX6_readsNumber_65 : decode cX6_readsNumber 65 = .ok (.invokestatic 48, 3) := by decide +kernel
theorem dX6_readsNumber_68 : decode cX6_readsNumber 68 = .ok (.ifCond .eq 38, 3) := by decide +kernel
theorem dX6_readsNumber_71 : decode cX6_readsNumber 71 = .ok (.aload_n 0, 1) := by decide +kernel
theorem dX6_readsNumber_72 : decode cX6_readsNumber 72 = .ok (.bipush 10, 2) := by decide +kernel
theorem dX6_readsNumber_74 : decode cX6_readsNumber 74 = .ok (.aload_n 0, 1) := by decide +kernel
theorem dX6_readsNumber_75 : decode cX6_readsNumber 75 = .ok (.getfield 73, 3) := by decide +kernel
theorem dX6_readsNumber_78 : decode cX6_readsNumber 78 = .ok (.imul, 1) := by decide +kernel
theorem dX6_readsNumber_79 : decode cX6_readsNumber 79 = .ok (.aload_n 0, 1) := by decide +kernel
theorem dX6_readsNumber_80 : decode cX6_readsNumber 80 = .ok (.invokevirtual 65, 3) := by decide +kernel
theorem dX6_readsNumber_83 : decode cX6_readsNumber 83 = .ok (.iadd, 1) := by decide +kernel
theorem dX6_readsNumber_84 : decode cX6_readsNumber 84 = .ok (.bipush 48, 2) := by decide +kernel
theorem dX6_readsNumber_86 : decode cX6_readsNumber 86 = .ok (.isub, 1) := by decide +kernel
theorem dX6_readsNumber_87 : decode cX6_readsNumber 87 = .ok (.putfield 73, 3) := by decide +kernel
theorem dX6_readsNumber_90 : decode cX6_readsNumber 90 = .ok (.aload_n 0, 1) := by decide +kernel
theorem dX6_readsNumber_91 : decode cX6_readsNumber 91 = .ok (.dup, 1) := by decide +kernel
theorem dX6_readsNumber_92 : decode cX6_readsNumber 92 = .ok (.getfield 56, 3) := by decide +kernel
theorem dX6_readsNumber_95 : decode cX6_readsNumber 95 = .ok (.iconst 1, 1) := by decide +kernel
theorem dX6_readsNumber_96 : decode cX6_readsNumber 96 = .ok (.iadd, 1) := by decide +kernel
theorem dX6_readsNumber_97 : decode cX6_readsNumber 97 = .ok (.putfield 56, 3) := by decide +kernel
theorem dX6_readsNumber_100 : decode cX6_readsNumber 100 = .ok (.iinc 1 1, 3) := by decide +kernel
theorem dX6_readsNumber_103 : decode cX6_readsNumber 103 = .ok (.goto (-61), 3) := by decide +kernel
theorem dX6_readsNumber_106 : decode cX6_readsNumber 106 = .ok (.aload_n 0, 1) := by decide +kernel
theorem dX6_readsNumber_107 : decode cX6_readsNumber 107 = .ok (.getfield 38, 3) := by decide +kernel
theorem dX6_readsNumber_110 : decode cX6_readsNumber 110 = .ok (.aload_n 0, 1) := by decide +kernel
theorem dX6_readsNumber_111 : decode cX6_readsNumber 111 = .ok (.getfield 76, 3) := by decide +kernel
theorem dX6_readsNumber_114 : decode cX6_readsNumber 114 = .ok (.aload_n 0, 1) := by decide +kernel
theorem dX6_readsNumber_115 : decode cX6_readsNumber 115 = .ok (.getfield 73, 3) := by decide +kernel
theorem dX6_readsNumber_118 : decode cX6_readsNumber 118 = .ok (.iastore, 1) := by decide +kernel
theorem dX6_readsNumber_119 : decode cX6_readsNumber 119 = .ok (.aload_n 0, 1) := by decide +kernel
theorem dX6_readsNumber_120 : decode cX6_readsNumber 120 = .ok (.dup, 1) := by decide +kernel
theorem dX6_readsNumber_121 : decode cX6_readsNumber 121 = .ok (.getfield 76, 3) := by decide +kernel
theorem dX6_readsNumber_124 : decode cX6_readsNumber 124 = .ok (.iconst 1, 1) := by decide +kernel
theorem dX6_readsNumber_125 : decode cX6_readsNumber 125 = .ok (.iadd, 1) := by decide +kernel
theorem dX6_readsNumber_126 : decode cX6_readsNumber 126 = .ok (.putfield 76, 3) := by decide +kernel
theorem dX6_readsNumber_129 : decode cX6_readsNumber 129 = .ok (.iconst 1, 1) := by decide +kernel
theorem dX6_readsNumber_130 : decode cX6_readsNumber 130 = .ok (.ireturn, 1) := by decide +kernel
theorem dX6_readsStatement_0 : decode cX6_readsStatement 0 = .ok (.aload_n 0, 1) := by decide +kernel
theorem dX6_readsStatement_1 : decode cX6_readsStatement 1 = .ok (.invokevirtual 65, 3) := by decide +kernel
theorem dX6_readsStatement_4 : decode cX6_readsStatement 4 = .ok (.istore_n 1, 1) := by decide +kernel
theorem dX6_readsStatement_5 : decode cX6_readsStatement 5 = .ok (.aload_n 0, 1) := by decide +kernel
theorem dX6_readsStatement_6 : decode cX6_readsStatement 6 = .ok (.iconst 0, 1) := by decide +kernel
theorem dX6_readsStatement_7 : decode cX6_readsStatement 7 = .ok (.putfield 76, 3) := by decide +kernel
theorem dX6_readsStatement_10 : decode cX6_readsStatement 10 = .ok (.aload_n 0, 1) := by decide +kernel
theorem dX6_readsStatement_11 : decode cX6_readsStatement 11 = .ok (.iconst 0, 1) := by decide +kernel
theorem dX6_readsStatement_12 : decode cX6_readsStatement 12 = .ok (.putfield 79, 3) := by decide +kernel
theorem dX6_readsStatement_15 : decode cX6_readsStatement 15 = .ok (.iload_n 1, 1) := by decide +kernel
theorem dX6_readsStatement_16 : decode cX6_readsStatement 16 = .ok (.bipush 112, 2) := by decide +kernel
theorem dX6_readsStatement_18 : decode cX6_readsStatement 18 = .ok (.if_icmp .eq 17, 3) := by decide +kernel
theorem dX6_readsStatement_21 : decode cX6_readsStatement 21 = .ok (.iload_n 1, 1) := by decide +kernel
theorem dX6_readsStatement_22 : decode cX6_readsStatement 22 = .ok (.bipush 108, 2) := by decide +kernel
theorem dX6_readsStatement_24 : decode cX6_readsStatement 24 = .ok (.if_icmp .eq 11, 3) := by decide +kernel
theorem dX6_readsStatement_27 : decode cX6_readsStatement 27 = .ok (.iload_n 1, 1) := by decide +kernel
theorem dX6_readsStatement_28 : decode cX6_readsStatement 28 = .ok (.bipush 119, 2) := by decide +kernel
theorem dX6_readsStatement_30 : decode cX6_readsStatement 30 = .ok (.if_icmp .eq 5, 3) := by decide +kernel
theorem dX6_readsStatement_33 : decode cX6_readsStatement 33 = .ok (.iconst 0, 1) := by decide +kernel
theorem dX6_readsStatement_34 : decode cX6_readsStatement 34 = .ok (.ireturn, 1) := by decide +kernel
theorem dX6_readsStatement_35 : decode cX6_readsStatement 35 = .ok (.aload_n 0, 1) := by decide +kernel
theorem dX6_readsStatement_36 : decode cX6_readsStatement 36 = .ok (.dup, 1) := by decide +kernel
theorem dX6_readsStatement_37 : decode cX6_readsStatement 37 = .ok (.getfield 56, 3) := by decide +kernel
theorem dX6_readsStatement_40 : decode cX6_readsStatement 40 = .ok (.iconst 1, 1) := by decide +kernel
theorem dX6_readsStatement_41 : decode cX6_readsStatement 41 = .ok (.iadd, 1) := by decide +kernel
theorem dX6_readsStatement_42 : decode cX6_readsStatement 42 = .ok (.putfield 56, 3) := by decide +kernel
theorem dX6_readsStatement_45 : decode cX6_readsStatement 45 = .ok (.aload_n 0, 1) := by decide +kernel
theorem dX6_readsStatement_46 : decode cX6_readsStatement 46 = .ok (.invokevirtual 82, 3) := by decide +kernel
theorem dX6_readsStatement_49 : decode cX6_readsStatement 49 = .ok (.ifCond .ne 5, 3) := by decide +kernel
theorem dX6_readsStatement_52 : decode cX6_readsStatement 52 = .ok (.iconst 0, 1) := by decide +kernel
theorem dX6_readsStatement_53 : decode cX6_readsStatement 53 = .ok (.ireturn, 1) := by decide +kernel
theorem dX6_readsStatement_54 : decode cX6_readsStatement 54 = .ok (.iload_n 1, 1) := by decide +kernel
theorem dX6_readsStatement_55 : decode cX6_readsStatement 55 = .ok (.bipush 108, 2) := by decide +kernel
theorem dX6_readsStatement_57 : decode cX6_readsStatement 57 = .ok (.if_icmp .ne 7, 3) := by decide +kernel
theorem dX6_readsStatement_60 : decode cX6_readsStatement 60 = .ok (.iconst 1, 1) := by decide +kernel
theorem dX6_readsStatement_61 : decode cX6_readsStatement 61 = .ok (.goto 4, 3) := by decide +kernel
theorem dX6_readsStatement_64 : decode cX6_readsStatement 64 = .ok (.iconst 3, 1) := by decide +kernel
theorem dX6_readsStatement_65 : decode cX6_readsStatement 65 = .ok (.istore_n 2, 1) := by decide +kernel
theorem dX6_readsStatement_66 : decode cX6_readsStatement 66 = .ok (.aload_n 0, 1) := by decide +kernel
theorem dX6_readsStatement_67 : decode cX6_readsStatement 67 = .ok (.getfield 76, 3) := by decide +kernel
theorem dX6_readsStatement_70 : decode cX6_readsStatement 70 = .ok (.iload_n 2, 1) := by decide +kernel
theorem dX6_readsStatement_71 : decode cX6_readsStatement 71 = .ok (.if_icmp .ge 21, 3) := by decide +kernel
theorem dX6_readsStatement_74 : decode cX6_readsStatement 74 = .ok (.aload_n 0, 1) := by decide +kernel
theorem dX6_readsStatement_75 : decode cX6_readsStatement 75 = .ok (.bipush 32, 2) := by decide +kernel
theorem dX6_readsStatement_77 : decode cX6_readsStatement 77 = .ok (.invokevirtual 86, 3) := by decide +kernel
theorem dX6_readsStatement_80 : decode cX6_readsStatement 80 = .ok (.ifCond .eq 10, 3) := by decide +kernel
theorem dX6_readsStatement_83 : decode cX6_readsStatement 83 = .ok (.aload_n 0, 1) := by decide +kernel
theorem dX6_readsStatement_84 : decode cX6_readsStatement 84 = .ok (.invokevirtual 82, 3) := by decide +kernel
theorem dX6_readsStatement_87 : decode cX6_readsStatement 87 = .ok (.ifCond .ne (-21), 3) := by decide +kernel
theorem dX6_readsStatement_90 : decode cX6_readsStatement 90 = .ok (.iconst 0, 1) := by decide +kernel
theorem dX6_readsStatement_91 : decode cX6_readsStatement 91 = .ok (.ireturn, 1) := by decide +kernel
theorem dX6_readsStatement_92 : decode cX6_readsStatement 92 = .ok (.iload_n 1, 1) := by decide +kernel
theorem dX6_readsStatement_93 : decode cX6_readsStatement 93 = .ok (.bipush 112, 2) := by decide +kernel
theorem dX6_readsStatement_95 : decode cX6_readsStatement 95 = .ok (.if_icmp .ne 49, 3) := by decide +kernel
theorem dX6_readsStatement_98 : decode cX6_readsStatement 98 = .ok (.aload_n 0, 1) := by decide +kernel
theorem dX6_readsStatement_99 : decode cX6_readsStatement 99 = .ok (.invokevirtual 65, 3) := by decide +kernel
theorem dX6_readsStatement_102 : decode cX6_readsStatement 102 = .ok (.bipush 43, 2) := by decide +kernel
theorem dX6_readsStatement_104 : decode cX6_readsStatement 104 = .ok (.if_icmp .eq 12, 3) := by decide +kernel
theorem dX6_readsStatement_107 : decode cX6_readsStatement 107 = .ok (.aload_n 0, 1) := by decide +kernel
theorem dX6_readsStatement_108 : decode cX6_readsStatement 108 = .ok (.invokevirtual 65, 3) := by decide +kernel
theorem dX6_readsStatement_111 : decode cX6_readsStatement 111 = .ok (.bipush 45, 2) := by decide +kernel
theorem dX6_readsStatement_113 : decode cX6_readsStatement 113 = .ok (.if_icmp .ne 31, 3) := by decide +kernel
theorem dX6_readsStatement_116 : decode cX6_readsStatement 116 = .ok (.aload_n 0, 1) := by decide +kernel
theorem dX6_readsStatement_117 : decode cX6_readsStatement 117 = .ok (.aload_n 0, 1) := by decide +kernel
theorem dX6_readsStatement_118 : decode cX6_readsStatement 118 = .ok (.invokevirtual 65, 3) := by decide +kernel
theorem dX6_readsStatement_121 : decode cX6_readsStatement 121 = .ok (.bipush 43, 2) := by decide +kernel
theorem dX6_readsStatement_123 : decode cX6_readsStatement 123 = .ok (.if_icmp .ne 7, 3) := by decide +kernel
theorem dX6_readsStatement_126 : decode cX6_readsStatement 126 = .ok (.iconst 1, 1) := by decide +kernel
theorem dX6_readsStatement_127 : decode cX6_readsStatement 127 = .ok (.goto 4, 3) := by decide +kernel
theorem dX6_readsStatement_130 : decode cX6_readsStatement 130 = .ok (.iconst (-1), 1) := by decide +kernel
theorem dX6_readsStatement_131 : decode cX6_readsStatement 131 = .ok (.putfield 79, 3) := by decide +kernel
theorem dX6_readsStatement_134 : decode cX6_readsStatement 134 = .ok (.aload_n 0, 1) := by decide +kernel
theorem dX6_readsStatement_135 : decode cX6_readsStatement 135 = .ok (.dup, 1) := by decide +kernel
theorem dX6_readsStatement_136 : decode cX6_readsStatement 136 = .ok (.getfield 56, 3) := by decide +kernel
theorem dX6_readsStatement_139 : decode cX6_readsStatement 139 = .ok (.iconst 1, 1) := by decide +kernel
theorem dX6_readsStatement_140 : decode cX6_readsStatement 140 = .ok (.iadd, 1) := by decide +kernel
theorem dX6_readsStatement_141 : decode cX6_readsStatement 141 = .ok (.putfield 56, 3) := by decide +kernel
theorem dX6_readsStatement_144 : decode cX6_readsStatement 144 = .ok (.aload_n 0, 1) := by decide +kernel
theorem dX6_readsStatement_145 : decode cX6_readsStatement 145 = .ok (.bipush 59, 2) := by decide +kernel
theorem dX6_readsStatement_147 : decode cX6_readsStatement 147 = .ok (.invokevirtual 86, 3) := by decide +kernel
theorem dX6_readsStatement_150 : decode cX6_readsStatement 150 = .ok (.ireturn, 1) := by decide +kernel
theorem dX6_comes_0 : decode cX6_comes 0 = .ok (.iload_n 1, 1) := by decide +kernel
theorem dX6_comes_1 : decode cX6_comes 1 = .ok (.bipush 108, 2) := by decide +kernel
theorem dX6_comes_3 : decode cX6_comes 3 = .ok (.if_icmp .ne 33, 3) := by decide +kernel
theorem dX6_comes_6 : decode cX6_comes 6 = .ok (.aload_n 0, 1) := by decide +kernel
theorem dX6_comes_7 : decode cX6_comes 7 = .ok (.getfield 41, 3) := by decide +kernel
theorem dX6_comes_10 : decode cX6_comes 10 = .ok (.iconst 2, 1) := by decide +kernel
theorem dX6_comes_11 : decode cX6_comes 11 = .ok (.aload_n 0, 1) := by decide +kernel
theorem dX6_comes_12 : decode cX6_comes 12 = .ok (.getfield 38, 3) := by decide +kernel
theorem dX6_comes_15 : decode cX6_comes 15 = .ok (.iconst 0, 1) := by decide +kernel
theorem dX6_comes_16 : decode cX6_comes 16 = .ok (.iaload, 1) := by decide +kernel
theorem dX6_comes_17 : decode cX6_comes 17 = .ok (.iastore, 1) := by decide +kernel
theorem dX6_comes_18 : decode cX6_comes 18 = .ok (.aload_n 0, 1) := by decide +kernel
theorem dX6_comes_19 : decode cX6_comes 19 = .ok (.getfield 38, 3) := by decide +kernel
theorem dX6_comes_22 : decode cX6_comes 22 = .ok (.iconst 0, 1) := by decide +kernel
theorem dX6_comes_23 : decode cX6_comes 23 = .ok (.iaload, 1) := by decide +kernel
theorem dX6_comes_24 : decode cX6_comes 24 = .ok (.sipush 360, 3) := by decide +kernel
theorem dX6_comes_27 : decode cX6_comes 27 = .ok (.if_icmp .ge 7, 3) := by decide +kernel
theorem dX6_comes_30 : decode cX6_comes 30 = .ok (.iconst 1, 1) := by decide +kernel
theorem dX6_comes_31 : decode cX6_comes 31 = .ok (.goto 4, 3) := by decide +kernel
theorem dX6_comes_34 : decode cX6_comes 34 = .ok (.iconst 0, 1) := by decide +kernel
theorem dX6_comes_35 : decode cX6_comes 35 = .ok (.ireturn, 1) := by decide +kernel
theorem dX6_comes_36 : decode cX6_comes 36 = .ok (.iload_n 1, 1) := by decide +kernel
theorem dX6_comes_37 : decode cX6_comes 37 = .ok (.bipush 112, 2) := by decide +kernel
theorem dX6_comes_39 : decode cX6_comes 39 = .ok (.if_icmp .ne 113, 3) := by decide +kernel
theorem dX6_comes_42 : decode cX6_comes 42 = .ok (.aload_n 0, 1) := by decide +kernel
theorem dX6_comes_43 : decode cX6_comes 43 = .ok (.getfield 41, 3) := by decide +kernel
theorem dX6_comes_46 : decode cX6_comes 46 = .ok (.iconst 0, 1) := by decide +kernel
theorem dX6_comes_47 : decode cX6_comes 47 = .ok (.iaload, 1) := by decide +kernel
theorem dX6_comes_48 : decode cX6_comes 48 = .ok (.bipush 10, 2) := by decide +kernel
theorem dX6_comes_50 : decode cX6_comes 50 = .ok (.if_icmp .eq 25, 3) := by decide +kernel
theorem dX6_comes_53 : decode cX6_comes 53 = .ok (.aload_n 0, 1) := by decide +kernel
theorem dX6_comes_54 : decode cX6_comes 54 = .ok (.getfield 38, 3) := by decide +kernel
theorem dX6_comes_57 : decode cX6_comes 57 = .ok (.iconst 0, 1) := by decide +kernel
theorem dX6_comes_58 : decode cX6_comes 58 = .ok (.iaload, 1) := by decide +kernel
theorem dX6_comes_59 : decode cX6_comes 59 = .ok (.sipush 359, 3) := by decide +kernel
theorem dX6_comes_62 : decode cX6_comes 62 = .ok (.if_icmp .gt 13, 3) := by decide +kernel
theorem dX6_comes_65 : decode cX6_comes 65 = .ok (.aload_n 0, 1) := by decide +kernel
theorem dX6_comes_66 : decode cX6_comes 66 = .ok (.getfield 38, 3) := by decide +kernel
theorem dX6_comes_69 : decode cX6_comes 69 = .ok (.iconst 1, 1) := by decide +kernel
theorem dX6_comes_70 : decode cX6_comes 70 = .ok (.iaload, 1) := by decide +kernel
theorem dX6_comes_71 : decode cX6_comes 71 = .ok (.iconst 2, 1) := by decide +kernel
theorem dX6_comes_72 : decode cX6_comes 72 = .ok (.if_icmp .le 5, 3) := by decide +kernel
theorem dX6_comes_75 : decode cX6_comes 75 = .ok (.iconst 0, 1) := by decide +kernel
theorem dX6_comes_76 : decode cX6_comes 76 = .ok (.ireturn, 1) := by decide +kernel
theorem dX6_comes_77 : decode cX6_comes 77 = .ok (.iconst 3, 1) := by decide +kernel
theorem dX6_comes_78 : decode cX6_comes 78 = .ok (.iconst 4, 1) := by decide +kernel
theorem dX6_comes_79 : decode cX6_comes 79 = .ok (.aload_n 0, 1) := by decide +kernel
theorem dX6_comes_80 : decode cX6_comes 80 = .ok (.getfield 41, 3) := by decide +kernel
theorem dX6_comes_83 : decode cX6_comes 83 = .ok (.iconst 0, 1) := by decide +kernel
theorem dX6_comes_84 : decode cX6_comes 84 = .ok (.iaload, 1) := by decide +kernel
theorem dX6_comes_85 : decode cX6_comes 85 = .ok (.imul, 1) := by decide +kernel
theorem dX6_comes_86 : decode cX6_comes 86 = .ok (.iadd, 1) := by decide +kernel
theorem dX6_comes_87 : decode cX6_comes 87 = .ok (.istore_n 2, 1) := by decide +kernel
theorem dX6_comes_88 : decode cX6_comes 88 = .ok (.aload_n 0, 1) := by decide +kernel
theorem dX6_comes_89 : decode cX6_comes 89 = .ok (.getfield 41, 3) := by decide +kernel
theorem dX6_comes_92 : decode cX6_comes 92 = .ok (.iload_n 2, 1) := by decide +kernel
theorem dX6_comes_93 : decode cX6_comes 93 = .ok (.aload_n 0, 1) := by decide +kernel
theorem dX6_comes_94 : decode cX6_comes 94 = .ok (.getfield 38, 3) := by decide +kernel
theorem dX6_comes_97 : decode cX6_comes 97 = .ok (.iconst 0, 1) := by decide +kernel
theorem dX6_comes_98 : decode cX6_comes 98 = .ok (.iaload, 1) := by decide +kernel
theorem dX6_comes_99 : decode cX6_comes 99 = .ok (.iastore, 1) := by decide +kernel
theorem dX6_comes_100 : decode cX6_comes 100 = .ok (.aload_n 0, 1) := by decide +kernel
theorem dX6_comes_101 : decode cX6_comes 101 = .ok (.getfield 41, 3) := by decide +kernel
theorem dX6_comes_104 : decode cX6_comes 104 = .ok (.iload_n 2, 1) := by decide +kernel
theorem dX6_comes_105 : decode cX6_comes 105 = .ok (.iconst 1, 1) := by decide +kernel
theorem dX6_comes_106 : decode cX6_comes 106 = .ok (.iadd, 1) := by decide +kernel
theorem dX6_comes_107 : decode cX6_comes 107 = .ok (.aload_n 0, 1) := by decide +kernel
theorem dX6_comes_108 : decode cX6_comes 108 = .ok (.getfield 38, 3) := by decide +kernel
theorem dX6_comes_111 : decode cX6_comes 111 = .ok (.iconst 1, 1) := by decide +kernel
theorem dX6_comes_112 : decode cX6_comes 112 = .ok (.iaload, 1) := by decide +kernel
theorem dX6_comes_113 : decode cX6_comes 113 = .ok (.iastore, 1) := by decide +kernel
theorem dX6_comes_114 : decode cX6_comes 114 = .ok (.aload_n 0, 1) := by decide +kernel
theorem dX6_comes_115 : decode cX6_comes 115 = .ok (.getfield 41, 3) := by decide +kernel
theorem dX6_comes_118 : decode cX6_comes 118 = .ok (.iload_n 2, 1) := by decide +kernel
theorem dX6_comes_119 : decode cX6_comes 119 = .ok (.iconst 2, 1) := by decide +kernel
theorem dX6_comes_120 : decode cX6_comes 120 = .ok (.iadd, 1) := by decide +kernel
theorem dX6_comes_121 : decode cX6_comes 121 = .ok (.aload_n 0, 1) := by decide +kernel
theorem dX6_comes_122 : decode cX6_comes 122 = .ok (.getfield 79, 3) := by decide +kernel
theorem dX6_comes_125 : decode cX6_comes 125 = .ok (.iastore, 1) := by decide +kernel
theorem dX6_comes_126 : decode cX6_comes 126 = .ok (.aload_n 0, 1) := by decide +kernel
theorem dX6_comes_127 : decode cX6_comes 127 = .ok (.getfield 41, 3) := by decide +kernel
theorem dX6_comes_130 : decode cX6_comes 130 = .ok (.iload_n 2, 1) := by decide +kernel
theorem dX6_comes_131 : decode cX6_comes 131 = .ok (.iconst 3, 1) := by decide +kernel
theorem dX6_comes_132 : decode cX6_comes 132 = .ok (.iadd, 1) := by decide +kernel
theorem dX6_comes_133 : decode cX6_comes 133 = .ok (.aload_n 0, 1) := by decide +kernel
theorem dX6_comes_134 : decode cX6_comes 134 = .ok (.getfield 38, 3) := by decide +kernel
theorem dX6_comes_137 : decode cX6_comes 137 = .ok (.iconst 2, 1) := by decide +kernel
theorem dX6_comes_138 : decode cX6_comes 138 = .ok (.iaload, 1) := by decide +kernel
theorem dX6_comes_139 : decode cX6_comes 139 = .ok (.iastore, 1) := by decide +kernel
theorem dX6_comes_140 : decode cX6_comes 140 = .ok (.aload_n 0, 1) := by decide +kernel
theorem dX6_comes_141 : decode cX6_comes 141 = .ok (.getfield 41, 3) := by decide +kernel
theorem dX6_comes_144 : decode cX6_comes 144 = .ok (.iconst 0, 1) := by decide +kernel
theorem dX6_comes_145 : decode cX6_comes 145 = .ok (.dup2, 1) := by decide +kernel
theorem dX6_comes_146 : decode cX6_comes 146 = .ok (.iaload, 1) := by decide +kernel
theorem dX6_comes_147 : decode cX6_comes 147 = .ok (.iconst 1, 1) := by decide +kernel
theorem dX6_comes_148 : decode cX6_comes 148 = .ok (.iadd, 1) := by decide +kernel
theorem dX6_comes_149 : decode cX6_comes 149 = .ok (.iastore, 1) := by decide +kernel
theorem dX6_comes_150 : decode cX6_comes 150 = .ok (.iconst 1, 1) := by decide +kernel
theorem dX6_comes_151 : decode cX6_comes 151 = .ok (.ireturn, 1) := by decide +kernel
theorem dX6_comes_152 : decode cX6_comes 152 = .ok (.aload_n 0, 1) := by decide +kernel
theorem dX6_comes_153 : decode cX6_comes 153 = .ok (.getfield 38, 3) := by decide +kernel
theorem dX6_comes_156 : decode cX6_comes 156 = .ok (.iconst 0, 1) := by decide +kernel
theorem dX6_comes_157 : decode cX6_comes 157 = .ok (.iaload, 1) := by decide +kernel
theorem dX6_comes_158 : decode cX6_comes 158 = .ok (.istore_n 2, 1) := by decide +kernel
theorem dX6_comes_159 : decode cX6_comes 159 = .ok (.aload_n 0, 1) := by decide +kernel
theorem dX6_comes_160 : decode cX6_comes 160 = .ok (.getfield 38, 3) := by decide +kernel
theorem dX6_comes_163 : decode cX6_comes 163 = .ok (.iconst 1, 1) := by decide +kernel
theorem dX6_comes_164 : decode cX6_comes 164 = .ok (.iaload, 1) := by decide +kernel
theorem dX6_comes_165 : decode cX6_comes 165 = .ok (.istore_n 3, 1) := by decide +kernel
theorem dX6_comes_166 : decode cX6_comes 166 = .ok (.iload_n 2, 1) := by decide +kernel
theorem dX6_comes_167 : decode cX6_comes 167 = .ok (.aload_n 0, 1) := by decide +kernel
theorem dX6_comes_168 : decode cX6_comes 168 = .ok (.getfield 41, 3) := by decide +kernel
theorem dX6_comes_171 : decode cX6_comes 171 = .ok (.iconst 0, 1) := by decide +kernel
theorem dX6_comes_172 : decode cX6_comes 172 = .ok (.iaload, 1) := by decide +kernel
theorem dX6_comes_173 : decode cX6_comes 173 = .ok (.if_icmp .ge 29, 3) := by decide +kernel
theorem dX6_comes_176 : decode cX6_comes 176 = .ok (.iload_n 3, 1) := by decide +kernel
theorem dX6_comes_177 : decode cX6_comes 177 = .ok (.aload_n 0, 1) := by decide +kernel
theorem dX6_comes_178 : decode cX6_comes 178 = .ok (.getfield 41, 3) := by decide +kernel
theorem dX6_comes_181 : decode cX6_comes 181 = .ok (.iconst 0, 1) := by decide +kernel
theorem dX6_comes_182 : decode cX6_comes 182 = .ok (.iaload, 1) := by decide +kernel
theorem dX6_comes_183 : decode cX6_comes 183 = .ok (.if_icmp .ge 19, 3) := by decide +kernel
theorem dX6_comes_186 : decode cX6_comes 186 = .ok (.iload_n 2, 1) := by decide +kernel
theorem dX6_comes_187 : decode cX6_comes 187 = .ok (.iload_n 3, 1) := by decide +kernel
theorem dX6_comes_188 : decode cX6_comes 188 = .ok (.if_icmp .eq 14, 3) := by decide +kernel
theorem dX6_comes_191 : decode cX6_comes 191 = .ok (.aload_n 0, 1) := by decide +kernel
theorem dX6_comes_192 : decode cX6_comes 192 = .ok (.getfield 38, 3) := by decide +kernel
theorem dX6_comes_195 : decode cX6_comes 195 = .ok (.iconst 2, 1) := by decide +kernel
theorem dX6_comes_196 : decode cX6_comes 196 = .ok (.iaload, 1) := by decide +kernel
theorem dX6_comes_197 : decode cX6_comes 197 = .ok (.bipush 99, 2) := by decide +kernel
theorem dX6_comes_199 : decode cX6_comes 199 = .ok (.if_icmp .le 5, 3) := by decide +kernel
theorem dX6_comes_202 : decode cX6_comes 202 = .ok (.iconst 0, 1) := by decide +kernel
theorem dX6_comes_203 : decode cX6_comes 203 = .ok (.ireturn, 1) := by decide +kernel
theorem dX6_comes_204 : decode cX6_comes 204 = .ok (.aload_n 0, 1) := by decide +kernel
theorem dX6_comes_205 : decode cX6_comes 205 = .ok (.getfield 41, 3) := by decide +kernel
theorem dX6_comes_208 : decode cX6_comes 208 = .ok (.bipush 43, 2) := by decide +kernel
theorem dX6_comes_210 : decode cX6_comes 210 = .ok (.bipush 10, 2) := by decide +kernel
theorem dX6_comes_212 : decode cX6_comes 212 = .ok (.iload_n 2, 1) := by decide +kernel
theorem dX6_comes_213 : decode cX6_comes 213 = .ok (.imul, 1) := by decide +kernel
theorem dX6_comes_214 : decode cX6_comes 214 = .ok (.iadd, 1) := by decide +kernel
theorem dX6_comes_215 : decode cX6_comes 215 = .ok (.iload_n 3, 1) := by decide +kernel
theorem dX6_comes_216 : decode cX6_comes 216 = .ok (.iadd, 1) := by decide +kernel
theorem dX6_comes_217 : decode cX6_comes 217 = .ok (.aload_n 0, 1) := by decide +kernel
theorem dX6_comes_218 : decode cX6_comes 218 = .ok (.getfield 38, 3) := by decide +kernel
theorem dX6_comes_221 : decode cX6_comes 221 = .ok (.iconst 2, 1) := by decide +kernel
theorem dX6_comes_222 : decode cX6_comes 222 = .ok (.iaload, 1) := by decide +kernel
theorem dX6_comes_223 : decode cX6_comes 223 = .ok (.iastore, 1) := by decide +kernel
theorem dX6_comes_224 : decode cX6_comes 224 = .ok (.aload_n 0, 1) := by decide +kernel
theorem dX6_comes_225 : decode cX6_comes 225 = .ok (.getfield 41, 3) := by decide +kernel
theorem dX6_comes_228 : decode cX6_comes 228 = .ok (.bipush 43, 2) := by decide +kernel
theorem dX6_comes_230 : decode cX6_comes 230 = .ok (.bipush 10, 2) := by decide +kernel
theorem dX6_comes_232 : decode cX6_comes 232 = .ok (.iload_n 3, 1) := by decide +kernel
theorem dX6_comes_233 : decode cX6_comes 233 = .ok (.imul, 1) := by decide +kernel
theorem dX6_comes_234 : decode cX6_comes 234 = .ok (.iadd, 1) := by decide +kernel
theorem dX6_comes_235 : decode cX6_comes 235 = .ok (.iload_n 2, 1) := by decide +kernel
theorem dX6_comes_236 : decode cX6_comes 236 = .ok (.iadd, 1) := by decide +kernel
theorem dX6_comes_237 : decode cX6_comes 237 = .ok (.aload_n 0, 1) := by decide +kernel
theorem dX6_comes_238 : decode cX6_comes 238 = .ok (.getfield 38, 3) := by decide +kernel
theorem dX6_comes_241 : decode cX6_comes 241 = .ok (.iconst 2, 1) := by decide +kernel
theorem dX6_comes_242 : decode cX6_comes 242 = .ok (.iaload, 1) := by decide +kernel
theorem dX6_comes_243 : decode cX6_comes 243 = .ok (.iastore, 1) := by decide +kernel
theorem dX6_comes_244 : decode cX6_comes 244 = .ok (.iconst 1, 1) := by decide +kernel
theorem dX6_comes_245 : decode cX6_comes 245 = .ok (.ireturn, 1) := by decide +kernel
theorem dX6_wrongRow_0 : decode cX6_wrongRow 0 = .ok (.iload_n 1, 1) := by decide +kernel
theorem dX6_wrongRow_1 : decode cX6_wrongRow 1 = .ok (.invokestatic 90, 3) := by decide +kernel
theorem dX6_wrongRow_4 : decode cX6_wrongRow 4 = .ok (.ifCond .ne 7, 3) := by decide +kernel
theorem dX6_wrongRow_7 : decode cX6_wrongRow 7 = .ok (.iconst (-1), 1) := by decide +kernel
theorem dX6_wrongRow_8 : decode cX6_wrongRow 8 = .ok (.goto 47, 3) := by decide +kernel
theorem dX6_wrongRow_11 : decode cX6_wrongRow 11 = .ok (.aload_n 0, 1) := by decide +kernel
theorem dX6_wrongRow_12 : decode cX6_wrongRow 12 = .ok (.getfield 16, 3) := by decide +kernel
theorem dX6_wrongRow_15 : decode cX6_wrongRow 15 = .ok (.iload_n 1, 1) := by decide +kernel
theorem dX6_wrongRow_16 : decode cX6_wrongRow 16 = .ok (.iaload, 1) := by decide +kernel
theorem dX6_wrongRow_17 : decode cX6_wrongRow 17 = .ok (.ifCond .ne 8, 3) := by decide +kernel
theorem dX6_wrongRow_20 : decode cX6_wrongRow 20 = .ok (.bipush (-11), 2) := by decide +kernel
theorem dX6_wrongRow_22 : decode cX6_wrongRow 22 = .ok (.goto 33, 3) := by decide +kernel
theorem dX6_wrongRow_25 : decode cX6_wrongRow 25 = .ok (.aload_n 0, 1) := by decide +kernel
theorem dX6_wrongRow_26 : decode cX6_wrongRow 26 = .ok (.getfield 16, 3) := by decide +kernel
theorem dX6_wrongRow_29 : decode cX6_wrongRow 29 = .ok (.iload_n 1, 1) := by decide +kernel
theorem dX6_wrongRow_30 : decode cX6_wrongRow 30 = .ok (.iaload, 1) := by decide +kernel
theorem dX6_wrongRow_31 : decode cX6_wrongRow 31 = .ok (.iconst 2, 1) := by decide +kernel
theorem dX6_wrongRow_32 : decode cX6_wrongRow 32 = .ok (.if_icmp .ne 17, 3) := by decide +kernel
theorem dX6_wrongRow_35 : decode cX6_wrongRow 35 = .ok (.iload_n 2, 1) := by decide +kernel
theorem dX6_wrongRow_36 : decode cX6_wrongRow 36 = .ok (.ifCond .lt 18, 3) := by decide +kernel
theorem dX6_wrongRow_39 : decode cX6_wrongRow 39 = .ok (.aload_n 0, 1) := by decide +kernel
theorem dX6_wrongRow_40 : decode cX6_wrongRow 40 = .ok (.getfield 19, 3) := by decide +kernel
theorem dX6_wrongRow_43 : decode cX6_wrongRow 43 = .ok (.iload_n 1, 1) := by decide +kernel
theorem dX6_wrongRow_44 : decode cX6_wrongRow 44 = .ok (.iaload, 1) := by decide +kernel
theorem dX6_wrongRow_45 : decode cX6_wrongRow 45 = .ok (.iload_n 2, 1) := by decide +kernel
theorem dX6_wrongRow_46 : decode cX6_wrongRow 46 = .ok (.if_icmp .eq 8, 3) := by decide +kernel
theorem dX6_wrongRow_49 : decode cX6_wrongRow 49 = .ok (.bipush (-12), 2) := by decide +kernel
theorem dX6_wrongRow_51 : decode cX6_wrongRow 51 = .ok (.goto 4, 3) := by decide +kernel
theorem dX6_wrongRow_54 : decode cX6_wrongRow 54 = .ok (.iconst 0, 1) := by decide +kernel
theorem dX6_wrongRow_55 : decode cX6_wrongRow 55 = .ok (.ireturn, 1) := by decide +kernel
theorem dX6_world_0 : decode cX6_world 0 = .ok (.aload_n 0, 1) := by decide +kernel
theorem dX6_world_1 : decode cX6_world 1 = .ok (.iload_n 1, 1) := by decide +kernel
theorem dX6_world_2 : decode cX6_world 2 = .ok (.iconst 0, 1) := by decide +kernel
theorem dX6_world_3 : decode cX6_world 3 = .ok (.invokevirtual 93, 3) := by decide +kernel
theorem dX6_world_6 : decode cX6_world 6 = .ok (.istore_n 2, 1) := by decide +kernel
theorem dX6_world_7 : decode cX6_world 7 = .ok (.iload_n 2, 1) := by decide +kernel
theorem dX6_world_8 : decode cX6_world 8 = .ok (.ifCond .eq 5, 3) := by decide +kernel
theorem dX6_world_11 : decode cX6_world 11 = .ok (.iload_n 2, 1) := by decide +kernel
theorem dX6_world_12 : decode cX6_world 12 = .ok (.ireturn, 1) := by decide +kernel
theorem dX6_world_13 : decode cX6_world 13 = .ok (.aload_n 0, 1) := by decide +kernel
theorem dX6_world_14 : decode cX6_world 14 = .ok (.bipush 100, 2) := by decide +kernel
theorem dX6_world_16 : decode cX6_world 16 = .ok (.iload_n 1, 1) := by decide +kernel
theorem dX6_world_17 : decode cX6_world 17 = .ok (.imul, 1) := by decide +kernel
theorem dX6_world_18 : decode cX6_world 18 = .ok (.putfield 62, 3) := by decide +kernel
theorem dX6_world_21 : decode cX6_world 21 = .ok (.aload_n 0, 1) := by decide +kernel
theorem dX6_world_22 : decode cX6_world 22 = .ok (.aload_n 0, 1) := by decide +kernel
theorem dX6_world_23 : decode cX6_world 23 = .ok (.getfield 22, 3) := by decide +kernel
theorem dX6_world_26 : decode cX6_world 26 = .ok (.iload_n 1, 1) := by decide +kernel
theorem dX6_world_27 : decode cX6_world 27 = .ok (.iaload, 1) := by decide +kernel
theorem dX6_world_28 : decode cX6_world 28 = .ok (.putfield 59, 3) := by decide +kernel
theorem dX6_world_31 : decode cX6_world 31 = .ok (.aload_n 0, 1) := by decide +kernel
theorem dX6_world_32 : decode cX6_world 32 = .ok (.iconst 0, 1) := by decide +kernel
theorem dX6_world_33 : decode cX6_world 33 = .ok (.putfield 56, 3) := by decide +kernel
theorem dX6_world_36 : decode cX6_world 36 = .ok (.iconst 0, 1) := by decide +kernel
theorem dX6_world_37 : decode cX6_world 37 = .ok (.istore_n 3, 1) := by decide +kernel
theorem dX6_world_38 : decode cX6_world 38 = .ok (.aload_n 0, 1) := by decide +kernel
theorem dX6_world_39 : decode cX6_world 39 = .ok (.invokevirtual 97, 3) := by decide +kernel
theorem dX6_world_42 : decode cX6_world 42 = .ok (.ifCond .ne 12, 3) := by decide +kernel
theorem dX6_world_45 : decode cX6_world 45 = .ok (.sipush (-1000), 3) := by decide +kernel
theorem dX6_world_48 : decode cX6_world 48 = .ok (.aload_n 0, 1) := by decide +kernel
theorem dX6_world_49 : decode cX6_world 49 = .ok (.getfield 56, 3) := by decide +kernel
theorem dX6_world_52 : decode cX6_world 52 = .ok (.isub, 1) := by decide +kernel
theorem dX6_world_53 : decode cX6_world 53 = .ok (.ireturn, 1) := by decide +kernel
theorem dX6_world_54 : decode cX6_world 54 = .ok (.iinc 3 1, 3) := by decide +kernel
theorem dX6_world_57 : decode cX6_world 57 = .ok (.aload_n 0, 1) := by decide +kernel
theorem dX6_world_58 : decode cX6_world 58 = .ok (.getfield 56, 3) := by decide +kernel
theorem dX6_world_61 : decode cX6_world 61 = .ok (.aload_n 0, 1) := by decide +kernel
theorem dX6_world_62 : decode cX6_world 62 = .ok (.getfield 59, 3) := by decide +kernel
theorem dX6_world_65 : decode cX6_world 65 = .ok (.if_icmp .lt (-27), 3) := by decide +kernel
theorem dX6_world_68 : decode cX6_world 68 = .ok (.iconst 0, 1) := by decide +kernel
theorem dX6_world_69 : decode cX6_world 69 = .ok (.istore 4, 2) := by decide +kernel
theorem dX6_world_71 : decode cX6_world 71 = .ok (.iload 4, 2) := by decide +kernel
theorem dX6_world_73 : decode cX6_world 73 = .ok (.sipush 503, 3) := by decide +kernel
theorem dX6_world_76 : decode cX6_world 76 = .ok (.if_icmp .ge 23, 3) := by decide +kernel
theorem dX6_world_79 : decode cX6_world 79 = .ok (.aload_n 0, 1) := by decide +kernel
theorem dX6_world_80 : decode cX6_world 80 = .ok (.getfield 41, 3) := by decide +kernel
theorem dX6_world_83 : decode cX6_world 83 = .ok (.iload 4, 2) := by decide +kernel
theorem dX6_world_85 : decode cX6_world 85 = .ok (.aload_n 0, 1) := by decide +kernel
theorem dX6_world_86 : decode cX6_world 86 = .ok (.getfield 9, 3) := by decide +kernel
theorem dX6_world_89 : decode cX6_world 89 = .ok (.iload 4, 2) := by decide +kernel
theorem dX6_world_91 : decode cX6_world 91 = .ok (.iaload, 1) := by decide +kernel
theorem dX6_world_92 : decode cX6_world 92 = .ok (.iastore, 1) := by decide +kernel
theorem dX6_world_93 : decode cX6_world 93 = .ok (.iinc 4 1, 3) := by decide +kernel
theorem dX6_world_96 : decode cX6_world 96 = .ok (.goto (-25), 3) := by decide +kernel
theorem dX6_world_99 : decode cX6_world 99 = .ok (.aload_n 0, 1) := by decide +kernel
theorem dX6_world_100 : decode cX6_world 100 = .ok (.iconst 0, 1) := by decide +kernel
theorem dX6_world_101 : decode cX6_world 101 = .ok (.putfield 56, 3) := by decide +kernel
theorem dX6_world_104 : decode cX6_world 104 = .ok (.aload_n 0, 1) := by decide +kernel
theorem dX6_world_105 : decode cX6_world 105 = .ok (.getfield 56, 3) := by decide +kernel
theorem dX6_world_108 : decode cX6_world 108 = .ok (.aload_n 0, 1) := by decide +kernel
theorem dX6_world_109 : decode cX6_world 109 = .ok (.getfield 59, 3) := by decide +kernel
theorem dX6_world_112 : decode cX6_world 112 = .ok (.if_icmp .ge 40, 3) := by decide +kernel
theorem dX6_world_115 : decode cX6_world 115 = .ok (.aload_n 0, 1) := by decide +kernel
theorem dX6_world_116 : decode cX6_world 116 = .ok (.getfield 56, 3) := by decide +kernel
theorem dX6_world_119 : decode cX6_world 119 = .ok (.istore 4, 2) := by decide +kernel
theorem dX6_world_121 : decode cX6_world 121 = .ok (.aload_n 0, 1) := by decide +kernel
theorem dX6_world_122 : decode cX6_world 122 = .ok (.invokevirtual 65, 3) := by decide +kernel
theorem dX6_world_125 : decode cX6_world 125 = .ok (.istore 5, 2) := by decide +kernel
theorem dX6_world_127 : decode cX6_world 127 = .ok (.aload_n 0, 1) := by decide +kernel
theorem dX6_world_128 : decode cX6_world 128 = .ok (.invokevirtual 97, 3) := by decide +kernel
theorem dX6_world_131 : decode cX6_world 131 = .ok (.istore 6, 2) := by decide +kernel
theorem dX6_world_133 : decode cX6_world 133 = .ok (.aload_n 0, 1) := by decide +kernel
theorem dX6_world_134 : decode cX6_world 134 = .ok (.iload 5, 2) := by decide +kernel
theorem dX6_world_136 : decode cX6_world 136 = .ok (.invokevirtual 100, 3) := by decide +kernel
theorem dX6_world_139 : decode cX6_world 139 = .ok (.ifCond .ne 10, 3) := by decide +kernel
theorem dX6_world_142 : decode cX6_world 142 = .ok (.sipush (-2000), 3) := by decide +kernel
theorem dX6_world_145 : decode cX6_world 145 = .ok (.iload 4, 2) := by decide +kernel
theorem dX6_world_147 : decode cX6_world 147 = .ok (.isub, 1) := by decide +kernel
theorem dX6_world_148 : decode cX6_world 148 = .ok (.ireturn, 1) := by decide +kernel
theorem dX6_world_149 : decode cX6_world 149 = .ok (.goto (-45), 3) := by decide +kernel
theorem dX6_world_152 : decode cX6_world 152 = .ok (.iconst 0, 1) := by decide +kernel
theorem dX6_world_153 : decode cX6_world 153 = .ok (.istore 4, 2) := by decide +kernel
theorem dX6_world_155 : decode cX6_world 155 = .ok (.iload 4, 2) := by decide +kernel
theorem dX6_world_157 : decode cX6_world 157 = .ok (.sipush 503, 3) := by decide +kernel
theorem dX6_world_160 : decode cX6_world 160 = .ok (.if_icmp .ge 23, 3) := by decide +kernel
theorem dX6_world_163 : decode cX6_world 163 = .ok (.aload_n 0, 1) := by decide +kernel
theorem dX6_world_164 : decode cX6_world 164 = .ok (.getfield 9, 3) := by decide +kernel
theorem dX6_world_167 : decode cX6_world 167 = .ok (.iload 4, 2) := by decide +kernel
theorem dX6_world_169 : decode cX6_world 169 = .ok (.aload_n 0, 1) := by decide +kernel
theorem dX6_world_170 : decode cX6_world 170 = .ok (.getfield 41, 3) := by decide +kernel
theorem dX6_world_173 : decode cX6_world 173 = .ok (.iload 4, 2) := by decide +kernel
theorem dX6_world_175 : decode cX6_world 175 = .ok (.iaload, 1) := by decide +kernel
theorem dX6_world_176 : decode cX6_world 176 = .ok (.iastore, 1) := by decide +kernel
theorem dX6_world_177 : decode cX6_world 177 = .ok (.iinc 4 1, 3) := by decide +kernel
theorem dX6_world_180 : decode cX6_world 180 = .ok (.goto (-25), 3) := by decide +kernel
theorem dX6_world_183 : decode cX6_world 183 = .ok (.iload_n 3, 1) := by decide +kernel
theorem dX6_world_184 : decode cX6_world 184 = .ok (.ireturn, 1) := by decide +kernel
theorem dX6_place_0 : decode cX6_place 0 = .ok (.aload_n 0, 1) := by decide +kernel
theorem dX6_place_1 : decode cX6_place 1 = .ok (.iload_n 1, 1) := by decide +kernel
theorem dX6_place_2 : decode cX6_place 2 = .ok (.invokevirtual 103, 3) := by decide +kernel
theorem dX6_place_5 : decode cX6_place 5 = .ok (.ifCond .eq 24, 3) := by decide +kernel
theorem dX6_place_8 : decode cX6_place 8 = .ok (.iload_n 2, 1) := by decide +kernel
theorem dX6_place_9 : decode cX6_place 9 = .ok (.i2l, 1) := by decide +kernel
theorem dX6_place_10 : decode cX6_place 10 = .ok (.lconst 0, 1) := by decide +kernel
theorem dX6_place_11 : decode cX6_place 11 = .ok (.ldc2_w 106, 3) := by decide +kernel
theorem dX6_place_14 : decode cX6_place 14 = .ok (.invokestatic 48, 3) := by decide +kernel
theorem dX6_place_17 : decode cX6_place 17 = .ok (.ifCond .eq 12, 3) := by decide +kernel
theorem dX6_place_20 : decode cX6_place 20 = .ok (.aload_n 0, 1) := by decide +kernel
theorem dX6_place_21 : decode cX6_place 21 = .ok (.iload_n 1, 1) := by decide +kernel
theorem dX6_place_22 : decode cX6_place 22 = .ok (.iload_n 2, 1) := by decide +kernel
theorem dX6_place_23 : decode cX6_place 23 = .ok (.invokevirtual 108, 3) := by decide +kernel
theorem dX6_place_26 : decode cX6_place 26 = .ok (.goto 5, 3) := by decide +kernel
theorem dX6_place_29 : decode cX6_place 29 = .ok (.ldc 111, 2) := by decide +kernel
theorem dX6_place_31 : decode cX6_place 31 = .ok (.ireturn, 1) := by decide +kernel
theorem dX6_trade_0 : decode cX6_trade 0 = .ok (.aload_n 0, 1) := by decide +kernel
theorem dX6_trade_1 : decode cX6_trade 1 = .ok (.iload_n 1, 1) := by decide +kernel
theorem dX6_trade_2 : decode cX6_trade 2 = .ok (.invokevirtual 103, 3) := by decide +kernel
theorem dX6_trade_5 : decode cX6_trade 5 = .ok (.ifCond .eq 33, 3) := by decide +kernel
theorem dX6_trade_8 : decode cX6_trade 8 = .ok (.aload_n 0, 1) := by decide +kernel
theorem dX6_trade_9 : decode cX6_trade 9 = .ok (.iload_n 2, 1) := by decide +kernel
theorem dX6_trade_10 : decode cX6_trade 10 = .ok (.invokevirtual 103, 3) := by decide +kernel
theorem dX6_trade_13 : decode cX6_trade 13 = .ok (.ifCond .eq 25, 3) := by decide +kernel
theorem dX6_trade_16 : decode cX6_trade 16 = .ok (.iload_n 1, 1) := by decide +kernel
theorem dX6_trade_17 : decode cX6_trade 17 = .ok (.iload_n 2, 1) := by decide +kernel
theorem dX6_trade_18 : decode cX6_trade 18 = .ok (.if_icmp .eq 20, 3) := by decide +kernel
theorem dX6_trade_21 : decode cX6_trade 21 = .ok (.aload_n 0, 1) := by decide +kernel
theorem dX6_trade_22 : decode cX6_trade 22 = .ok (.getfield 9, 3) := by decide +kernel
theorem dX6_trade_25 : decode cX6_trade 25 = .ok (.bipush 43, 2) := by decide +kernel
theorem dX6_trade_27 : decode cX6_trade 27 = .ok (.bipush 10, 2) := by decide +kernel
theorem dX6_trade_29 : decode cX6_trade 29 = .ok (.iload_n 1, 1) := by decide +kernel
theorem dX6_trade_30 : decode cX6_trade 30 = .ok (.imul, 1) := by decide +kernel
theorem dX6_trade_31 : decode cX6_trade 31 = .ok (.iadd, 1) := by decide +kernel
theorem dX6_trade_32 : decode cX6_trade 32 = .ok (.iload_n 2, 1) := by decide +kernel
theorem dX6_trade_33 : decode cX6_trade 33 = .ok (.iadd, 1) := by decide +kernel
theorem dX6_trade_34 : decode cX6_trade 34 = .ok (.iaload, 1) := by decide +kernel
theorem dX6_trade_35 : decode cX6_trade 35 = .ok (.goto 4, 3) := by decide +kernel
theorem dX6_trade_38 : decode cX6_trade 38 = .ok (.iconst (-1), 1) := by decide +kernel
theorem dX6_trade_39 : decode cX6_trade 39 = .ok (.ireturn, 1) := by decide +kernel
theorem dX6_choose_0 : decode cX6_choose 0 = .ok (.aload_n 0, 1) := by decide +kernel
theorem dX6_choose_1 : decode cX6_choose 1 = .ok (.iload_n 1, 1) := by decide +kernel
theorem dX6_choose_2 : decode cX6_choose 2 = .ok (.invokevirtual 103, 3) := by decide +kernel
theorem dX6_choose_5 : decode cX6_choose 5 = .ok (.ifCond .eq 30, 3) := by decide +kernel
theorem dX6_choose_8 : decode cX6_choose 8 = .ok (.iload_n 2, 1) := by decide +kernel
theorem dX6_choose_9 : decode cX6_choose 9 = .ok (.i2l, 1) := by decide +kernel
theorem dX6_choose_10 : decode cX6_choose 10 = .ok (.ldc2_w 112, 3) := by decide +kernel
theorem dX6_choose_13 : decode cX6_choose 13 = .ok (.lconst 1, 1) := by decide +kernel
theorem dX6_choose_14 : decode cX6_choose 14 = .ok (.invokestatic 48, 3) := by decide +kernel
theorem dX6_choose_17 : decode cX6_choose 17 = .ok (.ifCond .eq 18, 3) := by decide +kernel
theorem dX6_choose_20 : decode cX6_choose 20 = .ok (.aload_n 0, 1) := by decide +kernel
theorem dX6_choose_21 : decode cX6_choose 21 = .ok (.iconst 3, 1) := by decide +kernel
theorem dX6_choose_22 : decode cX6_choose 22 = .ok (.iconst 4, 1) := by decide +kernel
theorem dX6_choose_23 : decode cX6_choose 23 = .ok (.iload_n 1, 1) := by decide +kernel
theorem dX6_choose_24 : decode cX6_choose 24 = .ok (.imul, 1) := by decide +kernel
theorem dX6_choose_25 : decode cX6_choose 25 = .ok (.iadd, 1) := by decide +kernel
theorem dX6_choose_26 : decode cX6_choose 26 = .ok (.iconst 2, 1) := by decide +kernel
theorem dX6_choose_27 : decode cX6_choose 27 = .ok (.iadd, 1) := by decide +kernel
theorem dX6_choose_28 : decode cX6_choose 28 = .ok (.iload_n 2, 1) := by decide +kernel
theorem dX6_choose_29 : decode cX6_choose 29 = .ok (.invokevirtual 114, 3) := by decide +kernel
theorem dX6_choose_32 : decode cX6_choose 32 = .ok (.goto 5, 3) := by decide +kernel
theorem dX6_choose_35 : decode cX6_choose 35 = .ok (.ldc 111, 2) := by decide +kernel
theorem dX6_choose_37 : decode cX6_choose 37 = .ok (.ireturn, 1) := by decide +kernel
theorem dX6_line_0 : decode cX6_line 0 = .ok (.iload_n 1, 1) := by decide +kernel
theorem dX6_line_1 : decode cX6_line 1 = .ok (.i2l, 1) := by decide +kernel
theorem dX6_line_2 : decode cX6_line 2 = .ok (.lconst 0, 1) := by decide +kernel
theorem dX6_line_3 : decode cX6_line 3 = .ok (.ldc2_w 117, 3) := by decide +kernel
theorem dX6_line_6 : decode cX6_line 6 = .ok (.invokestatic 48, 3) := by decide +kernel
theorem dX6_line_9 : decode cX6_line 9 = .ok (.ifCond .eq 12, 3) := by decide +kernel
theorem dX6_line_12 : decode cX6_line 12 = .ok (.aload_n 0, 1) := by decide +kernel
theorem dX6_line_13 : decode cX6_line 13 = .ok (.iconst 2, 1) := by decide +kernel
theorem dX6_line_14 : decode cX6_line 14 = .ok (.iload_n 1, 1) := by decide +kernel
theorem dX6_line_15 : decode cX6_line 15 = .ok (.invokevirtual 114, 3) := by decide +kernel
theorem dX6_line_18 : decode cX6_line 18 = .ok (.goto 4, 3) := by decide +kernel
theorem dX6_line_21 : decode cX6_line 21 = .ok (.iconst (-1), 1) := by decide +kernel
theorem dX6_line_22 : decode cX6_line 22 = .ok (.ireturn, 1) := by decide +kernel
theorem dX6_eastOf_0 : decode cX6_eastOf 0 = .ok (.iload_n 1, 1) := by decide +kernel
theorem dX6_eastOf_1 : decode cX6_eastOf 1 = .ok (.aload_n 0, 1) := by decide +kernel
theorem dX6_eastOf_2 : decode cX6_eastOf 2 = .ok (.getfield 9, 3) := by decide +kernel
theorem dX6_eastOf_5 : decode cX6_eastOf 5 = .ok (.iconst 2, 1) := by decide +kernel
theorem dX6_eastOf_6 : decode cX6_eastOf 6 = .ok (.iaload, 1) := by decide +kernel
theorem dX6_eastOf_7 : decode cX6_eastOf 7 = .ok (.isub, 1) := by decide +kernel
theorem dX6_eastOf_8 : decode cX6_eastOf 8 = .ok (.istore_n 2, 1) := by decide +kernel
theorem dX6_eastOf_9 : decode cX6_eastOf 9 = .ok (.iload_n 2, 1) := by decide +kernel
theorem dX6_eastOf_10 : decode cX6_eastOf 10 = .ok (.ifCond .ge 11, 3) := by decide +kernel
theorem dX6_eastOf_13 : decode cX6_eastOf 13 = .ok (.iload_n 2, 1) := by decide +kernel
theorem dX6_eastOf_14 : decode cX6_eastOf 14 = .ok (.sipush 360, 3) := by decide +kernel
theorem dX6_eastOf_17 : decode cX6_eastOf 17 = .ok (.iadd, 1) := by decide +kernel
theorem dX6_eastOf_18 : decode cX6_eastOf 18 = .ok (.goto 4, 3) := by decide +kernel
theorem dX6_eastOf_21 : decode cX6_eastOf 21 = .ok (.iload_n 2, 1) := by decide +kernel
theorem dX6_eastOf_22 : decode cX6_eastOf 22 = .ok (.ireturn, 1) := by decide +kernel
theorem dX6_dayAt_0 : decode cX6_dayAt 0 = .ok (.iload 5, 2) := by decide +kernel
theorem dX6_dayAt_2 : decode cX6_dayAt 2 = .ok (.i2l, 1) := by decide +kernel
theorem dX6_dayAt_3 : decode cX6_dayAt 3 = .ok (.ldc2_w 119, 3) := by decide +kernel
theorem dX6_dayAt_6 : decode cX6_dayAt 6 = .ok (.lsub, 1) := by decide +kernel
theorem dX6_dayAt_7 : decode cX6_dayAt 7 = .ok (.iload 4, 2) := by decide +kernel
theorem dX6_dayAt_9 : decode cX6_dayAt 9 = .ok (.iconst 1, 1) := by decide +kernel
theorem dX6_dayAt_10 : decode cX6_dayAt 10 = .ok (.if_icmp .ne 9, 3) := by decide +kernel
theorem dX6_dayAt_13 : decode cX6_dayAt 13 = .ok (.ldc2_w 121, 3) := by decide +kernel
theorem dX6_dayAt_16 : decode cX6_dayAt 16 = .ok (.goto 16, 3) := by decide +kernel
theorem dX6_dayAt_19 : decode cX6_dayAt 19 = .ok (.iload 4, 2) := by decide +kernel
theorem dX6_dayAt_21 : decode cX6_dayAt 21 = .ok (.iconst 2, 1) := by decide +kernel
theorem dX6_dayAt_22 : decode cX6_dayAt 22 = .ok (.if_icmp .ne 9, 3) := by decide +kernel
theorem dX6_dayAt_25 : decode cX6_dayAt 25 = .ok (.ldc2_w 123, 3) := by decide +kernel
theorem dX6_dayAt_28 : decode cX6_dayAt 28 = .ok (.goto 4, 3) := by decide +kernel
theorem dX6_dayAt_31 : decode cX6_dayAt 31 = .ok (.lconst 0, 1) := by decide +kernel
theorem dX6_dayAt_32 : decode cX6_dayAt 32 = .ok (.ladd, 1) := by decide +kernel
theorem dX6_dayAt_33 : decode cX6_dayAt 33 = .ok (.lload_n 2, 1) := by decide +kernel
theorem dX6_dayAt_34 : decode cX6_dayAt 34 = .ok (.lmul, 1) := by decide +kernel
theorem dX6_dayAt_35 : decode cX6_dayAt 35 = .ok (.ldc2_w 125, 3) := by decide +kernel
theorem dX6_dayAt_38 : decode cX6_dayAt 38 = .ok (.lload_n 0, 1) := by decide +kernel
theorem dX6_dayAt_39 : decode cX6_dayAt 39 = .ok (.lmul, 1) := by decide +kernel
theorem dX6_dayAt_40 : decode cX6_dayAt 40 = .ok (.ladd, 1) := by decide +kernel
theorem dX6_dayAt_41 : decode cX6_dayAt 41 = .ok (.lstore 6, 2) := by decide +kernel
theorem dX6_dayAt_43 : decode cX6_dayAt 43 = .ok (.lload 6, 2) := by decide +kernel
theorem dX6_dayAt_45 : decode cX6_dayAt 45 = .ok (.ldc2_w 127, 3) := by decide +kernel
theorem dX6_dayAt_48 : decode cX6_dayAt 48 = .ok (.lload_n 2, 1) := by decide +kernel
theorem dX6_dayAt_49 : decode cX6_dayAt 49 = .ok (.lmul, 1) := by decide +kernel
theorem dX6_dayAt_50 : decode cX6_dayAt 50 = .ok (.invokestatic 129, 3) := by decide +kernel
theorem dX6_dayAt_53 : decode cX6_dayAt 53 = .ok (.l2i, 1) := by decide +kernel
theorem dX6_dayAt_54 : decode cX6_dayAt 54 = .ok (.ireturn, 1) := by decide +kernel
theorem dX6_dayIn_0 : decode cX6_dayIn 0 = .ok (.aload_n 0, 1) := by decide +kernel
theorem dX6_dayIn_1 : decode cX6_dayIn 1 = .ok (.aload_n 0, 1) := by decide +kernel
theorem dX6_dayIn_2 : decode cX6_dayIn 2 = .ok (.iload_n 1, 1) := by decide +kernel
theorem dX6_dayIn_3 : decode cX6_dayIn 3 = .ok (.iconst 0, 1) := by decide +kernel
theorem dX6_dayIn_4 : decode cX6_dayIn 4 = .ok (.invokevirtual 108, 3) := by decide +kernel
theorem dX6_dayIn_7 : decode cX6_dayIn 7 = .ok (.invokevirtual 133, 3) := by decide +kernel
theorem dX6_dayIn_10 : decode cX6_dayIn 10 = .ok (.i2l, 1) := by decide +kernel
theorem dX6_dayIn_11 : decode cX6_dayIn 11 = .ok (.lconst 1, 1) := by decide +kernel
theorem dX6_dayIn_12 : decode cX6_dayIn 12 = .ok (.aload_n 0, 1) := by decide +kernel
theorem dX6_dayIn_13 : decode cX6_dayIn 13 = .ok (.iload_n 1, 1) := by decide +kernel
theorem dX6_dayIn_14 : decode cX6_dayIn 14 = .ok (.iconst 1, 1) := by decide +kernel
theorem dX6_dayIn_15 : decode cX6_dayIn 15 = .ok (.invokevirtual 108, 3) := by decide +kernel
theorem dX6_dayIn_18 : decode cX6_dayIn 18 = .ok (.iload_n 2, 1) := by decide +kernel
theorem dX6_dayIn_19 : decode cX6_dayIn 19 = .ok (.invokestatic 137, 3) := by decide +kernel
theorem dX6_dayIn_22 : decode cX6_dayIn 22 = .ok (.aload_n 0, 1) := by decide +kernel
theorem dX6_dayIn_23 : decode cX6_dayIn 23 = .ok (.iload_n 1, 1) := by decide +kernel
theorem dX6_dayIn_24 : decode cX6_dayIn 24 = .ok (.iconst 2, 1) := by decide +kernel
theorem dX6_dayIn_25 : decode cX6_dayIn 25 = .ok (.invokevirtual 108, 3) := by decide +kernel
theorem dX6_dayIn_28 : decode cX6_dayIn 28 = .ok (.iadd, 1) := by decide +kernel
theorem dX6_dayIn_29 : decode cX6_dayIn 29 = .ok (.ireturn, 1) := by decide +kernel
theorem dX6_dayOf_0 : decode cX6_dayOf 0 = .ok (.aload_n 0, 1) := by decide +kernel
theorem dX6_dayOf_1 : decode cX6_dayOf 1 = .ok (.iload_n 1, 1) := by decide +kernel
theorem dX6_dayOf_2 : decode cX6_dayOf 2 = .ok (.invokevirtual 103, 3) := by decide +kernel
theorem dX6_dayOf_5 : decode cX6_dayOf 5 = .ok (.ifCond .eq 20, 3) := by decide +kernel
theorem dX6_dayOf_8 : decode cX6_dayOf 8 = .ok (.iload_n 2, 1) := by decide +kernel
theorem dX6_dayOf_9 : decode cX6_dayOf 9 = .ok (.i2l, 1) := by decide +kernel
theorem dX6_dayOf_10 : decode cX6_dayOf 10 = .ok (.invokestatic 141, 3) := by decide +kernel
theorem dX6_dayOf_13 : decode cX6_dayOf 13 = .ok (.ifCond .eq 12, 3) := by decide +kernel
theorem dX6_dayOf_16 : decode cX6_dayOf 16 = .ok (.aload_n 0, 1) := by decide +kernel
theorem dX6_dayOf_17 : decode cX6_dayOf 17 = .ok (.iload_n 1, 1) := by decide +kernel
theorem dX6_dayOf_18 : decode cX6_dayOf 18 = .ok (.iload_n 2, 1) := by decide +kernel
theorem dX6_dayOf_19 : decode cX6_dayOf 19 = .ok (.invokevirtual 145, 3) := by decide +kernel
theorem dX6_dayOf_22 : decode cX6_dayOf 22 = .ok (.goto 5, 3) := by decide +kernel
theorem dX6_dayOf_25 : decode cX6_dayOf 25 = .ok (.ldc 111, 2) := by decide +kernel
theorem dX6_dayOf_27 : decode cX6_dayOf 27 = .ok (.ireturn, 1) := by decide +kernel
theorem dX6_hourOf_0 : decode cX6_hourOf 0 = .ok (.aload_n 0, 1) := by decide +kernel
theorem dX6_hourOf_1 : decode cX6_hourOf 1 = .ok (.iload_n 1, 1) := by decide +kernel
theorem dX6_hourOf_2 : decode cX6_hourOf 2 = .ok (.invokevirtual 103, 3) := by decide +kernel
theorem dX6_hourOf_5 : decode cX6_hourOf 5 = .ok (.ifCond .eq 11, 3) := by decide +kernel
theorem dX6_hourOf_8 : decode cX6_hourOf 8 = .ok (.iload_n 2, 1) := by decide +kernel
theorem dX6_hourOf_9 : decode cX6_hourOf 9 = .ok (.i2l, 1) := by decide +kernel
theorem dX6_hourOf_10 : decode cX6_hourOf 10 = .ok (.invokestatic 141, 3) := by decide +kernel
theorem dX6_hourOf_13 : decode cX6_hourOf 13 = .ok (.ifCond .ne 5, 3) := by decide +kernel
theorem dX6_hourOf_16 : decode cX6_hourOf 16 = .ok (.iconst (-1), 1) := by decide +kernel
theorem dX6_hourOf_17 : decode cX6_hourOf 17 = .ok (.ireturn, 1) := by decide +kernel
theorem dX6_hourOf_18 : decode cX6_hourOf 18 = .ok (.iload_n 2, 1) := by decide +kernel
theorem dX6_hourOf_19 : decode cX6_hourOf 19 = .ok (.sipush 720, 3) := by decide +kernel
theorem dX6_hourOf_22 : decode cX6_hourOf 22 = .ok (.isub, 1) := by decide +kernel
theorem dX6_hourOf_23 : decode cX6_hourOf 23 = .ok (.iconst 4, 1) := by decide +kernel
theorem dX6_hourOf_24 : decode cX6_hourOf 24 = .ok (.aload_n 0, 1) := by decide +kernel
theorem dX6_hourOf_25 : decode cX6_hourOf 25 = .ok (.aload_n 0, 1) := by decide +kernel
theorem dX6_hourOf_26 : decode cX6_hourOf 26 = .ok (.iload_n 1, 1) := by decide +kernel
theorem dX6_hourOf_27 : decode cX6_hourOf 27 = .ok (.iconst 0, 1) := by decide +kernel
theorem dX6_hourOf_28 : decode cX6_hourOf 28 = .ok (.invokevirtual 108, 3) := by decide +kernel
theorem dX6_hourOf_31 : decode cX6_hourOf 31 = .ok (.invokevirtual 133, 3) := by decide +kernel
theorem dX6_hourOf_34 : decode cX6_hourOf 34 = .ok (.imul, 1) := by decide +kernel
theorem dX6_hourOf_35 : decode cX6_hourOf 35 = .ok (.iadd, 1) := by decide +kernel
theorem dX6_hourOf_36 : decode cX6_hourOf 36 = .ok (.istore_n 3, 1) := by decide +kernel
theorem dX6_hourOf_37 : decode cX6_hourOf 37 = .ok (.iload_n 3, 1) := by decide +kernel
theorem dX6_hourOf_38 : decode cX6_hourOf 38 = .ok (.i2l, 1) := by decide +kernel
theorem dX6_hourOf_39 : decode cX6_hourOf 39 = .ok (.ldc2_w 127, 3) := by decide +kernel
theorem dX6_hourOf_42 : decode cX6_hourOf 42 = .ok (.iload_n 3, 1) := by decide +kernel
theorem dX6_hourOf_43 : decode cX6_hourOf 43 = .ok (.i2l, 1) := by decide +kernel
theorem dX6_hourOf_44 : decode cX6_hourOf 44 = .ok (.ldc2_w 127, 3) := by decide +kernel
theorem dX6_hourOf_47 : decode cX6_hourOf 47 = .ok (.invokestatic 129, 3) := by decide +kernel
theorem dX6_hourOf_50 : decode cX6_hourOf 50 = .ok (.lmul, 1) := by decide +kernel
theorem dX6_hourOf_51 : decode cX6_hourOf 51 = .ok (.lsub, 1) := by decide +kernel
theorem dX6_hourOf_52 : decode cX6_hourOf 52 = .ok (.l2i, 1) := by decide +kernel
theorem dX6_hourOf_53 : decode cX6_hourOf 53 = .ok (.ireturn, 1) := by decide +kernel
theorem dX6_tell_0 : decode cX6_tell 0 = .ok (.aload_n 0, 1) := by decide +kernel
theorem dX6_tell_1 : decode cX6_tell 1 = .ok (.getfield 9, 3) := by decide +kernel
theorem dX6_tell_4 : decode cX6_tell 4 = .ok (.sipush 143, 3) := by decide +kernel
theorem dX6_tell_7 : decode cX6_tell 7 = .ok (.bipush 45, 2) := by decide +kernel
theorem dX6_tell_9 : decode cX6_tell 9 = .ok (.iload_n 1, 1) := by decide +kernel
theorem dX6_tell_10 : decode cX6_tell 10 = .ok (.imul, 1) := by decide +kernel
theorem dX6_tell_11 : decode cX6_tell 11 = .ok (.iadd, 1) := by decide +kernel
theorem dX6_tell_12 : decode cX6_tell 12 = .ok (.iload_n 2, 1) := by decide +kernel
theorem dX6_tell_13 : decode cX6_tell 13 = .ok (.iadd, 1) := by decide +kernel
theorem dX6_tell_14 : decode cX6_tell 14 = .ok (.iaload, 1) := by decide +kernel
theorem dX6_tell_15 : decode cX6_tell 15 = .ok (.ireturn, 1) := by decide +kernel
theorem dX6_traveller_0 : decode cX6_traveller 0 = .ok (.iload_n 1, 1) := by decide +kernel
theorem dX6_traveller_1 : decode cX6_traveller 1 = .ok (.i2l, 1) := by decide +kernel
theorem dX6_traveller_2 : decode cX6_traveller 2 = .ok (.lconst 0, 1) := by decide +kernel
theorem dX6_traveller_3 : decode cX6_traveller 3 = .ok (.ldc2_w 54, 3) := by decide +kernel
theorem dX6_traveller_6 : decode cX6_traveller 6 = .ok (.invokestatic 48, 3) := by decide +kernel
theorem dX6_traveller_9 : decode cX6_traveller 9 = .ok (.ifCond .eq 23, 3) := by decide +kernel
theorem dX6_traveller_12 : decode cX6_traveller 12 = .ok (.aload_n 0, 1) := by decide +kernel
theorem dX6_traveller_13 : decode cX6_traveller 13 = .ok (.iload_n 2, 1) := by decide +kernel
theorem dX6_traveller_14 : decode cX6_traveller 14 = .ok (.invokevirtual 103, 3) := by decide +kernel
theorem dX6_traveller_17 : decode cX6_traveller 17 = .ok (.ifCond .eq 15, 3) := by decide +kernel
theorem dX6_traveller_20 : decode cX6_traveller 20 = .ok (.iload_n 3, 1) := by decide +kernel
theorem dX6_traveller_21 : decode cX6_traveller 21 = .ok (.i2l, 1) := by decide +kernel
theorem dX6_traveller_22 : decode cX6_traveller 22 = .ok (.lconst 0, 1) := by decide +kernel
theorem dX6_traveller_23 : decode cX6_traveller 23 = .ok (.ldc2_w 148, 3) := by decide +kernel
theorem dX6_traveller_26 : decode cX6_traveller 26 = .ok (.invokestatic 48, 3) := by decide +kernel
theorem dX6_traveller_29 : decode cX6_traveller 29 = .ok (.ifCond .ne 5, 3) := by decide +kernel
theorem dX6_traveller_32 : decode cX6_traveller 32 = .ok (.iconst (-1), 1) := by decide +kernel
theorem dX6_traveller_33 : decode cX6_traveller 33 = .ok (.ireturn, 1) := by decide +kernel
theorem dX6_traveller_34 : decode cX6_traveller 34 = .ok (.aload_n 0, 1) := by decide +kernel
theorem dX6_traveller_35 : decode cX6_traveller 35 = .ok (.getfield 9, 3) := by decide +kernel
theorem dX6_traveller_38 : decode cX6_traveller 38 = .ok (.iconst 1, 1) := by decide +kernel
theorem dX6_traveller_39 : decode cX6_traveller 39 = .ok (.iaload, 1) := by decide +kernel
theorem dX6_traveller_40 : decode cX6_traveller 40 = .ok (.bipush 8, 2) := by decide +kernel
theorem dX6_traveller_42 : decode cX6_traveller 42 = .ok (.if_icmp .ne 6, 3) := by decide +kernel
theorem dX6_traveller_45 : decode cX6_traveller 45 = .ok (.bipush (-2), 2) := by decide +kernel
theorem dX6_traveller_47 : decode cX6_traveller 47 = .ok (.ireturn, 1) := by decide +kernel
theorem dX6_traveller_48 : decode cX6_traveller 48 = .ok (.sipush 143, 3) := by decide +kernel
theorem dX6_traveller_51 : decode cX6_traveller 51 = .ok (.bipush 45, 2) := by decide +kernel
theorem dX6_traveller_53 : decode cX6_traveller 53 = .ok (.aload_n 0, 1) := by decide +kernel
theorem dX6_traveller_54 : decode cX6_traveller 54 = .ok (.getfield 9, 3) := by decide +kernel
theorem dX6_traveller_57 : decode cX6_traveller 57 = .ok (.iconst 1, 1) := by decide +kernel
theorem dX6_traveller_58 : decode cX6_traveller 58 = .ok (.iaload, 1) := by decide +kernel
theorem dX6_traveller_59 : decode cX6_traveller 59 = .ok (.imul, 1) := by decide +kernel
theorem dX6_traveller_60 : decode cX6_traveller 60 = .ok (.iadd, 1) := by decide +kernel
theorem dX6_traveller_61 : decode cX6_traveller 61 = .ok (.istore 4, 2) := by decide +kernel
theorem dX6_traveller_63 : decode cX6_traveller 63 = .ok (.iconst 0, 1) := by decide +kernel
theorem dX6_traveller_64 : decode cX6_traveller 64 = .ok (.istore 5, 2) := by decide +kernel
theorem dX6_traveller_66 : decode cX6_traveller 66 = .ok (.iload 5, 2) := by decide +kernel
theorem dX6_traveller_68 : decode cX6_traveller 68 = .ok (.bipush 45, 2) := by decide +kernel
theorem dX6_traveller_70 : decode cX6_traveller 70 = .ok (.if_icmp .ge 20, 3) := by decide +kernel
theorem dX6_traveller_73 : decode cX6_traveller 73 = .ok (.aload_n 0, 1) := by decide +kernel
theorem dX6_traveller_74 : decode cX6_traveller 74 = .ok (.getfield 9, 3) := by decide +kernel
theorem dX6_traveller_77 : decode cX6_traveller 77 = .ok (.iload 4, 2) := by decide +kernel
theorem dX6_traveller_79 : decode cX6_traveller 79 = .ok (.iload 5, 2) := by decide +kernel
theorem dX6_traveller_81 : decode cX6_traveller 81 = .ok (.iadd, 1) := by decide +kernel
theorem dX6_traveller_82 : decode cX6_traveller 82 = .ok (.iconst 0, 1) := by decide +kernel
theorem dX6_traveller_83 : decode cX6_traveller 83 = .ok (.iastore, 1) := by decide +kernel
theorem dX6_traveller_84 : decode cX6_traveller 84 = .ok (.iinc 5 1, 3) := by decide +kernel
theorem dX6_traveller_87 : decode cX6_traveller 87 = .ok (.goto (-21), 3) := by decide +kernel
theorem dX6_traveller_90 : decode cX6_traveller 90 = .ok (.aload_n 0, 1) := by decide +kernel
theorem dX6_traveller_91 : decode cX6_traveller 91 = .ok (.getfield 9, 3) := by decide +kernel
theorem dX6_traveller_94 : decode cX6_traveller 94 = .ok (.iload 4, 2) := by decide +kernel
theorem dX6_traveller_96 : decode cX6_traveller 96 = .ok (.iload_n 1, 1) := by decide +kernel
theorem dX6_traveller_97 : decode cX6_traveller 97 = .ok (.iastore, 1) := by decide +kernel
theorem dX6_traveller_98 : decode cX6_traveller 98 = .ok (.aload_n 0, 1) := by decide +kernel
theorem dX6_traveller_99 : decode cX6_traveller 99 = .ok (.getfield 9, 3) := by decide +kernel
theorem dX6_traveller_102 : decode cX6_traveller 102 = .ok (.iload 4, 2) := by decide +kernel
theorem dX6_traveller_104 : decode cX6_traveller 104 = .ok (.iconst 1, 1) := by decide +kernel
theorem dX6_traveller_105 : decode cX6_traveller 105 = .ok (.iadd, 1) := by decide +kernel
theorem dX6_traveller_106 : decode cX6_traveller 106 = .ok (.iload_n 2, 1) := by decide +kernel
theorem dX6_traveller_107 : decode cX6_traveller 107 = .ok (.iastore, 1) := by decide +kernel
theorem dX6_traveller_108 : decode cX6_traveller 108 = .ok (.aload_n 0, 1) := by decide +kernel
theorem dX6_traveller_109 : decode cX6_traveller 109 = .ok (.getfield 9, 3) := by decide +kernel
theorem dX6_traveller_112 : decode cX6_traveller 112 = .ok (.iload 4, 2) := by decide +kernel
theorem dX6_traveller_114 : decode cX6_traveller 114 = .ok (.iconst 2, 1) := by decide +kernel
theorem dX6_traveller_115 : decode cX6_traveller 115 = .ok (.iadd, 1) := by decide +kernel
theorem dX6_traveller_116 : decode cX6_traveller 116 = .ok (.iload_n 3, 1) := by decide +kernel
theorem dX6_traveller_117 : decode cX6_traveller 117 = .ok (.iastore, 1) := by decide +kernel
theorem dX6_traveller_118 : decode cX6_traveller 118 = .ok (.aload_n 0, 1) := by decide +kernel
theorem dX6_traveller_119 : decode cX6_traveller 119 = .ok (.getfield 9, 3) := by decide +kernel
theorem dX6_traveller_122 : decode cX6_traveller 122 = .ok (.iconst 1, 1) := by decide +kernel
theorem dX6_traveller_123 : decode cX6_traveller 123 = .ok (.dup2, 1) := by decide +kernel
theorem dX6_traveller_124 : decode cX6_traveller 124 = .ok (.iaload, 1) := by decide +kernel
theorem dX6_traveller_125 : decode cX6_traveller 125 = .ok (.iconst 1, 1) := by decide +kernel
theorem dX6_traveller_126 : decode cX6_traveller 126 = .ok (.iadd, 1) := by decide +kernel
theorem dX6_traveller_127 : decode cX6_traveller 127 = .ok (.iastore, 1) := by decide +kernel
theorem dX6_traveller_128 : decode cX6_traveller 128 = .ok (.aload_n 0, 1) := by decide +kernel
theorem dX6_traveller_129 : decode cX6_traveller 129 = .ok (.getfield 9, 3) := by decide +kernel
theorem dX6_traveller_132 : decode cX6_traveller 132 = .ok (.iconst 1, 1) := by decide +kernel
theorem dX6_traveller_133 : decode cX6_traveller 133 = .ok (.iaload, 1) := by decide +kernel
theorem dX6_traveller_134 : decode cX6_traveller 134 = .ok (.iconst 1, 1) := by decide +kernel
theorem dX6_traveller_135 : decode cX6_traveller 135 = .ok (.isub, 1) := by decide +kernel
theorem dX6_traveller_136 : decode cX6_traveller 136 = .ok (.ireturn, 1) := by decide +kernel
theorem dX6_legOf_0 : decode cX6_legOf 0 = .ok (.aload_n 0, 1) := by decide +kernel
theorem dX6_legOf_1 : decode cX6_legOf 1 = .ok (.iload_n 1, 1) := by decide +kernel
theorem dX6_legOf_2 : decode cX6_legOf 2 = .ok (.iconst 4, 1) := by decide +kernel
theorem dX6_legOf_3 : decode cX6_legOf 3 = .ok (.iconst 4, 1) := by decide +kernel
theorem dX6_legOf_4 : decode cX6_legOf 4 = .ok (.iload_n 2, 1) := by decide +kernel
theorem dX6_legOf_5 : decode cX6_legOf 5 = .ok (.imul, 1) := by decide +kernel
theorem dX6_legOf_6 : decode cX6_legOf 6 = .ok (.iadd, 1) := by decide +kernel
theorem dX6_legOf_7 : decode cX6_legOf 7 = .ok (.iload_n 3, 1) := by decide +kernel
theorem dX6_legOf_8 : decode cX6_legOf 8 = .ok (.iadd, 1) := by decide +kernel
theorem dX6_legOf_9 : decode cX6_legOf 9 = .ok (.invokevirtual 150, 3) := by decide +kernel
theorem dX6_legOf_12 : decode cX6_legOf 12 = .ok (.ireturn, 1) := by decide +kernel
theorem dX6_endOf_0 : decode cX6_endOf 0 = .ok (.aload_n 0, 1) := by decide +kernel
theorem dX6_endOf_1 : decode cX6_endOf 1 = .ok (.iload_n 1, 1) := by decide +kernel
theorem dX6_endOf_2 : decode cX6_endOf 2 = .ok (.iload_n 2, 1) := by decide +kernel
theorem dX6_endOf_3 : decode cX6_endOf 3 = .ok (.iconst 2, 1) := by decide +kernel
theorem dX6_endOf_4 : decode cX6_endOf 4 = .ok (.invokevirtual 153, 3) := by decide +kernel
theorem dX6_endOf_7 : decode cX6_endOf 7 = .ok (.bipush 60, 2) := by decide +kernel
theorem dX6_endOf_9 : decode cX6_endOf 9 = .ok (.aload_n 0, 1) := by decide +kernel
theorem dX6_endOf_10 : decode cX6_endOf 10 = .ok (.iload_n 1, 1) := by decide +kernel
theorem dX6_endOf_11 : decode cX6_endOf 11 = .ok (.iload_n 2, 1) := by decide +kernel
theorem dX6_endOf_12 : decode cX6_endOf 12 = .ok (.iconst 3, 1) := by decide +kernel
theorem dX6_endOf_13 : decode cX6_endOf 13 = .ok (.invokevirtual 153, 3) := by decide +kernel
theorem dX6_endOf_16 : decode cX6_endOf 16 = .ok (.imul, 1) := by decide +kernel
theorem dX6_endOf_17 : decode cX6_endOf 17 = .ok (.iadd, 1) := by decide +kernel
theorem dX6_endOf_18 : decode cX6_endOf 18 = .ok (.ireturn, 1) := by decide +kernel
theorem dX6_leg_0 : decode cX6_leg 0 = .ok (.aload_n 0, 1) := by decide +kernel
theorem dX6_leg_1 : decode cX6_leg 1 = .ok (.iload_n 1, 1) := by decide +kernel
theorem dX6_leg_2 : decode cX6_leg 2 = .ok (.invokevirtual 157, 3) := by decide +kernel
theorem dX6_leg_5 : decode cX6_leg 5 = .ok (.ifCond .eq 33, 3) := by decide +kernel
theorem dX6_leg_8 : decode cX6_leg 8 = .ok (.aload_n 0, 1) := by decide +kernel
theorem dX6_leg_9 : decode cX6_leg 9 = .ok (.iload_n 2, 1) := by decide +kernel
theorem dX6_leg_10 : decode cX6_leg 10 = .ok (.invokevirtual 103, 3) := by decide +kernel
theorem dX6_leg_13 : decode cX6_leg 13 = .ok (.ifCond .eq 25, 3) := by decide +kernel
theorem dX6_leg_16 : decode cX6_leg 16 = .ok (.iload 4, 2) := by decide +kernel
theorem dX6_leg_18 : decode cX6_leg 18 = .ok (.i2l, 1) := by decide +kernel
theorem dX6_leg_19 : decode cX6_leg 19 = .ok (.invokestatic 141, 3) := by decide +kernel
theorem dX6_leg_22 : decode cX6_leg 22 = .ok (.ifCond .eq 16, 3) := by decide +kernel
theorem dX6_leg_25 : decode cX6_leg 25 = .ok (.iload 5, 2) := by decide +kernel
theorem dX6_leg_27 : decode cX6_leg 27 = .ok (.i2l, 1) := by decide +kernel
theorem dX6_leg_28 : decode cX6_leg 28 = .ok (.lconst 1, 1) := by decide +kernel
theorem dX6_leg_29 : decode cX6_leg 29 = .ok (.ldc2_w 160, 3) := by decide +kernel
theorem dX6_leg_32 : decode cX6_leg 32 = .ok (.invokestatic 48, 3) := by decide +kernel
theorem dX6_leg_35 : decode cX6_leg 35 = .ok (.ifCond .ne 5, 3) := by decide +kernel
theorem dX6_leg_38 : decode cX6_leg 38 = .ok (.iconst (-1), 1) := by decide +kernel
theorem dX6_leg_39 : decode cX6_leg 39 = .ok (.ireturn, 1) := by decide +kernel
theorem dX6_leg_40 : decode cX6_leg 40 = .ok (.aload_n 0, 1) := by decide +kernel
theorem dX6_leg_41 : decode cX6_leg 41 = .ok (.iload_n 1, 1) := by decide +kernel
theorem dX6_leg_42 : decode cX6_leg 42 = .ok (.iconst 3, 1) := by decide +kernel
theorem dX6_leg_43 : decode cX6_leg 43 = .ok (.invokevirtual 150, 3) := by decide +kernel
theorem dX6_leg_46 : decode cX6_leg 46 = .ok (.istore 6, 2) := by decide +kernel
theorem dX6_leg_48 : decode cX6_leg 48 = .ok (.iload 6, 2) := by decide +kernel
theorem dX6_leg_50 : decode cX6_leg 50 = .ok (.bipush 6, 2) := by decide +kernel
theorem dX6_leg_52 : decode cX6_leg 52 = .ok (.if_icmp .ne 6, 3) := by decide +kernel
theorem dX6_leg_55 : decode cX6_leg 55 = .ok (.bipush (-2), 2) := by decide +kernel
theorem dX6_leg_57 : decode cX6_leg 57 = .ok (.ireturn, 1) := by decide +kernel
theorem dX6_leg_58 : decode cX6_leg 58 = .ok (.iload 6, 2) := by decide +kernel
theorem dX6_leg_60 : decode cX6_leg 60 = .ok (.ifCond .le 20, 3) := by decide +kernel
theorem dX6_leg_63 : decode cX6_leg 63 = .ok (.iload 4, 2) := by decide +kernel
theorem dX6_leg_65 : decode cX6_leg 65 = .ok (.aload_n 0, 1) := by decide +kernel
theorem dX6_leg_66 : decode cX6_leg 66 = .ok (.iload_n 1, 1) := by decide +kernel
theorem dX6_leg_67 : decode cX6_leg 67 = .ok (.iload 6, 2) := by decide +kernel
theorem dX6_leg_69 : decode cX6_leg 69 = .ok (.iconst 1, 1) := by decide +kernel
theorem dX6_leg_70 : decode cX6_leg 70 = .ok (.isub, 1) := by decide +kernel
theorem dX6_leg_71 : decode cX6_leg 71 = .ok (.invokevirtual 162, 3) := by decide +kernel
theorem dX6_leg_74 : decode cX6_leg 74 = .ok (.if_icmp .ge 6, 3) := by decide +kernel
theorem dX6_leg_77 : decode cX6_leg 77 = .ok (.bipush (-3), 2) := by decide +kernel
theorem dX6_leg_79 : decode cX6_leg 79 = .ok (.ireturn, 1) := by decide +kernel
theorem dX6_leg_80 : decode cX6_leg 80 = .ok (.sipush 143, 3) := by decide +kernel
theorem dX6_leg_83 : decode cX6_leg 83 = .ok (.bipush 45, 2) := by decide +kernel
theorem dX6_leg_85 : decode cX6_leg 85 = .ok (.iload_n 1, 1) := by decide +kernel
theorem dX6_leg_86 : decode cX6_leg 86 = .ok (.imul, 1) := by decide +kernel
theorem dX6_leg_87 : decode cX6_leg 87 = .ok (.iadd, 1) := by decide +kernel
theorem dX6_leg_88 : decode cX6_leg 88 = .ok (.iconst 4, 1) := by decide +kernel
theorem dX6_leg_89 : decode cX6_leg 89 = .ok (.iadd, 1) := by decide +kernel
theorem dX6_leg_90 : decode cX6_leg 90 = .ok (.iconst 4, 1) := by decide +kernel
theorem dX6_leg_91 : decode cX6_leg 91 = .ok (.iload 6, 2) := by decide +kernel
theorem dX6_leg_93 : decode cX6_leg 93 = .ok (.imul, 1) := by decide +kernel
theorem dX6_leg_94 : decode cX6_leg 94 = .ok (.iadd, 1) := by decide +kernel
theorem dX6_leg_95 : decode cX6_leg 95 = .ok (.istore 7, 2) := by decide +kernel
theorem dX6_leg_97 : decode cX6_leg 97 = .ok (.aload_n 0, 1) := by decide +kernel
theorem dX6_leg_98 : decode cX6_leg 98 = .ok (.getfield 9, 3) := by decide +kernel
theorem dX6_leg_101 : decode cX6_leg 101 = .ok (.iload 7, 2) := by decide +kernel
theorem dX6_leg_103 : decode cX6_leg 103 = .ok (.iload_n 2, 1) := by decide +kernel
theorem dX6_leg_104 : decode cX6_leg 104 = .ok (.iastore, 1) := by decide +kernel
theorem dX6_leg_105 : decode cX6_leg 105 = .ok (.aload_n 0, 1) := by decide +kernel
theorem dX6_leg_106 : decode cX6_leg 106 = .ok (.getfield 9, 3) := by decide +kernel
theorem dX6_leg_109 : decode cX6_leg 109 = .ok (.iload 7, 2) := by decide +kernel
theorem dX6_leg_111 : decode cX6_leg 111 = .ok (.iconst 1, 1) := by decide +kernel
theorem dX6_leg_112 : decode cX6_leg 112 = .ok (.iadd, 1) := by decide +kernel
theorem dX6_leg_113 : decode cX6_leg 113 = .ok (.iload_n 3, 1) := by decide +kernel
theorem dX6_leg_114 : decode cX6_leg 114 = .ok (.ifCond .eq 7, 3) := by decide +kernel
theorem dX6_leg_117 : decode cX6_leg 117 = .ok (.iconst 1, 1) := by decide +kernel
theorem dX6_leg_118 : decode cX6_leg 118 = .ok (.goto 4, 3) := by decide +kernel
theorem dX6_leg_121 : decode cX6_leg 121 = .ok (.iconst 0, 1) := by decide +kernel
theorem dX6_leg_122 : decode cX6_leg 122 = .ok (.iastore, 1) := by decide +kernel
theorem dX6_leg_123 : decode cX6_leg 123 = .ok (.aload_n 0, 1) := by decide +kernel
theorem dX6_leg_124 : decode cX6_leg 124 = .ok (.getfield 9, 3) := by decide +kernel
theorem dX6_leg_127 : decode cX6_leg 127 = .ok (.iload 7, 2) := by decide +kernel
theorem dX6_leg_129 : decode cX6_leg 129 = .ok (.iconst 2, 1) := by decide +kernel
theorem dX6_leg_130 : decode cX6_leg 130 = .ok (.iadd, 1) := by decide +kernel
theorem dX6_leg_131 : decode cX6_leg 131 = .ok (.iload 4, 2) := by decide +kernel
theorem dX6_leg_133 : decode cX6_leg 133 = .ok (.iastore, 1) := by decide +kernel
theorem dX6_leg_134 : decode cX6_leg 134 = .ok (.aload_n 0, 1) := by decide +kernel
theorem dX6_leg_135 : decode cX6_leg 135 = .ok (.getfield 9, 3) := by decide +kernel
theorem dX6_leg_138 : decode cX6_leg 138 = .ok (.iload 7, 2) := by decide +kernel
theorem dX6_leg_140 : decode cX6_leg 140 = .ok (.iconst 3, 1) := by decide +kernel
theorem dX6_leg_141 : decode cX6_leg 141 = .ok (.iadd, 1) := by decide +kernel
theorem dX6_leg_142 : decode cX6_leg 142 = .ok (.iload 5, 2) := by decide +kernel
theorem dX6_leg_144 : decode cX6_leg 144 = .ok (.iastore, 1) := by decide +kernel
theorem dX6_leg_145 : decode cX6_leg 145 = .ok (.aload_n 0, 1) := by decide +kernel
theorem dX6_leg_146 : decode cX6_leg 146 = .ok (.getfield 9, 3) := by decide +kernel
theorem dX6_leg_149 : decode cX6_leg 149 = .ok (.sipush 143, 3) := by decide +kernel
theorem dX6_leg_152 : decode cX6_leg 152 = .ok (.bipush 45, 2) := by decide +kernel
theorem dX6_leg_154 : decode cX6_leg 154 = .ok (.iload_n 1, 1) := by decide +kernel
theorem dX6_leg_155 : decode cX6_leg 155 = .ok (.imul, 1) := by decide +kernel
theorem dX6_leg_156 : decode cX6_leg 156 = .ok (.iadd, 1) := by decide +kernel
theorem dX6_leg_157 : decode cX6_leg 157 = .ok (.iconst 3, 1) := by decide +kernel
theorem dX6_leg_158 : decode cX6_leg 158 = .ok (.iadd, 1) := by decide +kernel
theorem dX6_leg_159 : decode cX6_leg 159 = .ok (.dup2, 1) := by decide +kernel
theorem dX6_leg_160 : decode cX6_leg 160 = .ok (.iaload, 1) := by decide +kernel
theorem dX6_leg_161 : decode cX6_leg 161 = .ok (.iconst 1, 1) := by decide +kernel
theorem dX6_leg_162 : decode cX6_leg 162 = .ok (.iadd, 1) := by decide +kernel
theorem dX6_leg_163 : decode cX6_leg 163 = .ok (.iastore, 1) := by decide +kernel
theorem dX6_leg_164 : decode cX6_leg 164 = .ok (.iload 6, 2) := by decide +kernel
theorem dX6_leg_166 : decode cX6_leg 166 = .ok (.iconst 1, 1) := by decide +kernel
theorem dX6_leg_167 : decode cX6_leg 167 = .ok (.iadd, 1) := by decide +kernel
theorem dX6_leg_168 : decode cX6_leg 168 = .ok (.ireturn, 1) := by decide +kernel
theorem dX6_captain_0 : decode cX6_captain 0 = .ok (.aload_n 0, 1) := by decide +kernel
theorem dX6_captain_1 : decode cX6_captain 1 = .ok (.iload_n 1, 1) := by decide +kernel
theorem dX6_captain_2 : decode cX6_captain 2 = .ok (.invokevirtual 157, 3) := by decide +kernel
theorem dX6_captain_5 : decode cX6_captain 5 = .ok (.ifCond .eq 21, 3) := by decide +kernel
theorem dX6_captain_8 : decode cX6_captain 8 = .ok (.iload_n 2, 1) := by decide +kernel
theorem dX6_captain_9 : decode cX6_captain 9 = .ok (.i2l, 1) := by decide +kernel
theorem dX6_captain_10 : decode cX6_captain 10 = .ok (.invokestatic 141, 3) := by decide +kernel
theorem dX6_captain_13 : decode cX6_captain 13 = .ok (.ifCond .eq 13, 3) := by decide +kernel
theorem dX6_captain_16 : decode cX6_captain 16 = .ok (.iload_n 3, 1) := by decide +kernel
theorem dX6_captain_17 : decode cX6_captain 17 = .ok (.iconst 1, 1) := by decide +kernel
theorem dX6_captain_18 : decode cX6_captain 18 = .ok (.if_icmp .eq 10, 3) := by decide +kernel
theorem dX6_captain_21 : decode cX6_captain 21 = .ok (.iload_n 3, 1) := by decide +kernel
theorem dX6_captain_22 : decode cX6_captain 22 = .ok (.iconst (-1), 1) := by decide +kernel
theorem dX6_captain_23 : decode cX6_captain 23 = .ok (.if_icmp .eq 5, 3) := by decide +kernel
theorem dX6_captain_26 : decode cX6_captain 26 = .ok (.iconst (-1), 1) := by decide +kernel
theorem dX6_captain_27 : decode cX6_captain 27 = .ok (.ireturn, 1) := by decide +kernel
theorem dX6_captain_28 : decode cX6_captain 28 = .ok (.sipush 143, 3) := by decide +kernel
theorem dX6_captain_31 : decode cX6_captain 31 = .ok (.bipush 45, 2) := by decide +kernel
theorem dX6_captain_33 : decode cX6_captain 33 = .ok (.iload_n 1, 1) := by decide +kernel
theorem dX6_captain_34 : decode cX6_captain 34 = .ok (.imul, 1) := by decide +kernel
theorem dX6_captain_35 : decode cX6_captain 35 = .ok (.iadd, 1) := by decide +kernel
theorem dX6_captain_36 : decode cX6_captain 36 = .ok (.bipush 28, 2) := by decide +kernel
theorem dX6_captain_38 : decode cX6_captain 38 = .ok (.iadd, 1) := by decide +kernel
theorem dX6_captain_39 : decode cX6_captain 39 = .ok (.istore 4, 2) := by decide +kernel
theorem dX6_captain_41 : decode cX6_captain 41 = .ok (.aload_n 0, 1) := by decide +kernel
theorem dX6_captain_42 : decode cX6_captain 42 = .ok (.getfield 9, 3) := by decide +kernel
theorem dX6_captain_45 : decode cX6_captain 45 = .ok (.iload 4, 2) := by decide +kernel
theorem dX6_captain_47 : decode cX6_captain 47 = .ok (.iaload, 1) := by decide +kernel
theorem dX6_captain_48 : decode cX6_captain 48 = .ok (.bipush 8, 2) := by decide +kernel
theorem dX6_captain_50 : decode cX6_captain 50 = .ok (.if_icmp .ne 6, 3) := by decide +kernel
theorem dX6_captain_53 : decode cX6_captain 53 = .ok (.bipush (-2), 2) := by decide +kernel
theorem dX6_captain_55 : decode cX6_captain 55 = .ok (.ireturn, 1) := by decide +kernel
theorem dX6_captain_56 : decode cX6_captain 56 = .ok (.aload_n 0, 1) := by decide +kernel
theorem dX6_captain_57 : decode cX6_captain 57 = .ok (.iload_n 1, 1) := by decide +kernel
theorem dX6_captain_58 : decode cX6_captain 58 = .ok (.iconst 0, 1) := by decide +kernel
theorem dX6_captain_59 : decode cX6_captain 59 = .ok (.invokevirtual 150, 3) := by decide +kernel
theorem dX6_captain_62 : decode cX6_captain 62 = .ok (.iconst 4, 1) := by decide +kernel
theorem dX6_captain_63 : decode cX6_captain 63 = .ok (.if_icmp .eq 6, 3) := by decide +kernel
theorem dX6_captain_66 : decode cX6_captain 66 = .ok (.bipush (-3), 2) := by decide +kernel
theorem dX6_captain_68 : decode cX6_captain 68 = .ok (.ireturn, 1) := by decide +kernel
theorem dX6_captain_69 : decode cX6_captain 69 = .ok (.aload_n 0, 1) := by decide +kernel
theorem dX6_captain_70 : decode cX6_captain 70 = .ok (.getfield 9, 3) := by decide +kernel
theorem dX6_captain_73 : decode cX6_captain 73 = .ok (.iload 4, 2) := by decide +kernel
theorem dX6_captain_75 : decode cX6_captain 75 = .ok (.iconst 1, 1) := by decide +kernel
theorem dX6_captain_76 : decode cX6_captain 76 = .ok (.iadd, 1) := by decide +kernel
theorem dX6_captain_77 : decode cX6_captain 77 = .ok (.iconst 2, 1) := by decide +kernel
theorem dX6_captain_78 : decode cX6_captain 78 = .ok (.aload_n 0, 1) := by decide +kernel
theorem dX6_captain_79 : decode cX6_captain 79 = .ok (.getfield 9, 3) := by decide +kernel
theorem dX6_captain_82 : decode cX6_captain 82 = .ok (.iload 4, 2) := by decide +kernel
theorem dX6_captain_84 : decode cX6_captain 84 = .ok (.iaload, 1) := by decide +kernel
theorem dX6_captain_85 : decode cX6_captain 85 = .ok (.imul, 1) := by decide +kernel
theorem dX6_captain_86 : decode cX6_captain 86 = .ok (.iadd, 1) := by decide +kernel
theorem dX6_captain_87 : decode cX6_captain 87 = .ok (.iload_n 2, 1) := by decide +kernel
theorem dX6_captain_88 : decode cX6_captain 88 = .ok (.iastore, 1) := by decide +kernel
theorem dX6_captain_89 : decode cX6_captain 89 = .ok (.aload_n 0, 1) := by decide +kernel
theorem dX6_captain_90 : decode cX6_captain 90 = .ok (.getfield 9, 3) := by decide +kernel
theorem dX6_captain_93 : decode cX6_captain 93 = .ok (.iload 4, 2) := by decide +kernel
theorem dX6_captain_95 : decode cX6_captain 95 = .ok (.iconst 2, 1) := by decide +kernel
theorem dX6_captain_96 : decode cX6_captain 96 = .ok (.iadd, 1) := by decide +kernel
theorem dX6_captain_97 : decode cX6_captain 97 = .ok (.iconst 2, 1) := by decide +kernel
theorem dX6_captain_98 : decode cX6_captain 98 = .ok (.aload_n 0, 1) := by decide +kernel
theorem dX6_captain_99 : decode cX6_captain 99 = .ok (.getfield 9, 3) := by decide +kernel
theorem dX6_captain_102 : decode cX6_captain 102 = .ok (.iload 4, 2) := by decide +kernel
theorem dX6_captain_104 : decode cX6_captain 104 = .ok (.iaload, 1) := by decide +kernel
theorem dX6_captain_105 : decode cX6_captain 105 = .ok (.imul, 1) := by decide +kernel
theorem dX6_captain_106 : decode cX6_captain 106 = .ok (.iadd, 1) := by decide +kernel
theorem dX6_captain_107 : decode cX6_captain 107 = .ok (.iload_n 3, 1) := by decide +kernel
theorem dX6_captain_108 : decode cX6_captain 108 = .ok (.iastore, 1) := by decide +kernel
theorem dX6_captain_109 : decode cX6_captain 109 = .ok (.aload_n 0, 1) := by decide +kernel
theorem dX6_captain_110 : decode cX6_captain 110 = .ok (.getfield 9, 3) := by decide +kernel
theorem dX6_captain_113 : decode cX6_captain 113 = .ok (.iload 4, 2) := by decide +kernel
theorem dX6_captain_115 : decode cX6_captain 115 = .ok (.dup2, 1) := by decide +kernel
theorem dX6_captain_116 : decode cX6_captain 116 = .ok (.iaload, 1) := by decide +kernel
theorem dX6_captain_117 : decode cX6_captain 117 = .ok (.iconst 1, 1) := by decide +kernel
theorem dX6_captain_118 : decode cX6_captain 118 = .ok (.iadd, 1) := by decide +kernel
theorem dX6_captain_119 : decode cX6_captain 119 = .ok (.iastore, 1) := by decide +kernel
theorem dX6_captain_120 : decode cX6_captain 120 = .ok (.aload_n 0, 1) := by decide +kernel
theorem dX6_captain_121 : decode cX6_captain 121 = .ok (.getfield 9, 3) := by decide +kernel
theorem dX6_captain_124 : decode cX6_captain 124 = .ok (.iload 4, 2) := by decide +kernel
theorem dX6_captain_126 : decode cX6_captain 126 = .ok (.iaload, 1) := by decide +kernel
theorem dX6_captain_127 : decode cX6_captain 127 = .ok (.ireturn, 1) := by decide +kernel
theorem dX6_findWhere_0 : decode cX6_findWhere 0 = .ok (.aload_n 0, 1) := by decide +kernel
theorem dX6_findWhere_1 : decode cX6_findWhere 1 = .ok (.lconst 0, 1) := by decide +kernel
theorem dX6_findWhere_2 : decode cX6_findWhere 2 = .ok (.putfield 165, 3) := by decide +kernel
theorem dX6_findWhere_5 : decode cX6_findWhere 5 = .ok (.aload_n 0, 1) := by decide +kernel
theorem dX6_findWhere_6 : decode cX6_findWhere 6 = .ok (.lconst 1, 1) := by decide +kernel
theorem dX6_findWhere_7 : decode cX6_findWhere 7 = .ok (.putfield 169, 3) := by decide +kernel
theorem dX6_findWhere_10 : decode cX6_findWhere 10 = .ok (.aload_n 0, 1) := by decide +kernel
theorem dX6_findWhere_11 : decode cX6_findWhere 11 = .ok (.aload_n 0, 1) := by decide +kernel
theorem dX6_findWhere_12 : decode cX6_findWhere 12 = .ok (.iload_n 1, 1) := by decide +kernel
theorem dX6_findWhere_13 : decode cX6_findWhere 13 = .ok (.iconst 1, 1) := by decide +kernel
theorem dX6_findWhere_14 : decode cX6_findWhere 14 = .ok (.invokevirtual 150, 3) := by decide +kernel
theorem dX6_findWhere_17 : decode cX6_findWhere 17 = .ok (.putfield 172, 3) := by decide +kernel
theorem dX6_findWhere_20 : decode cX6_findWhere 20 = .ok (.aload_n 0, 1) := by decide +kernel
theorem dX6_findWhere_21 : decode cX6_findWhere 21 = .ok (.iconst 0, 1) := by decide +kernel
theorem dX6_findWhere_22 : decode cX6_findWhere 22 = .ok (.putfield 175, 3) := by decide +kernel
theorem dX6_findWhere_25 : decode cX6_findWhere 25 = .ok (.iconst 0, 1) := by decide +kernel
theorem dX6_findWhere_26 : decode cX6_findWhere 26 = .ok (.istore_n 3, 1) := by decide +kernel
theorem dX6_findWhere_27 : decode cX6_findWhere 27 = .ok (.iload_n 3, 1) := by decide +kernel
theorem dX6_findWhere_28 : decode cX6_findWhere 28 = .ok (.aload_n 0, 1) := by decide +kernel
theorem dX6_findWhere_29 : decode cX6_findWhere 29 = .ok (.iload_n 1, 1) := by decide +kernel
theorem dX6_findWhere_30 : decode cX6_findWhere 30 = .ok (.iconst 3, 1) := by decide +kernel
theorem dX6_findWhere_31 : decode cX6_findWhere 31 = .ok (.invokevirtual 150, 3) := by decide +kernel
theorem dX6_findWhere_34 : decode cX6_findWhere 34 = .ok (.if_icmp .ge 206, 3) := by decide +kernel
theorem dX6_findWhere_37 : decode cX6_findWhere 37 = .ok (.aload_n 0, 1) := by decide +kernel
theorem dX6_findWhere_38 : decode cX6_findWhere 38 = .ok (.iload_n 1, 1) := by decide +kernel
theorem dX6_findWhere_39 : decode cX6_findWhere 39 = .ok (.iload_n 3, 1) := by decide +kernel
theorem dX6_findWhere_40 : decode cX6_findWhere 40 = .ok (.iconst 2, 1) := by decide +kernel
theorem dX6_findWhere_41 : decode cX6_findWhere 41 = .ok (.invokevirtual 153, 3) := by decide +kernel
theorem dX6_findWhere_44 : decode cX6_findWhere 44 = .ok (.istore 4, 2) := by decide +kernel
theorem dX6_findWhere_46 : decode cX6_findWhere 46 = .ok (.iload_n 2, 1) := by decide +kernel
theorem dX6_findWhere_47 : decode cX6_findWhere 47 = .ok (.iload 4, 2) := by decide +kernel
theorem dX6_findWhere_49 : decode cX6_findWhere 49 = .ok (.if_icmp .gt 4, 3) := by decide +kernel
theorem dX6_findWhere_52 : decode cX6_findWhere 52 = .ok (.return_, 1) := by decide +kernel
theorem dX6_findWhere_53 : decode cX6_findWhere 53 = .ok (.aload_n 0, 1) := by decide +kernel
theorem dX6_findWhere_54 : decode cX6_findWhere 54 = .ok (.iload_n 1, 1) := by decide +kernel
theorem dX6_findWhere_55 : decode cX6_findWhere 55 = .ok (.iload_n 3, 1) := by decide +kernel
theorem dX6_findWhere_56 : decode cX6_findWhere 56 = .ok (.iconst 0, 1) := by decide +kernel
theorem dX6_findWhere_57 : decode cX6_findWhere 57 = .ok (.invokevirtual 153, 3) := by decide +kernel
theorem dX6_findWhere_60 : decode cX6_findWhere 60 = .ok (.istore 5, 2) := by decide +kernel
theorem dX6_findWhere_62 : decode cX6_findWhere 62 = .ok (.aload_n 0, 1) := by decide +kernel
theorem dX6_findWhere_63 : decode cX6_findWhere 63 = .ok (.iload 5, 2) := by decide +kernel
theorem dX6_findWhere_65 : decode cX6_findWhere 65 = .ok (.iconst 0, 1) := by decide +kernel
theorem dX6_findWhere_66 : decode cX6_findWhere 66 = .ok (.invokevirtual 108, 3) := by decide +kernel
theorem dX6_findWhere_69 : decode cX6_findWhere 69 = .ok (.aload_n 0, 1) := by decide +kernel
theorem dX6_findWhere_70 : decode cX6_findWhere 70 = .ok (.aload_n 0, 1) := by decide +kernel
theorem dX6_findWhere_71 : decode cX6_findWhere 71 = .ok (.getfield 172, 3) := by decide +kernel
theorem dX6_findWhere_74 : decode cX6_findWhere 74 = .ok (.iconst 0, 1) := by decide +kernel
theorem dX6_findWhere_75 : decode cX6_findWhere 75 = .ok (.invokevirtual 108, 3) := by decide +kernel
theorem dX6_findWhere_78 : decode cX6_findWhere 78 = .ok (.isub, 1) := by decide +kernel
theorem dX6_findWhere_79 : decode cX6_findWhere 79 = .ok (.istore 6, 2) := by decide +kernel
theorem dX6_findWhere_81 : decode cX6_findWhere 81 = .ok (.aload_n 0, 1) := by decide +kernel
theorem dX6_findWhere_82 : decode cX6_findWhere 82 = .ok (.iload_n 1, 1) := by decide +kernel
theorem dX6_findWhere_83 : decode cX6_findWhere 83 = .ok (.iload_n 3, 1) := by decide +kernel
theorem dX6_findWhere_84 : decode cX6_findWhere 84 = .ok (.iconst 1, 1) := by decide +kernel
theorem dX6_findWhere_85 : decode cX6_findWhere 85 = .ok (.invokevirtual 153, 3) := by decide +kernel
theorem dX6_findWhere_88 : decode cX6_findWhere 88 = .ok (.iconst 1, 1) := by decide +kernel
theorem dX6_findWhere_89 : decode cX6_findWhere 89 = .ok (.if_icmp .ne 7, 3) := by decide +kernel
theorem dX6_findWhere_92 : decode cX6_findWhere 92 = .ok (.iconst 1, 1) := by decide +kernel
theorem dX6_findWhere_93 : decode cX6_findWhere 93 = .ok (.goto 4, 3) := by decide +kernel
theorem dX6_findWhere_96 : decode cX6_findWhere 96 = .ok (.iconst 0, 1) := by decide +kernel
theorem dX6_findWhere_97 : decode cX6_findWhere 97 = .ok (.istore 7, 2) := by decide +kernel
theorem dX6_findWhere_99 : decode cX6_findWhere 99 = .ok (.iload 7, 2) := by decide +kernel
theorem dX6_findWhere_101 : decode cX6_findWhere 101 = .ok (.ifCond .eq 8, 3) := by decide +kernel
theorem dX6_findWhere_104 : decode cX6_findWhere 104 = .ok (.iload 6, 2) := by decide +kernel
theorem dX6_findWhere_106 : decode cX6_findWhere 106 = .ok (.goto 6, 3) := by decide +kernel
theorem dX6_findWhere_109 : decode cX6_findWhere 109 = .ok (.iload 6, 2) := by decide +kernel
theorem dX6_findWhere_111 : decode cX6_findWhere 111 = .ok (.ineg, 1) := by decide +kernel
theorem dX6_findWhere_112 : decode cX6_findWhere 112 = .ok (.istore 8, 2) := by decide +kernel
theorem dX6_findWhere_114 : decode cX6_findWhere 114 = .ok (.iload 8, 2) := by decide +kernel
theorem dX6_findWhere_116 : decode cX6_findWhere 116 = .ok (.ifCond .ge 12, 3) := by decide +kernel
theorem dX6_findWhere_119 : decode cX6_findWhere 119 = .ok (.iload 8, 2) := by decide +kernel
theorem dX6_findWhere_121 : decode cX6_findWhere 121 = .ok (.sipush 360, 3) := by decide +kernel
theorem dX6_findWhere_124 : decode cX6_findWhere 124 = .ok (.iadd, 1) := by decide +kernel
theorem dX6_findWhere_125 : decode cX6_findWhere 125 = .ok (.goto 5, 3) := by decide +kernel
theorem dX6_findWhere_128 : decode cX6_findWhere 128 = .ok (.iload 8, 2) := by decide +kernel
theorem dX6_findWhere_130 : decode cX6_findWhere 130 = .ok (.istore 8, 2) := by decide +kernel
theorem dX6_findWhere_132 : decode cX6_findWhere 132 = .ok (.iload 7, 2) := by decide +kernel
theorem dX6_findWhere_134 : decode cX6_findWhere 134 = .ok (.ifCond .eq 8, 3) := by decide +kernel
theorem dX6_findWhere_137 : decode cX6_findWhere 137 = .ok (.iload 8, 2) := by decide +kernel
theorem dX6_findWhere_139 : decode cX6_findWhere 139 = .ok (.goto 6, 3) := by decide +kernel
theorem dX6_findWhere_142 : decode cX6_findWhere 142 = .ok (.iload 8, 2) := by decide +kernel
theorem dX6_findWhere_144 : decode cX6_findWhere 144 = .ok (.ineg, 1) := by decide +kernel
theorem dX6_findWhere_145 : decode cX6_findWhere 145 = .ok (.istore 9, 2) := by decide +kernel
theorem dX6_findWhere_147 : decode cX6_findWhere 147 = .ok (.iload_n 2, 1) := by decide +kernel
theorem dX6_findWhere_148 : decode cX6_findWhere 148 = .ok (.aload_n 0, 1) := by decide +kernel
theorem dX6_findWhere_149 : decode cX6_findWhere 149 = .ok (.iload_n 1, 1) := by decide +kernel
theorem dX6_findWhere_150 : decode cX6_findWhere 150 = .ok (.iload_n 3, 1) := by decide +kernel
theorem dX6_findWhere_151 : decode cX6_findWhere 151 = .ok (.invokevirtual 162, 3) := by decide +kernel
theorem dX6_findWhere_154 : decode cX6_findWhere 154 = .ok (.if_icmp .lt 34, 3) := by decide +kernel
theorem dX6_findWhere_157 : decode cX6_findWhere 157 = .ok (.aload_n 0, 1) := by decide +kernel
theorem dX6_findWhere_158 : decode cX6_findWhere 158 = .ok (.dup, 1) := by decide +kernel
theorem dX6_findWhere_159 : decode cX6_findWhere 159 = .ok (.getfield 165, 3) := by decide +kernel
theorem dX6_findWhere_162 : decode cX6_findWhere 162 = .ok (.iload 9, 2) := by decide +kernel
theorem dX6_findWhere_164 : decode cX6_findWhere 164 = .ok (.i2l, 1) := by decide +kernel
theorem dX6_findWhere_165 : decode cX6_findWhere 165 = .ok (.ladd, 1) := by decide +kernel
theorem dX6_findWhere_166 : decode cX6_findWhere 166 = .ok (.putfield 165, 3) := by decide +kernel
theorem dX6_findWhere_169 : decode cX6_findWhere 169 = .ok (.aload_n 0, 1) := by decide +kernel
theorem dX6_findWhere_170 : decode cX6_findWhere 170 = .ok (.iload 5, 2) := by decide +kernel
theorem dX6_findWhere_172 : decode cX6_findWhere 172 = .ok (.putfield 172, 3) := by decide +kernel
theorem dX6_findWhere_175 : decode cX6_findWhere 175 = .ok (.aload_n 0, 1) := by decide +kernel
theorem dX6_findWhere_176 : decode cX6_findWhere 176 = .ok (.aload_n 0, 1) := by decide +kernel
theorem dX6_findWhere_177 : decode cX6_findWhere 177 = .ok (.iload_n 1, 1) := by decide +kernel
theorem dX6_findWhere_178 : decode cX6_findWhere 178 = .ok (.iload_n 3, 1) := by decide +kernel
theorem dX6_findWhere_179 : decode cX6_findWhere 179 = .ok (.invokevirtual 162, 3) := by decide +kernel
theorem dX6_findWhere_182 : decode cX6_findWhere 182 = .ok (.putfield 175, 3) := by decide +kernel
theorem dX6_findWhere_185 : decode cX6_findWhere 185 = .ok (.goto 49, 3) := by decide +kernel
theorem dX6_findWhere_188 : decode cX6_findWhere 188 = .ok (.aload_n 0, 1) := by decide +kernel
theorem dX6_findWhere_189 : decode cX6_findWhere 189 = .ok (.ldc2_w 178, 3) := by decide +kernel
theorem dX6_findWhere_192 : decode cX6_findWhere 192 = .ok (.aload_n 0, 1) := by decide +kernel
theorem dX6_findWhere_193 : decode cX6_findWhere 193 = .ok (.iload_n 1, 1) := by decide +kernel
theorem dX6_findWhere_194 : decode cX6_findWhere 194 = .ok (.iload_n 3, 1) := by decide +kernel
theorem dX6_findWhere_195 : decode cX6_findWhere 195 = .ok (.iconst 3, 1) := by decide +kernel
theorem dX6_findWhere_196 : decode cX6_findWhere 196 = .ok (.invokevirtual 153, 3) := by decide +kernel
theorem dX6_findWhere_199 : decode cX6_findWhere 199 = .ok (.i2l, 1) := by decide +kernel
theorem dX6_findWhere_200 : decode cX6_findWhere 200 = .ok (.lmul, 1) := by decide +kernel
theorem dX6_findWhere_201 : decode cX6_findWhere 201 = .ok (.putfield 169, 3) := by decide +kernel
theorem dX6_findWhere_204 : decode cX6_findWhere 204 = .ok (.aload_n 0, 1) := by decide +kernel
theorem dX6_findWhere_205 : decode cX6_findWhere 205 = .ok (.aload_n 0, 1) := by decide +kernel
theorem dX6_findWhere_206 : decode cX6_findWhere 206 = .ok (.getfield 165, 3) := by decide +kernel
theorem dX6_findWhere_209 : decode cX6_findWhere 209 = .ok (.aload_n 0, 1) := by decide +kernel
theorem dX6_findWhere_210 : decode cX6_findWhere 210 = .ok (.getfield 169, 3) := by decide +kernel
theorem dX6_findWhere_213 : decode cX6_findWhere 213 = .ok (.lmul, 1) := by decide +kernel
theorem dX6_findWhere_214 : decode cX6_findWhere 214 = .ok (.iload 9, 2) := by decide +kernel
theorem dX6_findWhere_216 : decode cX6_findWhere 216 = .ok (.i2l, 1) := by decide +kernel
theorem dX6_findWhere_217 : decode cX6_findWhere 217 = .ok (.iload_n 2, 1) := by decide +kernel
theorem dX6_findWhere_218 : decode cX6_findWhere 218 = .ok (.iload 4, 2) := by decide +kernel
theorem dX6_findWhere_220 : decode cX6_findWhere 220 = .ok (.isub, 1) := by decide +kernel
theorem dX6_findWhere_221 : decode cX6_findWhere 221 = .ok (.i2l, 1) := by decide +kernel
theorem dX6_findWhere_222 : decode cX6_findWhere 222 = .ok (.lmul, 1) := by decide +kernel
theorem dX6_findWhere_223 : decode cX6_findWhere 223 = .ok (.ladd, 1) := by decide +kernel
theorem dX6_findWhere_224 : decode cX6_findWhere 224 = .ok (.putfield 165, 3) := by decide +kernel
theorem dX6_findWhere_227 : decode cX6_findWhere 227 = .ok (.aload_n 0, 1) := by decide +kernel
theorem dX6_findWhere_228 : decode cX6_findWhere 228 = .ok (.bipush (-4), 2) := by decide +kernel
theorem dX6_findWhere_230 : decode cX6_findWhere 230 = .ok (.putfield 172, 3) := by decide +kernel
theorem dX6_findWhere_233 : decode cX6_findWhere 233 = .ok (.return_, 1) := by decide +kernel
theorem dX6_findWhere_234 : decode cX6_findWhere 234 = .ok (.iinc 3 1, 3) := by decide +kernel
theorem dX6_findWhere_237 : decode cX6_findWhere 237 = .ok (.goto (-210), 3) := by decide +kernel
theorem dX6_findWhere_240 : decode cX6_findWhere 240 = .ok (.return_, 1) := by decide +kernel
theorem dX6_eastNow_0 : decode cX6_eastNow 0 = .ok (.aload_n 0, 1) := by decide +kernel
theorem dX6_eastNow_1 : decode cX6_eastNow 1 = .ok (.aload_n 0, 1) := by decide +kernel
theorem dX6_eastNow_2 : decode cX6_eastNow 2 = .ok (.aload_n 0, 1) := by decide +kernel
theorem dX6_eastNow_3 : decode cX6_eastNow 3 = .ok (.iload_n 1, 1) := by decide +kernel
theorem dX6_eastNow_4 : decode cX6_eastNow 4 = .ok (.iconst 1, 1) := by decide +kernel
theorem dX6_eastNow_5 : decode cX6_eastNow 5 = .ok (.invokevirtual 150, 3) := by decide +kernel
theorem dX6_eastNow_8 : decode cX6_eastNow 8 = .ok (.iconst 0, 1) := by decide +kernel
theorem dX6_eastNow_9 : decode cX6_eastNow 9 = .ok (.invokevirtual 108, 3) := by decide +kernel
theorem dX6_eastNow_12 : decode cX6_eastNow 12 = .ok (.invokevirtual 133, 3) := by decide +kernel
theorem dX6_eastNow_15 : decode cX6_eastNow 15 = .ok (.i2l, 1) := by decide +kernel
theorem dX6_eastNow_16 : decode cX6_eastNow 16 = .ok (.aload_n 0, 1) := by decide +kernel
theorem dX6_eastNow_17 : decode cX6_eastNow 17 = .ok (.getfield 169, 3) := by decide +kernel
theorem dX6_eastNow_20 : decode cX6_eastNow 20 = .ok (.lmul, 1) := by decide +kernel
theorem dX6_eastNow_21 : decode cX6_eastNow 21 = .ok (.aload_n 0, 1) := by decide +kernel
theorem dX6_eastNow_22 : decode cX6_eastNow 22 = .ok (.getfield 165, 3) := by decide +kernel
theorem dX6_eastNow_25 : decode cX6_eastNow 25 = .ok (.ladd, 1) := by decide +kernel
theorem dX6_eastNow_26 : decode cX6_eastNow 26 = .ok (.lstore_n 3, 1) := by decide +kernel
theorem dX6_eastNow_27 : decode cX6_eastNow 27 = .ok (.iload_n 2, 1) := by decide +kernel
theorem dX6_eastNow_28 : decode cX6_eastNow 28 = .ok (.ifCond .eq 29, 3) := by decide +kernel
theorem dX6_eastNow_31 : decode cX6_eastNow 31 = .ok (.lload_n 3, 1) := by decide +kernel
theorem dX6_eastNow_32 : decode cX6_eastNow 32 = .ok (.ldc2_w 121, 3) := by decide +kernel
theorem dX6_eastNow_35 : decode cX6_eastNow 35 = .ok (.aload_n 0, 1) := by decide +kernel
theorem dX6_eastNow_36 : decode cX6_eastNow 36 = .ok (.getfield 169, 3) := by decide +kernel
theorem dX6_eastNow_39 : decode cX6_eastNow 39 = .ok (.lmul, 1) := by decide +kernel
theorem dX6_eastNow_40 : decode cX6_eastNow 40 = .ok (.lload_n 3, 1) := by decide +kernel
theorem dX6_eastNow_41 : decode cX6_eastNow 41 = .ok (.ldc2_w 121, 3) := by decide +kernel
theorem dX6_eastNow_44 : decode cX6_eastNow 44 = .ok (.aload_n 0, 1) := by decide +kernel
theorem dX6_eastNow_45 : decode cX6_eastNow 45 = .ok (.getfield 169, 3) := by decide +kernel
theorem dX6_eastNow_48 : decode cX6_eastNow 48 = .ok (.lmul, 1) := by decide +kernel
theorem dX6_eastNow_49 : decode cX6_eastNow 49 = .ok (.invokestatic 129, 3) := by decide +kernel
theorem dX6_eastNow_52 : decode cX6_eastNow 52 = .ok (.lmul, 1) := by decide +kernel
theorem dX6_eastNow_53 : decode cX6_eastNow 53 = .ok (.lsub, 1) := by decide +kernel
theorem dX6_eastNow_54 : decode cX6_eastNow 54 = .ok (.goto 4, 3) := by decide +kernel
theorem dX6_eastNow_57 : decode cX6_eastNow 57 = .ok (.lload_n 3, 1) := by decide +kernel
theorem dX6_eastNow_58 : decode cX6_eastNow 58 = .ok (.lreturn, 1) := by decide +kernel
theorem dX6_common_0 : decode cX6_common 0 = .ok (.lload_n 0, 1) := by decide +kernel
theorem dX6_common_1 : decode cX6_common 1 = .ok (.lstore 4, 2) := by decide +kernel
theorem dX6_common_3 : decode cX6_common 3 = .ok (.lload_n 2, 1) := by decide +kernel
theorem dX6_common_4 : decode cX6_common 4 = .ok (.lstore 6, 2) := by decide +kernel
theorem dX6_common_6 : decode cX6_common 6 = .ok (.lload 6, 2) := by decide +kernel
theorem dX6_common_8 : decode cX6_common 8 = .ok (.lconst 0, 1) := by decide +kernel
theorem dX6_common_9 : decode cX6_common 9 = .ok (.lcmp, 1) := by decide +kernel
theorem dX6_common_10 : decode cX6_common 10 = .ok (.ifCond .eq 21, 3) := by decide +kernel
theorem dX6_common_13 : decode cX6_common 13 = .ok (.lload 4, 2) := by decide +kernel
theorem dX6_common_15 : decode cX6_common 15 = .ok (.lload 6, 2) := by decide +kernel
theorem dX6_common_17 : decode cX6_common 17 = .ok (.lrem, 1) := by decide +kernel
theorem dX6_common_18 : decode cX6_common 18 = .ok (.lstore 8, 2) := by decide +kernel
theorem dX6_common_20 : decode cX6_common 20 = .ok (.lload 6, 2) := by decide +kernel
theorem dX6_common_22 : decode cX6_common 22 = .ok (.lstore 4, 2) := by decide +kernel
theorem dX6_common_24 : decode cX6_common 24 = .ok (.lload 8, 2) := by decide +kernel
theorem dX6_common_26 : decode cX6_common 26 = .ok (.lstore 6, 2) := by decide +kernel
theorem dX6_common_28 : decode cX6_common 28 = .ok (.goto (-22), 3) := by decide +kernel
theorem dX6_common_31 : decode cX6_common 31 = .ok (.lload 4, 2) := by decide +kernel
theorem dX6_common_33 : decode cX6_common 33 = .ok (.lreturn, 1) := by decide +kernel
theorem dX6_where_0 : decode cX6_where 0 = .ok (.aload_n 0, 1) := by decide +kernel
theorem dX6_where_1 : decode cX6_where 1 = .ok (.iload_n 1, 1) := by decide +kernel
theorem dX6_where_2 : decode cX6_where 2 = .ok (.invokevirtual 157, 3) := by decide +kernel
theorem dX6_where_5 : decode cX6_where 5 = .ok (.ifCond .eq 21, 3) := by decide +kernel
theorem dX6_where_8 : decode cX6_where 8 = .ok (.iload_n 2, 1) := by decide +kernel
theorem dX6_where_9 : decode cX6_where 9 = .ok (.i2l, 1) := by decide +kernel
theorem dX6_where_10 : decode cX6_where 10 = .ok (.invokestatic 141, 3) := by decide +kernel
theorem dX6_where_13 : decode cX6_where 13 = .ok (.ifCond .eq 13, 3) := by decide +kernel
theorem dX6_where_16 : decode cX6_where 16 = .ok (.iload_n 3, 1) := by decide +kernel
theorem dX6_where_17 : decode cX6_where 17 = .ok (.i2l, 1) := by decide +kernel
theorem dX6_where_18 : decode cX6_where 18 = .ok (.lconst 0, 1) := by decide +kernel
theorem dX6_where_19 : decode cX6_where 19 = .ok (.lconst 1, 1) := by decide +kernel
theorem dX6_where_20 : decode cX6_where 20 = .ok (.invokestatic 48, 3) := by decide +kernel
theorem dX6_where_23 : decode cX6_where 23 = .ok (.ifCond .ne 7, 3) := by decide +kernel
theorem dX6_where_26 : decode cX6_where 26 = .ok (.ldc2_w 180, 3) := by decide +kernel
theorem dX6_where_29 : decode cX6_where 29 = .ok (.lreturn, 1) := by decide +kernel
theorem dX6_where_30 : decode cX6_where 30 = .ok (.aload_n 0, 1) := by decide +kernel
theorem dX6_where_31 : decode cX6_where 31 = .ok (.iload_n 1, 1) := by decide +kernel
theorem dX6_where_32 : decode cX6_where 32 = .ok (.iload_n 2, 1) := by decide +kernel
theorem dX6_where_33 : decode cX6_where 33 = .ok (.invokevirtual 182, 3) := by decide +kernel
theorem dX6_where_36 : decode cX6_where 36 = .ok (.aload_n 0, 1) := by decide +kernel
theorem dX6_where_37 : decode cX6_where 37 = .ok (.aload_n 0, 1) := by decide +kernel
theorem dX6_where_38 : decode cX6_where 38 = .ok (.iload_n 1, 1) := by decide +kernel
theorem dX6_where_39 : decode cX6_where 39 = .ok (.iconst 1, 1) := by decide +kernel
theorem dX6_where_40 : decode cX6_where 40 = .ok (.invokevirtual 150, 3) := by decide +kernel
theorem dX6_where_43 : decode cX6_where 43 = .ok (.iconst 0, 1) := by decide +kernel
theorem dX6_where_44 : decode cX6_where 44 = .ok (.invokevirtual 108, 3) := by decide +kernel
theorem dX6_where_47 : decode cX6_where 47 = .ok (.i2l, 1) := by decide +kernel
theorem dX6_where_48 : decode cX6_where 48 = .ok (.aload_n 0, 1) := by decide +kernel
theorem dX6_where_49 : decode cX6_where 49 = .ok (.getfield 169, 3) := by decide +kernel
theorem dX6_where_52 : decode cX6_where 52 = .ok (.lmul, 1) := by decide +kernel
theorem dX6_where_53 : decode cX6_where 53 = .ok (.aload_n 0, 1) := by decide +kernel
theorem dX6_where_54 : decode cX6_where 54 = .ok (.getfield 165, 3) := by decide +kernel
theorem dX6_where_57 : decode cX6_where 57 = .ok (.ladd, 1) := by decide +kernel
theorem dX6_where_58 : decode cX6_where 58 = .ok (.lstore 4, 2) := by decide +kernel
theorem dX6_where_60 : decode cX6_where 60 = .ok (.lload 4, 2) := by decide +kernel
theorem dX6_where_62 : decode cX6_where 62 = .ok (.ldc2_w 121, 3) := by decide +kernel
theorem dX6_where_65 : decode cX6_where 65 = .ok (.aload_n 0, 1) := by decide +kernel
theorem dX6_where_66 : decode cX6_where 66 = .ok (.getfield 169, 3) := by decide +kernel
theorem dX6_where_69 : decode cX6_where 69 = .ok (.lmul, 1) := by decide +kernel
theorem dX6_where_70 : decode cX6_where 70 = .ok (.lload 4, 2) := by decide +kernel
theorem dX6_where_72 : decode cX6_where 72 = .ok (.ldc2_w 121, 3) := by decide +kernel
theorem dX6_where_75 : decode cX6_where 75 = .ok (.aload_n 0, 1) := by decide +kernel
theorem dX6_where_76 : decode cX6_where 76 = .ok (.getfield 169, 3) := by decide +kernel
theorem dX6_where_79 : decode cX6_where 79 = .ok (.lmul, 1) := by decide +kernel
theorem dX6_where_80 : decode cX6_where 80 = .ok (.invokestatic 129, 3) := by decide +kernel
theorem dX6_where_83 : decode cX6_where 83 = .ok (.lmul, 1) := by decide +kernel
theorem dX6_where_84 : decode cX6_where 84 = .ok (.lsub, 1) := by decide +kernel
theorem dX6_where_85 : decode cX6_where 85 = .ok (.lstore 4, 2) := by decide +kernel
theorem dX6_where_87 : decode cX6_where 87 = .ok (.lload 4, 2) := by decide +kernel
theorem dX6_where_89 : decode cX6_where 89 = .ok (.aload_n 0, 1) := by decide +kernel
theorem dX6_where_90 : decode cX6_where 90 = .ok (.getfield 169, 3) := by decide +kernel
theorem dX6_where_93 : decode cX6_where 93 = .ok (.invokestatic 186, 3) := by decide +kernel
theorem dX6_where_96 : decode cX6_where 96 = .ok (.lstore 6, 2) := by decide +kernel
theorem dX6_where_98 : decode cX6_where 98 = .ok (.iload_n 3, 1) := by decide +kernel
theorem dX6_where_99 : decode cX6_where 99 = .ok (.ifCond .ne 11, 3) := by decide +kernel
theorem dX6_where_102 : decode cX6_where 102 = .ok (.lload 4, 2) := by decide +kernel
theorem dX6_where_104 : decode cX6_where 104 = .ok (.lload 6, 2) := by decide +kernel
theorem dX6_where_106 : decode cX6_where 106 = .ok (.ldiv, 1) := by decide +kernel
theorem dX6_where_107 : decode cX6_where 107 = .ok (.goto 10, 3) := by decide +kernel
theorem dX6_where_110 : decode cX6_where 110 = .ok (.aload_n 0, 1) := by decide +kernel
theorem dX6_where_111 : decode cX6_where 111 = .ok (.getfield 169, 3) := by decide +kernel
theorem dX6_where_114 : decode cX6_where 114 = .ok (.lload 6, 2) := by decide +kernel
theorem dX6_where_116 : decode cX6_where 116 = .ok (.ldiv, 1) := by decide +kernel
theorem dX6_where_117 : decode cX6_where 117 = .ok (.lreturn, 1) := by decide +kernel
theorem dX6_in_0 : decode cX6_in 0 = .ok (.aload_n 0, 1) := by decide +kernel
theorem dX6_in_1 : decode cX6_in 1 = .ok (.iload_n 1, 1) := by decide +kernel
theorem dX6_in_2 : decode cX6_in 2 = .ok (.invokevirtual 157, 3) := by decide +kernel
theorem dX6_in_5 : decode cX6_in 5 = .ok (.ifCond .eq 11, 3) := by decide +kernel
theorem dX6_in_8 : decode cX6_in 8 = .ok (.iload_n 2, 1) := by decide +kernel
theorem dX6_in_9 : decode cX6_in 9 = .ok (.i2l, 1) := by decide +kernel
theorem dX6_in_10 : decode cX6_in 10 = .ok (.invokestatic 141, 3) := by decide +kernel
theorem dX6_in_13 : decode cX6_in 13 = .ok (.ifCond .ne 5, 3) := by decide +kernel
theorem dX6_in_16 : decode cX6_in 16 = .ok (.iconst (-1), 1) := by decide +kernel
theorem dX6_in_17 : decode cX6_in 17 = .ok (.ireturn, 1) := by decide +kernel
theorem dX6_in_18 : decode cX6_in 18 = .ok (.aload_n 0, 1) := by decide +kernel
theorem dX6_in_19 : decode cX6_in 19 = .ok (.iload_n 1, 1) := by decide +kernel
theorem dX6_in_20 : decode cX6_in 20 = .ok (.iload_n 2, 1) := by decide +kernel
theorem dX6_in_21 : decode cX6_in 21 = .ok (.invokevirtual 182, 3) := by decide +kernel
theorem dX6_in_24 : decode cX6_in 24 = .ok (.aload_n 0, 1) := by decide +kernel
theorem dX6_in_25 : decode cX6_in 25 = .ok (.getfield 172, 3) := by decide +kernel
theorem dX6_in_28 : decode cX6_in 28 = .ok (.ireturn, 1) := by decide +kernel
theorem dX6_hereDay_0 : decode cX6_hereDay 0 = .ok (.aload_n 0, 1) := by decide +kernel
theorem dX6_hereDay_1 : decode cX6_hereDay 1 = .ok (.getfield 172, 3) := by decide +kernel
theorem dX6_hereDay_4 : decode cX6_hereDay 4 = .ok (.ifCond .lt 15, 3) := by decide +kernel
theorem dX6_hereDay_7 : decode cX6_hereDay 7 = .ok (.aload_n 0, 1) := by decide +kernel
theorem dX6_hereDay_8 : decode cX6_hereDay 8 = .ok (.aload_n 0, 1) := by decide +kernel
theorem dX6_hereDay_9 : decode cX6_hereDay 9 = .ok (.getfield 172, 3) := by decide +kernel
theorem dX6_hereDay_12 : decode cX6_hereDay 12 = .ok (.iload_n 2, 1) := by decide +kernel
theorem dX6_hereDay_13 : decode cX6_hereDay 13 = .ok (.invokevirtual 145, 3) := by decide +kernel
theorem dX6_hereDay_16 : decode cX6_hereDay 16 = .ok (.goto 18, 3) := by decide +kernel
theorem dX6_hereDay_19 : decode cX6_hereDay 19 = .ok (.aload_n 0, 1) := by decide +kernel
theorem dX6_hereDay_20 : decode cX6_hereDay 20 = .ok (.iload_n 1, 1) := by decide +kernel
theorem dX6_hereDay_21 : decode cX6_hereDay 21 = .ok (.iconst 1, 1) := by decide +kernel
theorem dX6_hereDay_22 : decode cX6_hereDay 22 = .ok (.invokevirtual 189, 3) := by decide +kernel
theorem dX6_hereDay_25 : decode cX6_hereDay 25 = .ok (.aload_n 0, 1) := by decide +kernel
theorem dX6_hereDay_26 : decode cX6_hereDay 26 = .ok (.getfield 169, 3) := by decide +kernel
theorem dX6_hereDay_29 : decode cX6_hereDay 29 = .ok (.iconst 0, 1) := by decide +kernel
theorem dX6_hereDay_30 : decode cX6_hereDay 30 = .ok (.iload_n 2, 1) := by decide +kernel
theorem dX6_hereDay_31 : decode cX6_hereDay 31 = .ok (.invokestatic 137, 3) := by decide +kernel
theorem dX6_hereDay_34 : decode cX6_hereDay 34 = .ok (.ireturn, 1) := by decide +kernel
theorem dX6_seenDay_0 : decode cX6_seenDay 0 = .ok (.aload_n 0, 1) := by decide +kernel
theorem dX6_seenDay_1 : decode cX6_seenDay 1 = .ok (.iload_n 1, 1) := by decide +kernel
theorem dX6_seenDay_2 : decode cX6_seenDay 2 = .ok (.iconst 0, 1) := by decide +kernel
theorem dX6_seenDay_3 : decode cX6_seenDay 3 = .ok (.invokevirtual 189, 3) := by decide +kernel
theorem dX6_seenDay_6 : decode cX6_seenDay 6 = .ok (.aload_n 0, 1) := by decide +kernel
theorem dX6_seenDay_7 : decode cX6_seenDay 7 = .ok (.getfield 169, 3) := by decide +kernel
theorem dX6_seenDay_10 : decode cX6_seenDay 10 = .ok (.iconst 1, 1) := by decide +kernel
theorem dX6_seenDay_11 : decode cX6_seenDay 11 = .ok (.iload_n 2, 1) := by decide +kernel
theorem dX6_seenDay_12 : decode cX6_seenDay 12 = .ok (.invokestatic 137, 3) := by decide +kernel
theorem dX6_seenDay_15 : decode cX6_seenDay 15 = .ok (.ireturn, 1) := by decide +kernel
theorem dX6_roundsNow_0 : decode cX6_roundsNow 0 = .ok (.aload_n 0, 1) := by decide +kernel
theorem dX6_roundsNow_1 : decode cX6_roundsNow 1 = .ok (.iload_n 1, 1) := by decide +kernel
theorem dX6_roundsNow_2 : decode cX6_roundsNow 2 = .ok (.iconst 0, 1) := by decide +kernel
theorem dX6_roundsNow_3 : decode cX6_roundsNow 3 = .ok (.invokevirtual 189, 3) := by decide +kernel
theorem dX6_roundsNow_6 : decode cX6_roundsNow 6 = .ok (.ldc2_w 121, 3) := by decide +kernel
theorem dX6_roundsNow_9 : decode cX6_roundsNow 9 = .ok (.aload_n 0, 1) := by decide +kernel
theorem dX6_roundsNow_10 : decode cX6_roundsNow 10 = .ok (.getfield 169, 3) := by decide +kernel
theorem dX6_roundsNow_13 : decode cX6_roundsNow 13 = .ok (.lmul, 1) := by decide +kernel
theorem dX6_roundsNow_14 : decode cX6_roundsNow 14 = .ok (.invokestatic 129, 3) := by decide +kernel
theorem dX6_roundsNow_17 : decode cX6_roundsNow 17 = .ok (.l2i, 1) := by decide +kernel
theorem dX6_roundsNow_18 : decode cX6_roundsNow 18 = .ok (.ireturn, 1) := by decide +kernel
theorem dX6_changesTo_0 : decode cX6_changesTo 0 = .ok (.iconst 0, 1) := by decide +kernel
theorem dX6_changesTo_1 : decode cX6_changesTo 1 = .ok (.istore_n 3, 1) := by decide +kernel
theorem dX6_changesTo_2 : decode cX6_changesTo 2 = .ok (.iconst 0, 1) := by decide +kernel
theorem dX6_changesTo_3 : decode cX6_changesTo 3 = .ok (.istore 4, 2) := by decide +kernel
theorem dX6_changesTo_5 : decode cX6_changesTo 5 = .ok (.iload 4, 2) := by decide +kernel
theorem dX6_changesTo_7 : decode cX6_changesTo 7 = .ok (.aload_n 0, 1) := by decide +kernel
theorem dX6_changesTo_8 : decode cX6_changesTo 8 = .ok (.iload_n 1, 1) := by decide +kernel
theorem dX6_changesTo_9 : decode cX6_changesTo 9 = .ok (.bipush 28, 2) := by decide +kernel
theorem dX6_changesTo_11 : decode cX6_changesTo 11 = .ok (.invokevirtual 150, 3) := by decide +kernel
theorem dX6_changesTo_14 : decode cX6_changesTo 14 = .ok (.if_icmp .ge 44, 3) := by decide +kernel
theorem dX6_changesTo_17 : decode cX6_changesTo 17 = .ok (.iload_n 3, 1) := by decide +kernel
theorem dX6_changesTo_18 : decode cX6_changesTo 18 = .ok (.aload_n 0, 1) := by decide +kernel
theorem dX6_changesTo_19 : decode cX6_changesTo 19 = .ok (.iload_n 1, 1) := by decide +kernel
theorem dX6_changesTo_20 : decode cX6_changesTo 20 = .ok (.bipush 29, 2) := by decide +kernel
theorem dX6_changesTo_22 : decode cX6_changesTo 22 = .ok (.iconst 2, 1) := by decide +kernel
theorem dX6_changesTo_23 : decode cX6_changesTo 23 = .ok (.iload 4, 2) := by decide +kernel
theorem dX6_changesTo_25 : decode cX6_changesTo 25 = .ok (.imul, 1) := by decide +kernel
theorem dX6_changesTo_26 : decode cX6_changesTo 26 = .ok (.iadd, 1) := by decide +kernel
theorem dX6_changesTo_27 : decode cX6_changesTo 27 = .ok (.invokevirtual 150, 3) := by decide +kernel
theorem dX6_changesTo_30 : decode cX6_changesTo 30 = .ok (.iload_n 2, 1) := by decide +kernel
theorem dX6_changesTo_31 : decode cX6_changesTo 31 = .ok (.if_icmp .gt 18, 3) := by decide +kernel
theorem dX6_changesTo_34 : decode cX6_changesTo 34 = .ok (.aload_n 0, 1) := by decide +kernel
theorem dX6_changesTo_35 : decode cX6_changesTo 35 = .ok (.iload_n 1, 1) := by decide +kernel
theorem dX6_changesTo_36 : decode cX6_changesTo 36 = .ok (.bipush 30, 2) := by decide +kernel
theorem dX6_changesTo_38 : decode cX6_changesTo 38 = .ok (.iconst 2, 1) := by decide +kernel
theorem dX6_changesTo_39 : decode cX6_changesTo 39 = .ok (.iload 4, 2) := by decide +kernel
theorem dX6_changesTo_41 : decode cX6_changesTo 41 = .ok (.imul, 1) := by decide +kernel
theorem dX6_changesTo_42 : decode cX6_changesTo 42 = .ok (.iadd, 1) := by decide +kernel
theorem dX6_changesTo_43 : decode cX6_changesTo 43 = .ok (.invokevirtual 150, 3) := by decide +kernel
theorem dX6_changesTo_46 : decode cX6_changesTo 46 = .ok (.goto 4, 3) := by decide +kernel
theorem dX6_changesTo_49 : decode cX6_changesTo 49 = .ok (.iconst 0, 1) := by decide +kernel
theorem dX6_changesTo_50 : decode cX6_changesTo 50 = .ok (.iadd, 1) := by decide +kernel
theorem dX6_changesTo_51 : decode cX6_changesTo 51 = .ok (.istore_n 3, 1) := by decide +kernel
theorem dX6_changesTo_52 : decode cX6_changesTo 52 = .ok (.iinc 4 1, 3) := by decide +kernel
theorem dX6_changesTo_55 : decode cX6_changesTo 55 = .ok (.goto (-50), 3) := by decide +kernel
theorem dX6_changesTo_58 : decode cX6_changesTo 58 = .ok (.iload_n 3, 1) := by decide +kernel
theorem dX6_changesTo_59 : decode cX6_changesTo 59 = .ok (.ireturn, 1) := by decide +kernel
theorem dX6_dayAs_0 : decode cX6_dayAs 0 = .ok (.aload_n 0, 1) := by decide +kernel
theorem dX6_dayAs_1 : decode cX6_dayAs 1 = .ok (.iload_n 1, 1) := by decide +kernel
theorem dX6_dayAs_2 : decode cX6_dayAs 2 = .ok (.iload_n 3, 1) := by decide +kernel
theorem dX6_dayAs_3 : decode cX6_dayAs 3 = .ok (.invokevirtual 182, 3) := by decide +kernel
theorem dX6_dayAs_6 : decode cX6_dayAs 6 = .ok (.aload_n 0, 1) := by decide +kernel
theorem dX6_dayAs_7 : decode cX6_dayAs 7 = .ok (.iload_n 1, 1) := by decide +kernel
theorem dX6_dayAs_8 : decode cX6_dayAs 8 = .ok (.iconst 1, 1) := by decide +kernel
theorem dX6_dayAs_9 : decode cX6_dayAs 9 = .ok (.invokevirtual 150, 3) := by decide +kernel
theorem dX6_dayAs_12 : decode cX6_dayAs 12 = .ok (.istore 4, 2) := by decide +kernel
theorem dX6_dayAs_14 : decode cX6_dayAs 14 = .ok (.iload_n 2, 1) := by decide +kernel
theorem dX6_dayAs_15 : decode cX6_dayAs 15 = .ok (.tableswitch 163 1 7 #[41, 48, 55, 63, 77, 90, 142], 41) := by decide +kernel
theorem dX6_dayAs_56 : decode cX6_dayAs 56 = .ok (.aload_n 0, 1) := by decide +kernel
theorem dX6_dayAs_57 : decode cX6_dayAs 57 = .ok (.iload_n 1, 1) := by decide +kernel
theorem dX6_dayAs_58 : decode cX6_dayAs 58 = .ok (.iload_n 3, 1) := by decide +kernel
theorem dX6_dayAs_59 : decode cX6_dayAs 59 = .ok (.invokevirtual 193, 3) := by decide +kernel
theorem dX6_dayAs_62 : decode cX6_dayAs 62 = .ok (.ireturn, 1) := by decide +kernel
theorem dX6_dayAs_63 : decode cX6_dayAs 63 = .ok (.aload_n 0, 1) := by decide +kernel
theorem dX6_dayAs_64 : decode cX6_dayAs 64 = .ok (.iload_n 1, 1) := by decide +kernel
theorem dX6_dayAs_65 : decode cX6_dayAs 65 = .ok (.iload_n 3, 1) := by decide +kernel
theorem dX6_dayAs_66 : decode cX6_dayAs 66 = .ok (.invokevirtual 196, 3) := by decide +kernel
theorem dX6_dayAs_69 : decode cX6_dayAs 69 = .ok (.ireturn, 1) := by decide +kernel
theorem dX6_dayAs_70 : decode cX6_dayAs 70 = .ok (.aload_n 0, 1) := by decide +kernel
theorem dX6_dayAs_71 : decode cX6_dayAs 71 = .ok (.iload 4, 2) := by decide +kernel
theorem dX6_dayAs_73 : decode cX6_dayAs 73 = .ok (.iload_n 3, 1) := by decide +kernel
theorem dX6_dayAs_74 : decode cX6_dayAs 74 = .ok (.invokevirtual 145, 3) := by decide +kernel
theorem dX6_dayAs_77 : decode cX6_dayAs 77 = .ok (.ireturn, 1) := by decide +kernel
theorem dX6_dayAs_78 : decode cX6_dayAs 78 = .ok (.aload_n 0, 1) := by decide +kernel
theorem dX6_dayAs_79 : decode cX6_dayAs 79 = .ok (.iload_n 1, 1) := by decide +kernel
theorem dX6_dayAs_80 : decode cX6_dayAs 80 = .ok (.iload_n 3, 1) := by decide +kernel
theorem dX6_dayAs_81 : decode cX6_dayAs 81 = .ok (.invokevirtual 193, 3) := by decide +kernel
theorem dX6_dayAs_84 : decode cX6_dayAs 84 = .ok (.aload_n 0, 1) := by decide +kernel
theorem dX6_dayAs_85 : decode cX6_dayAs 85 = .ok (.iload_n 1, 1) := by decide +kernel
theorem dX6_dayAs_86 : decode cX6_dayAs 86 = .ok (.iload_n 3, 1) := by decide +kernel
theorem dX6_dayAs_87 : decode cX6_dayAs 87 = .ok (.invokevirtual 199, 3) := by decide +kernel
theorem dX6_dayAs_90 : decode cX6_dayAs 90 = .ok (.iadd, 1) := by decide +kernel
theorem dX6_dayAs_91 : decode cX6_dayAs 91 = .ok (.ireturn, 1) := by decide +kernel
theorem dX6_dayAs_92 : decode cX6_dayAs 92 = .ok (.aload_n 0, 1) := by decide +kernel
theorem dX6_dayAs_93 : decode cX6_dayAs 93 = .ok (.iload_n 1, 1) := by decide +kernel
theorem dX6_dayAs_94 : decode cX6_dayAs 94 = .ok (.iload_n 3, 1) := by decide +kernel
theorem dX6_dayAs_95 : decode cX6_dayAs 95 = .ok (.invokevirtual 193, 3) := by decide +kernel
theorem dX6_dayAs_98 : decode cX6_dayAs 98 = .ok (.aload_n 0, 1) := by decide +kernel
theorem dX6_dayAs_99 : decode cX6_dayAs 99 = .ok (.iload_n 1, 1) := by decide +kernel
theorem dX6_dayAs_100 : decode cX6_dayAs 100 = .ok (.invokevirtual 202, 3) := by decide +kernel
theorem dX6_dayAs_103 : decode cX6_dayAs 103 = .ok (.isub, 1) := by decide +kernel
theorem dX6_dayAs_104 : decode cX6_dayAs 104 = .ok (.ireturn, 1) := by decide +kernel
theorem dX6_dayAs_105 : decode cX6_dayAs 105 = .ok (.aload_n 0, 1) := by decide +kernel
theorem dX6_dayAs_106 : decode cX6_dayAs 106 = .ok (.getfield 172, 3) := by decide +kernel
theorem dX6_dayAs_109 : decode cX6_dayAs 109 = .ok (.ifCond .lt 40, 3) := by decide +kernel
theorem dX6_dayAs_112 : decode cX6_dayAs 112 = .ok (.aload_n 0, 1) := by decide +kernel
theorem dX6_dayAs_113 : decode cX6_dayAs 113 = .ok (.getfield 172, 3) := by decide +kernel
theorem dX6_dayAs_116 : decode cX6_dayAs 116 = .ok (.iload 4, 2) := by decide +kernel
theorem dX6_dayAs_118 : decode cX6_dayAs 118 = .ok (.if_icmp .eq 31, 3) := by decide +kernel
theorem dX6_dayAs_121 : decode cX6_dayAs 121 = .ok (.iload_n 3, 1) := by decide +kernel
theorem dX6_dayAs_122 : decode cX6_dayAs 122 = .ok (.aload_n 0, 1) := by decide +kernel
theorem dX6_dayAs_123 : decode cX6_dayAs 123 = .ok (.getfield 175, 3) := by decide +kernel
theorem dX6_dayAs_126 : decode cX6_dayAs 126 = .ok (.sipush 1440, 3) := by decide +kernel
theorem dX6_dayAs_129 : decode cX6_dayAs 129 = .ok (.aload_n 0, 1) := by decide +kernel
theorem dX6_dayAs_130 : decode cX6_dayAs 130 = .ok (.iload_n 1, 1) := by decide +kernel
theorem dX6_dayAs_131 : decode cX6_dayAs 131 = .ok (.iconst 2, 1) := by decide +kernel
theorem dX6_dayAs_132 : decode cX6_dayAs 132 = .ok (.invokevirtual 150, 3) := by decide +kernel
theorem dX6_dayAs_135 : decode cX6_dayAs 135 = .ok (.imul, 1) := by decide +kernel
theorem dX6_dayAs_136 : decode cX6_dayAs 136 = .ok (.iadd, 1) := by decide +kernel
theorem dX6_dayAs_137 : decode cX6_dayAs 137 = .ok (.if_icmp .lt 12, 3) := by decide +kernel
theorem dX6_dayAs_140 : decode cX6_dayAs 140 = .ok (.aload_n 0, 1) := by decide +kernel
theorem dX6_dayAs_141 : decode cX6_dayAs 141 = .ok (.iload_n 1, 1) := by decide +kernel
theorem dX6_dayAs_142 : decode cX6_dayAs 142 = .ok (.iload_n 3, 1) := by decide +kernel
theorem dX6_dayAs_143 : decode cX6_dayAs 143 = .ok (.invokevirtual 196, 3) := by decide +kernel
theorem dX6_dayAs_146 : decode cX6_dayAs 146 = .ok (.goto 10, 3) := by decide +kernel
theorem dX6_dayAs_149 : decode cX6_dayAs 149 = .ok (.aload_n 0, 1) := by decide +kernel
theorem dX6_dayAs_150 : decode cX6_dayAs 150 = .ok (.iload 4, 2) := by decide +kernel
theorem dX6_dayAs_152 : decode cX6_dayAs 152 = .ok (.iload_n 3, 1) := by decide +kernel
theorem dX6_dayAs_153 : decode cX6_dayAs 153 = .ok (.invokevirtual 145, 3) := by decide +kernel
theorem dX6_dayAs_156 : decode cX6_dayAs 156 = .ok (.ireturn, 1) := by decide +kernel
theorem dX6_dayAs_157 : decode cX6_dayAs 157 = .ok (.aload_n 0, 1) := by decide +kernel
theorem dX6_dayAs_158 : decode cX6_dayAs 158 = .ok (.iload 4, 2) := by decide +kernel
theorem dX6_dayAs_160 : decode cX6_dayAs 160 = .ok (.iload_n 3, 1) := by decide +kernel
theorem dX6_dayAs_161 : decode cX6_dayAs 161 = .ok (.invokevirtual 145, 3) := by decide +kernel
theorem dX6_dayAs_164 : decode cX6_dayAs 164 = .ok (.aload_n 0, 1) := by decide +kernel
theorem dX6_dayAs_165 : decode cX6_dayAs 165 = .ok (.getfield 172, 3) := by decide +kernel
theorem dX6_dayAs_168 : decode cX6_dayAs 168 = .ok (.ifCond .ge 7, 3) := by decide +kernel
theorem dX6_dayAs_171 : decode cX6_dayAs 171 = .ok (.iconst 1, 1) := by decide +kernel
theorem dX6_dayAs_172 : decode cX6_dayAs 172 = .ok (.goto 4, 3) := by decide +kernel
theorem dX6_dayAs_175 : decode cX6_dayAs 175 = .ok (.iconst 0, 1) := by decide +kernel
theorem dX6_dayAs_176 : decode cX6_dayAs 176 = .ok (.iadd, 1) := by decide +kernel
theorem dX6_dayAs_177 : decode cX6_dayAs 177 = .ok (.ireturn, 1) := by decide +kernel
theorem dX6_dayAs_178 : decode cX6_dayAs 178 = .ok (.aload_n 0, 1) := by decide +kernel
theorem dX6_dayAs_179 : decode cX6_dayAs 179 = .ok (.iload_n 1, 1) := by decide +kernel
theorem dX6_dayAs_180 : decode cX6_dayAs 180 = .ok (.iconst 1, 1) := by decide +kernel
theorem dX6_dayAs_181 : decode cX6_dayAs 181 = .ok (.invokevirtual 189, 3) := by decide +kernel
theorem dX6_dayAs_184 : decode cX6_dayAs 184 = .ok (.aload_n 0, 1) := by decide +kernel
theorem dX6_dayAs_185 : decode cX6_dayAs 185 = .ok (.getfield 169, 3) := by decide +kernel
theorem dX6_dayAs_188 : decode cX6_dayAs 188 = .ok (.iconst 0, 1) := by decide +kernel
theorem dX6_dayAs_189 : decode cX6_dayAs 189 = .ok (.iload_n 3, 1) := by decide +kernel
theorem dX6_dayAs_190 : decode cX6_dayAs 190 = .ok (.invokestatic 137, 3) := by decide +kernel
theorem dX6_dayAs_193 : decode cX6_dayAs 193 = .ok (.ireturn, 1) := by decide +kernel
theorem dX6_dayNow_0 : decode cX6_dayNow 0 = .ok (.aload_n 0, 1) := by decide +kernel
theorem dX6_dayNow_1 : decode cX6_dayNow 1 = .ok (.iload_n 1, 1) := by decide +kernel
theorem dX6_dayNow_2 : decode cX6_dayNow 2 = .ok (.aload_n 0, 1) := by decide +kernel
theorem dX6_dayNow_3 : decode cX6_dayNow 3 = .ok (.iload_n 1, 1) := by decide +kernel
theorem dX6_dayNow_4 : decode cX6_dayNow 4 = .ok (.iconst 0, 1) := by decide +kernel
theorem dX6_dayNow_5 : decode cX6_dayNow 5 = .ok (.invokevirtual 150, 3) := by decide +kernel
theorem dX6_dayNow_8 : decode cX6_dayNow 8 = .ok (.iload_n 2, 1) := by decide +kernel
theorem dX6_dayNow_9 : decode cX6_dayNow 9 = .ok (.invokevirtual 205, 3) := by decide +kernel
theorem dX6_dayNow_12 : decode cX6_dayNow 12 = .ok (.ireturn, 1) := by decide +kernel
theorem dX6_day_0 : decode cX6_day 0 = .ok (.aload_n 0, 1) := by decide +kernel
theorem dX6_day_1 : decode cX6_day 1 = .ok (.iload_n 1, 1) := by decide +kernel
theorem dX6_day_2 : decode cX6_day 2 = .ok (.invokevirtual 157, 3) := by decide +kernel
theorem dX6_day_5 : decode cX6_day 5 = .ok (.ifCond .eq 20, 3) := by decide +kernel
theorem dX6_day_8 : decode cX6_day 8 = .ok (.iload_n 2, 1) := by decide +kernel
theorem dX6_day_9 : decode cX6_day 9 = .ok (.i2l, 1) := by decide +kernel
theorem dX6_day_10 : decode cX6_day 10 = .ok (.invokestatic 141, 3) := by decide +kernel
theorem dX6_day_13 : decode cX6_day 13 = .ok (.ifCond .eq 12, 3) := by decide +kernel
theorem dX6_day_16 : decode cX6_day 16 = .ok (.aload_n 0, 1) := by decide +kernel
theorem dX6_day_17 : decode cX6_day 17 = .ok (.iload_n 1, 1) := by decide +kernel
theorem dX6_day_18 : decode cX6_day 18 = .ok (.iload_n 2, 1) := by decide +kernel
theorem dX6_day_19 : decode cX6_day 19 = .ok (.invokevirtual 208, 3) := by decide +kernel
theorem dX6_day_22 : decode cX6_day 22 = .ok (.goto 5, 3) := by decide +kernel
theorem dX6_day_25 : decode cX6_day 25 = .ok (.ldc 111, 2) := by decide +kernel
theorem dX6_day_27 : decode cX6_day 27 = .ok (.ireturn, 1) := by decide +kernel
theorem dX6_isKind_0 : decode cX6_isKind 0 = .ok (.iload_n 0, 1) := by decide +kernel
theorem dX6_isKind_1 : decode cX6_isKind 1 = .ok (.i2l, 1) := by decide +kernel
theorem dX6_isKind_2 : decode cX6_isKind 2 = .ok (.lconst 0, 1) := by decide +kernel
theorem dX6_isKind_3 : decode cX6_isKind 3 = .ok (.ldc2_w 54, 3) := by decide +kernel
theorem dX6_isKind_6 : decode cX6_isKind 6 = .ok (.invokestatic 48, 3) := by decide +kernel
theorem dX6_isKind_9 : decode cX6_isKind 9 = .ok (.ireturn, 1) := by decide +kernel
theorem dX6_dayBy_0 : decode cX6_dayBy 0 = .ok (.aload_n 0, 1) := by decide +kernel
theorem dX6_dayBy_1 : decode cX6_dayBy 1 = .ok (.iload_n 1, 1) := by decide +kernel
theorem dX6_dayBy_2 : decode cX6_dayBy 2 = .ok (.invokevirtual 157, 3) := by decide +kernel
theorem dX6_dayBy_5 : decode cX6_dayBy 5 = .ok (.ifCond .eq 28, 3) := by decide +kernel
theorem dX6_dayBy_8 : decode cX6_dayBy 8 = .ok (.iload_n 2, 1) := by decide +kernel
theorem dX6_dayBy_9 : decode cX6_dayBy 9 = .ok (.invokestatic 211, 3) := by decide +kernel
theorem dX6_dayBy_12 : decode cX6_dayBy 12 = .ok (.ifCond .eq 21, 3) := by decide +kernel
theorem dX6_dayBy_15 : decode cX6_dayBy 15 = .ok (.iload_n 3, 1) := by decide +kernel
theorem dX6_dayBy_16 : decode cX6_dayBy 16 = .ok (.i2l, 1) := by decide +kernel
theorem dX6_dayBy_17 : decode cX6_dayBy 17 = .ok (.invokestatic 141, 3) := by decide +kernel
theorem dX6_dayBy_20 : decode cX6_dayBy 20 = .ok (.ifCond .eq 13, 3) := by decide +kernel
theorem dX6_dayBy_23 : decode cX6_dayBy 23 = .ok (.aload_n 0, 1) := by decide +kernel
theorem dX6_dayBy_24 : decode cX6_dayBy 24 = .ok (.iload_n 1, 1) := by decide +kernel
theorem dX6_dayBy_25 : decode cX6_dayBy 25 = .ok (.iload_n 2, 1) := by decide +kernel
theorem dX6_dayBy_26 : decode cX6_dayBy 26 = .ok (.iload_n 3, 1) := by decide +kernel
theorem dX6_dayBy_27 : decode cX6_dayBy 27 = .ok (.invokevirtual 205, 3) := by decide +kernel
theorem dX6_dayBy_30 : decode cX6_dayBy 30 = .ok (.goto 5, 3) := by decide +kernel
theorem dX6_dayBy_33 : decode cX6_dayBy 33 = .ok (.ldc 111, 2) := by decide +kernel
theorem dX6_dayBy_35 : decode cX6_dayBy 35 = .ok (.ireturn, 1) := by decide +kernel
theorem dX6_gain_0 : decode cX6_gain 0 = .ok (.aload_n 0, 1) := by decide +kernel
theorem dX6_gain_1 : decode cX6_gain 1 = .ok (.iload_n 1, 1) := by decide +kernel
theorem dX6_gain_2 : decode cX6_gain 2 = .ok (.invokevirtual 157, 3) := by decide +kernel
theorem dX6_gain_5 : decode cX6_gain 5 = .ok (.ifCond .eq 40, 3) := by decide +kernel
theorem dX6_gain_8 : decode cX6_gain 8 = .ok (.iload_n 2, 1) := by decide +kernel
theorem dX6_gain_9 : decode cX6_gain 9 = .ok (.invokestatic 211, 3) := by decide +kernel
theorem dX6_gain_12 : decode cX6_gain 12 = .ok (.ifCond .eq 33, 3) := by decide +kernel
theorem dX6_gain_15 : decode cX6_gain 15 = .ok (.iload_n 3, 1) := by decide +kernel
theorem dX6_gain_16 : decode cX6_gain 16 = .ok (.i2l, 1) := by decide +kernel
theorem dX6_gain_17 : decode cX6_gain 17 = .ok (.invokestatic 141, 3) := by decide +kernel
theorem dX6_gain_20 : decode cX6_gain 20 = .ok (.ifCond .eq 25, 3) := by decide +kernel
theorem dX6_gain_23 : decode cX6_gain 23 = .ok (.aload_n 0, 1) := by decide +kernel
theorem dX6_gain_24 : decode cX6_gain 24 = .ok (.iload_n 1, 1) := by decide +kernel
theorem dX6_gain_25 : decode cX6_gain 25 = .ok (.iload_n 2, 1) := by decide +kernel
theorem dX6_gain_26 : decode cX6_gain 26 = .ok (.iload_n 3, 1) := by decide +kernel
theorem dX6_gain_27 : decode cX6_gain 27 = .ok (.invokevirtual 205, 3) := by decide +kernel
theorem dX6_gain_30 : decode cX6_gain 30 = .ok (.aload_n 0, 1) := by decide +kernel
theorem dX6_gain_31 : decode cX6_gain 31 = .ok (.aload_n 0, 1) := by decide +kernel
theorem dX6_gain_32 : decode cX6_gain 32 = .ok (.iload_n 1, 1) := by decide +kernel
theorem dX6_gain_33 : decode cX6_gain 33 = .ok (.iconst 1, 1) := by decide +kernel
theorem dX6_gain_34 : decode cX6_gain 34 = .ok (.invokevirtual 150, 3) := by decide +kernel
theorem dX6_gain_37 : decode cX6_gain 37 = .ok (.iload_n 3, 1) := by decide +kernel
theorem dX6_gain_38 : decode cX6_gain 38 = .ok (.invokevirtual 145, 3) := by decide +kernel
theorem dX6_gain_41 : decode cX6_gain 41 = .ok (.isub, 1) := by decide +kernel
theorem dX6_gain_42 : decode cX6_gain 42 = .ok (.goto 5, 3) := by decide +kernel
theorem dX6_gain_45 : decode cX6_gain 45 = .ok (.ldc 111, 2) := by decide +kernel
theorem dX6_gain_47 : decode cX6_gain 47 = .ok (.ireturn, 1) := by decide +kernel
theorem dX6_beginsOf_0 : decode cX6_beginsOf 0 = .ok (.aload_n 0, 1) := by decide +kernel
theorem dX6_beginsOf_1 : decode cX6_beginsOf 1 = .ok (.iload_n 1, 1) := by decide +kernel
theorem dX6_beginsOf_2 : decode cX6_beginsOf 2 = .ok (.iload_n 2, 1) := by decide +kernel
theorem dX6_beginsOf_3 : decode cX6_beginsOf 3 = .ok (.invokevirtual 208, 3) := by decide +kernel
theorem dX6_beginsOf_6 : decode cX6_beginsOf 6 = .ok (.istore_n 3, 1) := by decide +kernel
theorem dX6_beginsOf_7 : decode cX6_beginsOf 7 = .ok (.iload_n 2, 1) := by decide +kernel
theorem dX6_beginsOf_8 : decode cX6_beginsOf 8 = .ok (.iconst 1, 1) := by decide +kernel
theorem dX6_beginsOf_9 : decode cX6_beginsOf 9 = .ok (.iadd, 1) := by decide +kernel
theorem dX6_beginsOf_10 : decode cX6_beginsOf 10 = .ok (.istore 4, 2) := by decide +kernel
theorem dX6_beginsOf_12 : decode cX6_beginsOf 12 = .ok (.iload 4, 2) := by decide +kernel
theorem dX6_beginsOf_14 : decode cX6_beginsOf 14 = .ok (.sipush 19999, 3) := by decide +kernel
theorem dX6_beginsOf_17 : decode cX6_beginsOf 17 = .ok (.if_icmp .gt 23, 3) := by decide +kernel
theorem dX6_beginsOf_20 : decode cX6_beginsOf 20 = .ok (.aload_n 0, 1) := by decide +kernel
theorem dX6_beginsOf_21 : decode cX6_beginsOf 21 = .ok (.iload_n 1, 1) := by decide +kernel
theorem dX6_beginsOf_22 : decode cX6_beginsOf 22 = .ok (.iload 4, 2) := by decide +kernel
theorem dX6_beginsOf_24 : decode cX6_beginsOf 24 = .ok (.invokevirtual 208, 3) := by decide +kernel
theorem dX6_beginsOf_27 : decode cX6_beginsOf 27 = .ok (.iload_n 3, 1) := by decide +kernel
theorem dX6_beginsOf_28 : decode cX6_beginsOf 28 = .ok (.if_icmp .eq 6, 3) := by decide +kernel
theorem dX6_beginsOf_31 : decode cX6_beginsOf 31 = .ok (.iload 4, 2) := by decide +kernel
theorem dX6_beginsOf_33 : decode cX6_beginsOf 33 = .ok (.ireturn, 1) := by decide +kernel
theorem dX6_beginsOf_34 : decode cX6_beginsOf 34 = .ok (.iinc 4 1, 3) := by decide +kernel
theorem dX6_beginsOf_37 : decode cX6_beginsOf 37 = .ok (.goto (-25), 3) := by decide +kernel
theorem dX6_beginsOf_40 : decode cX6_beginsOf 40 = .ok (.bipush (-4), 2) := by decide +kernel
theorem dX6_beginsOf_42 : decode cX6_beginsOf 42 = .ok (.ireturn, 1) := by decide +kernel
theorem dX6_begins_0 : decode cX6_begins 0 = .ok (.aload_n 0, 1) := by decide +kernel
theorem dX6_begins_1 : decode cX6_begins 1 = .ok (.iload_n 1, 1) := by decide +kernel
theorem dX6_begins_2 : decode cX6_begins 2 = .ok (.invokevirtual 157, 3) := by decide +kernel
theorem dX6_begins_5 : decode cX6_begins 5 = .ok (.ifCond .eq 20, 3) := by decide +kernel
theorem dX6_begins_8 : decode cX6_begins 8 = .ok (.iload_n 2, 1) := by decide +kernel
theorem dX6_begins_9 : decode cX6_begins 9 = .ok (.i2l, 1) := by decide +kernel
theorem dX6_begins_10 : decode cX6_begins 10 = .ok (.invokestatic 141, 3) := by decide +kernel
theorem dX6_begins_13 : decode cX6_begins 13 = .ok (.ifCond .eq 12, 3) := by decide +kernel
theorem dX6_begins_16 : decode cX6_begins 16 = .ok (.aload_n 0, 1) := by decide +kernel
theorem dX6_begins_17 : decode cX6_begins 17 = .ok (.iload_n 1, 1) := by decide +kernel
theorem dX6_begins_18 : decode cX6_begins 18 = .ok (.iload_n 2, 1) := by decide +kernel
theorem dX6_begins_19 : decode cX6_begins 19 = .ok (.invokevirtual 214, 3) := by decide +kernel
theorem dX6_begins_22 : decode cX6_begins 22 = .ok (.goto 4, 3) := by decide +kernel
theorem dX6_begins_25 : decode cX6_begins 25 = .ok (.iconst (-1), 1) := by decide +kernel
theorem dX6_begins_26 : decode cX6_begins 26 = .ok (.ireturn, 1) := by decide +kernel
theorem dX6_longDay_0 : decode cX6_longDay 0 = .ok (.aload_n 0, 1) := by decide +kernel
theorem dX6_longDay_1 : decode cX6_longDay 1 = .ok (.iload_n 1, 1) := by decide +kernel
theorem dX6_longDay_2 : decode cX6_longDay 2 = .ok (.invokevirtual 157, 3) := by decide +kernel
theorem dX6_longDay_5 : decode cX6_longDay 5 = .ok (.ifCond .eq 11, 3) := by decide +kernel
theorem dX6_longDay_8 : decode cX6_longDay 8 = .ok (.iload_n 2, 1) := by decide +kernel
theorem dX6_longDay_9 : decode cX6_longDay 9 = .ok (.i2l, 1) := by decide +kernel
theorem dX6_longDay_10 : decode cX6_longDay 10 = .ok (.invokestatic 141, 3) := by decide +kernel
theorem dX6_longDay_13 : decode cX6_longDay 13 = .ok (.ifCond .ne 5, 3) := by decide +kernel
theorem dX6_longDay_16 : decode cX6_longDay 16 = .ok (.iconst (-1), 1) := by decide +kernel
theorem dX6_longDay_17 : decode cX6_longDay 17 = .ok (.ireturn, 1) := by decide +kernel
theorem dX6_longDay_18 : decode cX6_longDay 18 = .ok (.aload_n 0, 1) := by decide +kernel
theorem dX6_longDay_19 : decode cX6_longDay 19 = .ok (.iload_n 1, 1) := by decide +kernel
theorem dX6_longDay_20 : decode cX6_longDay 20 = .ok (.iload_n 2, 1) := by decide +kernel
theorem dX6_longDay_21 : decode cX6_longDay 21 = .ok (.invokevirtual 214, 3) := by decide +kernel
theorem dX6_longDay_24 : decode cX6_longDay 24 = .ok (.istore_n 3, 1) := by decide +kernel
theorem dX6_longDay_25 : decode cX6_longDay 25 = .ok (.iload_n 3, 1) := by decide +kernel
theorem dX6_longDay_26 : decode cX6_longDay 26 = .ok (.ifCond .ge 6, 3) := by decide +kernel
theorem dX6_longDay_29 : decode cX6_longDay 29 = .ok (.bipush (-4), 2) := by decide +kernel
theorem dX6_longDay_31 : decode cX6_longDay 31 = .ok (.ireturn, 1) := by decide +kernel
theorem dX6_longDay_32 : decode cX6_longDay 32 = .ok (.iload_n 2, 1) := by decide +kernel
theorem dX6_longDay_33 : decode cX6_longDay 33 = .ok (.istore 4, 2) := by decide +kernel
theorem dX6_longDay_35 : decode cX6_longDay 35 = .ok (.iload 4, 2) := by decide +kernel
theorem dX6_longDay_37 : decode cX6_longDay 37 = .ok (.ifCond .le 27, 3) := by decide +kernel
theorem dX6_longDay_40 : decode cX6_longDay 40 = .ok (.aload_n 0, 1) := by decide +kernel
theorem dX6_longDay_41 : decode cX6_longDay 41 = .ok (.iload_n 1, 1) := by decide +kernel
theorem dX6_longDay_42 : decode cX6_longDay 42 = .ok (.iload 4, 2) := by decide +kernel
theorem dX6_longDay_44 : decode cX6_longDay 44 = .ok (.iconst 1, 1) := by decide +kernel
theorem dX6_longDay_45 : decode cX6_longDay 45 = .ok (.isub, 1) := by decide +kernel
theorem dX6_longDay_46 : decode cX6_longDay 46 = .ok (.invokevirtual 208, 3) := by decide +kernel
theorem dX6_longDay_49 : decode cX6_longDay 49 = .ok (.aload_n 0, 1) := by decide +kernel
theorem dX6_longDay_50 : decode cX6_longDay 50 = .ok (.iload_n 1, 1) := by decide +kernel
theorem dX6_longDay_51 : decode cX6_longDay 51 = .ok (.iload_n 2, 1) := by decide +kernel
theorem dX6_longDay_52 : decode cX6_longDay 52 = .ok (.invokevirtual 208, 3) := by decide +kernel
theorem dX6_longDay_55 : decode cX6_longDay 55 = .ok (.if_icmp .ne 9, 3) := by decide +kernel
theorem dX6_longDay_58 : decode cX6_longDay 58 = .ok (.iinc 4 (-1), 3) := by decide +kernel
theorem dX6_longDay_61 : decode cX6_longDay 61 = .ok (.goto (-26), 3) := by decide +kernel
theorem dX6_longDay_64 : decode cX6_longDay 64 = .ok (.iload_n 3, 1) := by decide +kernel
theorem dX6_longDay_65 : decode cX6_longDay 65 = .ok (.iload 4, 2) := by decide +kernel
theorem dX6_longDay_67 : decode cX6_longDay 67 = .ok (.isub, 1) := by decide +kernel
theorem dX6_longDay_68 : decode cX6_longDay 68 = .ok (.ireturn, 1) := by decide +kernel
theorem dX6_often_0 : decode cX6_often 0 = .ok (.aload_n 0, 1) := by decide +kernel
theorem dX6_often_1 : decode cX6_often 1 = .ok (.iload_n 1, 1) := by decide +kernel
theorem dX6_often_2 : decode cX6_often 2 = .ok (.invokevirtual 157, 3) := by decide +kernel
theorem dX6_often_5 : decode cX6_often 5 = .ok (.ifCond .eq 11, 3) := by decide +kernel
theorem dX6_often_8 : decode cX6_often 8 = .ok (.iload_n 3, 1) := by decide +kernel
theorem dX6_often_9 : decode cX6_often 9 = .ok (.i2l, 1) := by decide +kernel
theorem dX6_often_10 : decode cX6_often 10 = .ok (.invokestatic 141, 3) := by decide +kernel
theorem dX6_often_13 : decode cX6_often 13 = .ok (.ifCond .ne 5, 3) := by decide +kernel
theorem dX6_often_16 : decode cX6_often 16 = .ok (.iconst (-1), 1) := by decide +kernel
theorem dX6_often_17 : decode cX6_often 17 = .ok (.ireturn, 1) := by decide +kernel
theorem dX6_often_18 : decode cX6_often 18 = .ok (.iconst 0, 1) := by decide +kernel
theorem dX6_often_19 : decode cX6_often 19 = .ok (.istore 4, 2) := by decide +kernel
theorem dX6_often_21 : decode cX6_often 21 = .ok (.iconst 0, 1) := by decide +kernel
theorem dX6_often_22 : decode cX6_often 22 = .ok (.istore 5, 2) := by decide +kernel
theorem dX6_often_24 : decode cX6_often 24 = .ok (.iconst 0, 1) := by decide +kernel
theorem dX6_often_25 : decode cX6_often 25 = .ok (.istore 6, 2) := by decide +kernel
theorem dX6_often_27 : decode cX6_often 27 = .ok (.iload 6, 2) := by decide +kernel
theorem dX6_often_29 : decode cX6_often 29 = .ok (.iload_n 3, 1) := by decide +kernel
theorem dX6_often_30 : decode cX6_often 30 = .ok (.if_icmp .gt 51, 3) := by decide +kernel
theorem dX6_often_33 : decode cX6_often 33 = .ok (.aload_n 0, 1) := by decide +kernel
theorem dX6_often_34 : decode cX6_often 34 = .ok (.iload_n 1, 1) := by decide +kernel
theorem dX6_often_35 : decode cX6_often 35 = .ok (.iload 6, 2) := by decide +kernel
theorem dX6_often_37 : decode cX6_often 37 = .ok (.invokevirtual 208, 3) := by decide +kernel
theorem dX6_often_40 : decode cX6_often 40 = .ok (.iload_n 2, 1) := by decide +kernel
theorem dX6_often_41 : decode cX6_often 41 = .ok (.if_icmp .ne 7, 3) := by decide +kernel
theorem dX6_often_44 : decode cX6_often 44 = .ok (.iconst 1, 1) := by decide +kernel
theorem dX6_often_45 : decode cX6_often 45 = .ok (.goto 4, 3) := by decide +kernel
theorem dX6_often_48 : decode cX6_often 48 = .ok (.iconst 0, 1) := by decide +kernel
theorem dX6_often_49 : decode cX6_often 49 = .ok (.istore 7, 2) := by decide +kernel
theorem dX6_often_51 : decode cX6_often 51 = .ok (.iload 4, 2) := by decide +kernel
theorem dX6_often_53 : decode cX6_often 53 = .ok (.iload 7, 2) := by decide +kernel
theorem dX6_often_55 : decode cX6_often 55 = .ok (.ifCond .eq 12, 3) := by decide +kernel
theorem dX6_often_58 : decode cX6_often 58 = .ok (.iload 5, 2) := by decide +kernel
theorem dX6_often_60 : decode cX6_often 60 = .ok (.ifCond .ne 7, 3) := by decide +kernel
theorem dX6_often_63 : decode cX6_often 63 = .ok (.iconst 1, 1) := by decide +kernel
theorem dX6_often_64 : decode cX6_often 64 = .ok (.goto 4, 3) := by decide +kernel
theorem dX6_often_67 : decode cX6_often 67 = .ok (.iconst 0, 1) := by decide +kernel
theorem dX6_often_68 : decode cX6_often 68 = .ok (.iadd, 1) := by decide +kernel
theorem dX6_often_69 : decode cX6_often 69 = .ok (.istore 4, 2) := by decide +kernel
theorem dX6_often_71 : decode cX6_often 71 = .ok (.iload 7, 2) := by decide +kernel
theorem dX6_often_73 : decode cX6_often 73 = .ok (.istore 5, 2) := by decide +kernel
theorem dX6_often_75 : decode cX6_often 75 = .ok (.iinc 6 1, 3) := by decide +kernel
theorem dX6_often_78 : decode cX6_often 78 = .ok (.goto (-51), 3) := by decide +kernel
theorem dX6_often_81 : decode cX6_often 81 = .ok (.iload 4, 2) := by decide +kernel
theorem dX6_often_83 : decode cX6_often 83 = .ok (.ireturn, 1) := by decide +kernel
theorem dX6_duty_0 : decode cX6_duty 0 = .ok (.aload_n 0, 1) := by decide +kernel
theorem dX6_duty_1 : decode cX6_duty 1 = .ok (.iload_n 1, 1) := by decide +kernel
theorem dX6_duty_2 : decode cX6_duty 2 = .ok (.invokevirtual 157, 3) := by decide +kernel
theorem dX6_duty_5 : decode cX6_duty 5 = .ok (.ifCond .eq 23, 3) := by decide +kernel
theorem dX6_duty_8 : decode cX6_duty 8 = .ok (.iload_n 2, 1) := by decide +kernel
theorem dX6_duty_9 : decode cX6_duty 9 = .ok (.i2l, 1) := by decide +kernel
theorem dX6_duty_10 : decode cX6_duty 10 = .ok (.invokestatic 141, 3) := by decide +kernel
theorem dX6_duty_13 : decode cX6_duty 13 = .ok (.ifCond .eq 15, 3) := by decide +kernel
theorem dX6_duty_16 : decode cX6_duty 16 = .ok (.iload_n 3, 1) := by decide +kernel
theorem dX6_duty_17 : decode cX6_duty 17 = .ok (.i2l, 1) := by decide +kernel
theorem dX6_duty_18 : decode cX6_duty 18 = .ok (.lconst 0, 1) := by decide +kernel
theorem dX6_duty_19 : decode cX6_duty 19 = .ok (.ldc2_w 217, 3) := by decide +kernel
theorem dX6_duty_22 : decode cX6_duty 22 = .ok (.invokestatic 48, 3) := by decide +kernel
theorem dX6_duty_25 : decode cX6_duty 25 = .ok (.ifCond .ne 5, 3) := by decide +kernel
theorem dX6_duty_28 : decode cX6_duty 28 = .ok (.iconst (-1), 1) := by decide +kernel
theorem dX6_duty_29 : decode cX6_duty 29 = .ok (.ireturn, 1) := by decide +kernel
theorem dX6_duty_30 : decode cX6_duty 30 = .ok (.aload_n 0, 1) := by decide +kernel
theorem dX6_duty_31 : decode cX6_duty 31 = .ok (.iload_n 1, 1) := by decide +kernel
theorem dX6_duty_32 : decode cX6_duty 32 = .ok (.iload_n 2, 1) := by decide +kernel
theorem dX6_duty_33 : decode cX6_duty 33 = .ok (.invokevirtual 208, 3) := by decide +kernel
theorem dX6_duty_36 : decode cX6_duty 36 = .ok (.iload_n 3, 1) := by decide +kernel
theorem dX6_duty_37 : decode cX6_duty 37 = .ok (.iadd, 1) := by decide +kernel
theorem dX6_duty_38 : decode cX6_duty 38 = .ok (.istore 4, 2) := by decide +kernel
theorem dX6_duty_40 : decode cX6_duty 40 = .ok (.iload_n 2, 1) := by decide +kernel
theorem dX6_duty_41 : decode cX6_duty 41 = .ok (.istore 5, 2) := by decide +kernel
theorem dX6_duty_43 : decode cX6_duty 43 = .ok (.iload 5, 2) := by decide +kernel
theorem dX6_duty_45 : decode cX6_duty 45 = .ok (.sipush 19999, 3) := by decide +kernel
theorem dX6_duty_48 : decode cX6_duty 48 = .ok (.if_icmp .gt 24, 3) := by decide +kernel
theorem dX6_duty_51 : decode cX6_duty 51 = .ok (.aload_n 0, 1) := by decide +kernel
theorem dX6_duty_52 : decode cX6_duty 52 = .ok (.iload_n 1, 1) := by decide +kernel
theorem dX6_duty_53 : decode cX6_duty 53 = .ok (.iload 5, 2) := by decide +kernel
theorem dX6_duty_55 : decode cX6_duty 55 = .ok (.invokevirtual 208, 3) := by decide +kernel
theorem dX6_duty_58 : decode cX6_duty 58 = .ok (.iload 4, 2) := by decide +kernel
theorem dX6_duty_60 : decode cX6_duty 60 = .ok (.if_icmp .lt 6, 3) := by decide +kernel
theorem dX6_duty_63 : decode cX6_duty 63 = .ok (.iload 5, 2) := by decide +kernel
theorem dX6_duty_65 : decode cX6_duty 65 = .ok (.ireturn, 1) := by decide +kernel
theorem dX6_duty_66 : decode cX6_duty 66 = .ok (.iinc 5 1, 3) := by decide +kernel
theorem dX6_duty_69 : decode cX6_duty 69 = .ok (.goto (-26), 3) := by decide +kernel
theorem dX6_duty_72 : decode cX6_duty 72 = .ok (.bipush (-4), 2) := by decide +kernel
theorem dX6_duty_74 : decode cX6_duty 74 = .ok (.ireturn, 1) := by decide +kernel
theorem dX6_differ_0 : decode cX6_differ 0 = .ok (.aload_n 0, 1) := by decide +kernel
theorem dX6_differ_1 : decode cX6_differ 1 = .ok (.iload_n 1, 1) := by decide +kernel
theorem dX6_differ_2 : decode cX6_differ 2 = .ok (.invokevirtual 157, 3) := by decide +kernel
theorem dX6_differ_5 : decode cX6_differ 5 = .ok (.ifCond .eq 35, 3) := by decide +kernel
theorem dX6_differ_8 : decode cX6_differ 8 = .ok (.aload_n 0, 1) := by decide +kernel
theorem dX6_differ_9 : decode cX6_differ 9 = .ok (.iload_n 2, 1) := by decide +kernel
theorem dX6_differ_10 : decode cX6_differ 10 = .ok (.invokevirtual 157, 3) := by decide +kernel
theorem dX6_differ_13 : decode cX6_differ 13 = .ok (.ifCond .eq 27, 3) := by decide +kernel
theorem dX6_differ_16 : decode cX6_differ 16 = .ok (.iload_n 3, 1) := by decide +kernel
theorem dX6_differ_17 : decode cX6_differ 17 = .ok (.i2l, 1) := by decide +kernel
theorem dX6_differ_18 : decode cX6_differ 18 = .ok (.invokestatic 141, 3) := by decide +kernel
theorem dX6_differ_21 : decode cX6_differ 21 = .ok (.ifCond .eq 19, 3) := by decide +kernel
theorem dX6_differ_24 : decode cX6_differ 24 = .ok (.aload_n 0, 1) := by decide +kernel
theorem dX6_differ_25 : decode cX6_differ 25 = .ok (.iload_n 1, 1) := by decide +kernel
theorem dX6_differ_26 : decode cX6_differ 26 = .ok (.iload_n 3, 1) := by decide +kernel
theorem dX6_differ_27 : decode cX6_differ 27 = .ok (.invokevirtual 208, 3) := by decide +kernel
theorem dX6_differ_30 : decode cX6_differ 30 = .ok (.aload_n 0, 1) := by decide +kernel
theorem dX6_differ_31 : decode cX6_differ 31 = .ok (.iload_n 2, 1) := by decide +kernel
theorem dX6_differ_32 : decode cX6_differ 32 = .ok (.iload_n 3, 1) := by decide +kernel
theorem dX6_differ_33 : decode cX6_differ 33 = .ok (.invokevirtual 208, 3) := by decide +kernel
theorem dX6_differ_36 : decode cX6_differ 36 = .ok (.isub, 1) := by decide +kernel
theorem dX6_differ_37 : decode cX6_differ 37 = .ok (.goto 5, 3) := by decide +kernel
theorem dX6_differ_40 : decode cX6_differ 40 = .ok (.ldc 111, 2) := by decide +kernel
theorem dX6_differ_42 : decode cX6_differ 42 = .ok (.ireturn, 1) := by decide +kernel
theorem dX6_agree_0 : decode cX6_agree 0 = .ok (.aload_n 0, 1) := by decide +kernel
theorem dX6_agree_1 : decode cX6_agree 1 = .ok (.iload_n 1, 1) := by decide +kernel
theorem dX6_agree_2 : decode cX6_agree 2 = .ok (.invokevirtual 157, 3) := by decide +kernel
theorem dX6_agree_5 : decode cX6_agree 5 = .ok (.ifCond .eq 19, 3) := by decide +kernel
theorem dX6_agree_8 : decode cX6_agree 8 = .ok (.aload_n 0, 1) := by decide +kernel
theorem dX6_agree_9 : decode cX6_agree 9 = .ok (.iload_n 2, 1) := by decide +kernel
theorem dX6_agree_10 : decode cX6_agree 10 = .ok (.invokevirtual 157, 3) := by decide +kernel
theorem dX6_agree_13 : decode cX6_agree 13 = .ok (.ifCond .eq 11, 3) := by decide +kernel
theorem dX6_agree_16 : decode cX6_agree 16 = .ok (.iload_n 3, 1) := by decide +kernel
theorem dX6_agree_17 : decode cX6_agree 17 = .ok (.i2l, 1) := by decide +kernel
theorem dX6_agree_18 : decode cX6_agree 18 = .ok (.invokestatic 141, 3) := by decide +kernel
theorem dX6_agree_21 : decode cX6_agree 21 = .ok (.ifCond .ne 5, 3) := by decide +kernel
theorem dX6_agree_24 : decode cX6_agree 24 = .ok (.iconst (-1), 1) := by decide +kernel
theorem dX6_agree_25 : decode cX6_agree 25 = .ok (.ireturn, 1) := by decide +kernel
theorem dX6_agree_26 : decode cX6_agree 26 = .ok (.iload_n 3, 1) := by decide +kernel
theorem dX6_agree_27 : decode cX6_agree 27 = .ok (.istore 4, 2) := by decide +kernel
theorem dX6_agree_29 : decode cX6_agree 29 = .ok (.iload 4, 2) := by decide +kernel
theorem dX6_agree_31 : decode cX6_agree 31 = .ok (.sipush 19999, 3) := by decide +kernel
theorem dX6_agree_34 : decode cX6_agree 34 = .ok (.if_icmp .gt 29, 3) := by decide +kernel
theorem dX6_agree_37 : decode cX6_agree 37 = .ok (.aload_n 0, 1) := by decide +kernel
theorem dX6_agree_38 : decode cX6_agree 38 = .ok (.iload_n 1, 1) := by decide +kernel
theorem dX6_agree_39 : decode cX6_agree 39 = .ok (.iload 4, 2) := by decide +kernel
theorem dX6_agree_41 : decode cX6_agree 41 = .ok (.invokevirtual 208, 3) := by decide +kernel
theorem dX6_agree_44 : decode cX6_agree 44 = .ok (.aload_n 0, 1) := by decide +kernel
theorem dX6_agree_45 : decode cX6_agree 45 = .ok (.iload_n 2, 1) := by decide +kernel
theorem dX6_agree_46 : decode cX6_agree 46 = .ok (.iload 4, 2) := by decide +kernel
theorem dX6_agree_48 : decode cX6_agree 48 = .ok (.invokevirtual 208, 3) := by decide +kernel
theorem dX6_agree_51 : decode cX6_agree 51 = .ok (.if_icmp .ne 6, 3) := by decide +kernel
theorem dX6_agree_54 : decode cX6_agree 54 = .ok (.iload 4, 2) := by decide +kernel
theorem dX6_agree_56 : decode cX6_agree 56 = .ok (.ireturn, 1) := by decide +kernel
theorem dX6_agree_57 : decode cX6_agree 57 = .ok (.iinc 4 1, 3) := by decide +kernel
theorem dX6_agree_60 : decode cX6_agree 60 = .ok (.goto (-31), 3) := by decide +kernel
theorem dX6_agree_63 : decode cX6_agree 63 = .ok (.bipush (-4), 2) := by decide +kernel
theorem dX6_agree_65 : decode cX6_agree 65 = .ok (.ireturn, 1) := by decide +kernel
theorem dX6_part_0 : decode cX6_part 0 = .ok (.aload_n 0, 1) := by decide +kernel
theorem dX6_part_1 : decode cX6_part 1 = .ok (.iload_n 1, 1) := by decide +kernel
theorem dX6_part_2 : decode cX6_part 2 = .ok (.invokevirtual 157, 3) := by decide +kernel
theorem dX6_part_5 : decode cX6_part 5 = .ok (.ifCond .eq 31, 3) := by decide +kernel
theorem dX6_part_8 : decode cX6_part 8 = .ok (.iload_n 2, 1) := by decide +kernel
theorem dX6_part_9 : decode cX6_part 9 = .ok (.invokestatic 211, 3) := by decide +kernel
theorem dX6_part_12 : decode cX6_part 12 = .ok (.ifCond .eq 24, 3) := by decide +kernel
theorem dX6_part_15 : decode cX6_part 15 = .ok (.iload_n 3, 1) := by decide +kernel
theorem dX6_part_16 : decode cX6_part 16 = .ok (.invokestatic 211, 3) := by decide +kernel
theorem dX6_part_19 : decode cX6_part 19 = .ok (.ifCond .eq 17, 3) := by decide +kernel
theorem dX6_part_22 : decode cX6_part 22 = .ok (.iload_n 2, 1) := by decide +kernel
theorem dX6_part_23 : decode cX6_part 23 = .ok (.iload_n 3, 1) := by decide +kernel
theorem dX6_part_24 : decode cX6_part 24 = .ok (.if_icmp .eq 12, 3) := by decide +kernel
theorem dX6_part_27 : decode cX6_part 27 = .ok (.iload 4, 2) := by decide +kernel
theorem dX6_part_29 : decode cX6_part 29 = .ok (.i2l, 1) := by decide +kernel
theorem dX6_part_30 : decode cX6_part 30 = .ok (.invokestatic 141, 3) := by decide +kernel
theorem dX6_part_33 : decode cX6_part 33 = .ok (.ifCond .ne 5, 3) := by decide +kernel
theorem dX6_part_36 : decode cX6_part 36 = .ok (.iconst (-1), 1) := by decide +kernel
theorem dX6_part_37 : decode cX6_part 37 = .ok (.ireturn, 1) := by decide +kernel
theorem dX6_part_38 : decode cX6_part 38 = .ok (.iload 4, 2) := by decide +kernel
theorem dX6_part_40 : decode cX6_part 40 = .ok (.istore 5, 2) := by decide +kernel
theorem dX6_part_42 : decode cX6_part 42 = .ok (.iload 5, 2) := by decide +kernel
theorem dX6_part_44 : decode cX6_part 44 = .ok (.sipush 19999, 3) := by decide +kernel
theorem dX6_part_47 : decode cX6_part 47 = .ok (.if_icmp .gt 31, 3) := by decide +kernel
theorem dX6_part_50 : decode cX6_part 50 = .ok (.aload_n 0, 1) := by decide +kernel
theorem dX6_part_51 : decode cX6_part 51 = .ok (.iload_n 1, 1) := by decide +kernel
theorem dX6_part_52 : decode cX6_part 52 = .ok (.iload_n 2, 1) := by decide +kernel
theorem dX6_part_53 : decode cX6_part 53 = .ok (.iload 5, 2) := by decide +kernel
theorem dX6_part_55 : decode cX6_part 55 = .ok (.invokevirtual 205, 3) := by decide +kernel
theorem dX6_part_58 : decode cX6_part 58 = .ok (.aload_n 0, 1) := by decide +kernel
theorem dX6_part_59 : decode cX6_part 59 = .ok (.iload_n 1, 1) := by decide +kernel
theorem dX6_part_60 : decode cX6_part 60 = .ok (.iload_n 3, 1) := by decide +kernel
theorem dX6_part_61 : decode cX6_part 61 = .ok (.iload 5, 2) := by decide +kernel
theorem dX6_part_63 : decode cX6_part 63 = .ok (.invokevirtual 205, 3) := by decide +kernel
theorem dX6_part_66 : decode cX6_part 66 = .ok (.if_icmp .eq 6, 3) := by decide +kernel
theorem dX6_part_69 : decode cX6_part 69 = .ok (.iload 5, 2) := by decide +kernel
theorem dX6_part_71 : decode cX6_part 71 = .ok (.ireturn, 1) := by decide +kernel
theorem dX6_part_72 : decode cX6_part 72 = .ok (.iinc 5 1, 3) := by decide +kernel
theorem dX6_part_75 : decode cX6_part 75 = .ok (.goto (-33), 3) := by decide +kernel
theorem dX6_part_78 : decode cX6_part 78 = .ok (.bipush (-4), 2) := by decide +kernel
theorem dX6_part_80 : decode cX6_part 80 = .ok (.ireturn, 1) := by decide +kernel
theorem dX6_wrongBy_0 : decode cX6_wrongBy 0 = .ok (.aload_n 0, 1) := by decide +kernel
theorem dX6_wrongBy_1 : decode cX6_wrongBy 1 = .ok (.iconst 2, 1) := by decide +kernel
theorem dX6_wrongBy_2 : decode cX6_wrongBy 2 = .ok (.iload_n 1, 1) := by decide +kernel
theorem dX6_wrongBy_3 : decode cX6_wrongBy 3 = .ok (.invokevirtual 114, 3) := by decide +kernel
theorem dX6_wrongBy_6 : decode cX6_wrongBy 6 = .ok (.istore_n 3, 1) := by decide +kernel
theorem dX6_wrongBy_7 : decode cX6_wrongBy 7 = .ok (.iconst 0, 1) := by decide +kernel
theorem dX6_wrongBy_8 : decode cX6_wrongBy 8 = .ok (.istore 4, 2) := by decide +kernel
theorem dX6_wrongBy_10 : decode cX6_wrongBy 10 = .ok (.iconst 0, 1) := by decide +kernel
theorem dX6_wrongBy_11 : decode cX6_wrongBy 11 = .ok (.istore 5, 2) := by decide +kernel
theorem dX6_wrongBy_13 : decode cX6_wrongBy 13 = .ok (.iload 5, 2) := by decide +kernel
theorem dX6_wrongBy_15 : decode cX6_wrongBy 15 = .ok (.aload_n 0, 1) := by decide +kernel
theorem dX6_wrongBy_16 : decode cX6_wrongBy 16 = .ok (.getfield 9, 3) := by decide +kernel
theorem dX6_wrongBy_19 : decode cX6_wrongBy 19 = .ok (.iconst 0, 1) := by decide +kernel
theorem dX6_wrongBy_20 : decode cX6_wrongBy 20 = .ok (.iaload, 1) := by decide +kernel
theorem dX6_wrongBy_21 : decode cX6_wrongBy 21 = .ok (.if_icmp .ge 83, 3) := by decide +kernel
theorem dX6_wrongBy_24 : decode cX6_wrongBy 24 = .ok (.iconst 0, 1) := by decide +kernel
theorem dX6_wrongBy_25 : decode cX6_wrongBy 25 = .ok (.istore 6, 2) := by decide +kernel
theorem dX6_wrongBy_27 : decode cX6_wrongBy 27 = .ok (.iload 6, 2) := by decide +kernel
theorem dX6_wrongBy_29 : decode cX6_wrongBy 29 = .ok (.iload 5, 2) := by decide +kernel
theorem dX6_wrongBy_31 : decode cX6_wrongBy 31 = .ok (.if_icmp .ge 67, 3) := by decide +kernel
theorem dX6_wrongBy_34 : decode cX6_wrongBy 34 = .ok (.iload 4, 2) := by decide +kernel
theorem dX6_wrongBy_36 : decode cX6_wrongBy 36 = .ok (.aload_n 0, 1) := by decide +kernel
theorem dX6_wrongBy_37 : decode cX6_wrongBy 37 = .ok (.iload 5, 2) := by decide +kernel
theorem dX6_wrongBy_39 : decode cX6_wrongBy 39 = .ok (.iload_n 2, 1) := by decide +kernel
theorem dX6_wrongBy_40 : decode cX6_wrongBy 40 = .ok (.invokevirtual 145, 3) := by decide +kernel
theorem dX6_wrongBy_43 : decode cX6_wrongBy 43 = .ok (.aload_n 0, 1) := by decide +kernel
theorem dX6_wrongBy_44 : decode cX6_wrongBy 44 = .ok (.iload 6, 2) := by decide +kernel
theorem dX6_wrongBy_46 : decode cX6_wrongBy 46 = .ok (.iload_n 2, 1) := by decide +kernel
theorem dX6_wrongBy_47 : decode cX6_wrongBy 47 = .ok (.invokevirtual 145, 3) := by decide +kernel
theorem dX6_wrongBy_50 : decode cX6_wrongBy 50 = .ok (.if_icmp .ne 7, 3) := by decide +kernel
theorem dX6_wrongBy_53 : decode cX6_wrongBy 53 = .ok (.iconst 0, 1) := by decide +kernel
theorem dX6_wrongBy_54 : decode cX6_wrongBy 54 = .ok (.goto 35, 3) := by decide +kernel
theorem dX6_wrongBy_57 : decode cX6_wrongBy 57 = .ok (.aload_n 0, 1) := by decide +kernel
theorem dX6_wrongBy_58 : decode cX6_wrongBy 58 = .ok (.getfield 9, 3) := by decide +kernel
theorem dX6_wrongBy_61 : decode cX6_wrongBy 61 = .ok (.bipush 43, 2) := by decide +kernel
theorem dX6_wrongBy_63 : decode cX6_wrongBy 63 = .ok (.bipush 10, 2) := by decide +kernel
theorem dX6_wrongBy_65 : decode cX6_wrongBy 65 = .ok (.iload 5, 2) := by decide +kernel
theorem dX6_wrongBy_67 : decode cX6_wrongBy 67 = .ok (.imul, 1) := by decide +kernel
theorem dX6_wrongBy_68 : decode cX6_wrongBy 68 = .ok (.iadd, 1) := by decide +kernel
theorem dX6_wrongBy_69 : decode cX6_wrongBy 69 = .ok (.iload 6, 2) := by decide +kernel
theorem dX6_wrongBy_71 : decode cX6_wrongBy 71 = .ok (.iadd, 1) := by decide +kernel
theorem dX6_wrongBy_72 : decode cX6_wrongBy 72 = .ok (.iaload, 1) := by decide +kernel
theorem dX6_wrongBy_73 : decode cX6_wrongBy 73 = .ok (.aload_n 0, 1) := by decide +kernel
theorem dX6_wrongBy_74 : decode cX6_wrongBy 74 = .ok (.iload 5, 2) := by decide +kernel
theorem dX6_wrongBy_76 : decode cX6_wrongBy 76 = .ok (.iconst 3, 1) := by decide +kernel
theorem dX6_wrongBy_77 : decode cX6_wrongBy 77 = .ok (.invokevirtual 108, 3) := by decide +kernel
theorem dX6_wrongBy_80 : decode cX6_wrongBy 80 = .ok (.aload_n 0, 1) := by decide +kernel
theorem dX6_wrongBy_81 : decode cX6_wrongBy 81 = .ok (.iload 6, 2) := by decide +kernel
theorem dX6_wrongBy_83 : decode cX6_wrongBy 83 = .ok (.iconst 3, 1) := by decide +kernel
theorem dX6_wrongBy_84 : decode cX6_wrongBy 84 = .ok (.invokevirtual 108, 3) := by decide +kernel
theorem dX6_wrongBy_87 : decode cX6_wrongBy 87 = .ok (.iadd, 1) := by decide +kernel
theorem dX6_wrongBy_88 : decode cX6_wrongBy 88 = .ok (.imul, 1) := by decide +kernel
theorem dX6_wrongBy_89 : decode cX6_wrongBy 89 = .ok (.iadd, 1) := by decide +kernel
theorem dX6_wrongBy_90 : decode cX6_wrongBy 90 = .ok (.istore 4, 2) := by decide +kernel
theorem dX6_wrongBy_92 : decode cX6_wrongBy 92 = .ok (.iinc 6 1, 3) := by decide +kernel
theorem dX6_wrongBy_95 : decode cX6_wrongBy 95 = .ok (.goto (-68), 3) := by decide +kernel
theorem dX6_wrongBy_98 : decode cX6_wrongBy 98 = .ok (.iinc 5 1, 3) := by decide +kernel
theorem dX6_wrongBy_101 : decode cX6_wrongBy 101 = .ok (.goto (-88), 3) := by decide +kernel
theorem dX6_wrongBy_104 : decode cX6_wrongBy 104 = .ok (.aload_n 0, 1) := by decide +kernel
theorem dX6_wrongBy_105 : decode cX6_wrongBy 105 = .ok (.getfield 9, 3) := by decide +kernel
theorem dX6_wrongBy_108 : decode cX6_wrongBy 108 = .ok (.iconst 2, 1) := by decide +kernel
theorem dX6_wrongBy_109 : decode cX6_wrongBy 109 = .ok (.iload_n 3, 1) := by decide +kernel
theorem dX6_wrongBy_110 : decode cX6_wrongBy 110 = .ok (.iastore, 1) := by decide +kernel
theorem dX6_wrongBy_111 : decode cX6_wrongBy 111 = .ok (.iload 4, 2) := by decide +kernel
theorem dX6_wrongBy_113 : decode cX6_wrongBy 113 = .ok (.ireturn, 1) := by decide +kernel
theorem dX6_wrong_0 : decode cX6_wrong 0 = .ok (.iload_n 1, 1) := by decide +kernel
theorem dX6_wrong_1 : decode cX6_wrong 1 = .ok (.i2l, 1) := by decide +kernel
theorem dX6_wrong_2 : decode cX6_wrong 2 = .ok (.lconst 0, 1) := by decide +kernel
theorem dX6_wrong_3 : decode cX6_wrong 3 = .ok (.ldc2_w 117, 3) := by decide +kernel
theorem dX6_wrong_6 : decode cX6_wrong 6 = .ok (.invokestatic 48, 3) := by decide +kernel
theorem dX6_wrong_9 : decode cX6_wrong 9 = .ok (.ifCond .eq 20, 3) := by decide +kernel
theorem dX6_wrong_12 : decode cX6_wrong 12 = .ok (.iload_n 2, 1) := by decide +kernel
theorem dX6_wrong_13 : decode cX6_wrong 13 = .ok (.i2l, 1) := by decide +kernel
theorem dX6_wrong_14 : decode cX6_wrong 14 = .ok (.invokestatic 141, 3) := by decide +kernel
theorem dX6_wrong_17 : decode cX6_wrong 17 = .ok (.ifCond .eq 12, 3) := by decide +kernel
theorem dX6_wrong_20 : decode cX6_wrong 20 = .ok (.aload_n 0, 1) := by decide +kernel
theorem dX6_wrong_21 : decode cX6_wrong 21 = .ok (.iload_n 1, 1) := by decide +kernel
theorem dX6_wrong_22 : decode cX6_wrong 22 = .ok (.iload_n 2, 1) := by decide +kernel
theorem dX6_wrong_23 : decode cX6_wrong 23 = .ok (.invokevirtual 219, 3) := by decide +kernel
theorem dX6_wrong_26 : decode cX6_wrong 26 = .ok (.goto 4, 3) := by decide +kernel
theorem dX6_wrong_29 : decode cX6_wrong 29 = .ok (.iconst (-1), 1) := by decide +kernel
theorem dX6_wrong_30 : decode cX6_wrong 30 = .ok (.ireturn, 1) := by decide +kernel
theorem dX6_bestLine_0 : decode cX6_bestLine 0 = .ok (.iload_n 1, 1) := by decide +kernel
theorem dX6_bestLine_1 : decode cX6_bestLine 1 = .ok (.i2l, 1) := by decide +kernel
theorem dX6_bestLine_2 : decode cX6_bestLine 2 = .ok (.invokestatic 141, 3) := by decide +kernel
theorem dX6_bestLine_5 : decode cX6_bestLine 5 = .ok (.ifCond .eq 13, 3) := by decide +kernel
theorem dX6_bestLine_8 : decode cX6_bestLine 8 = .ok (.iload_n 2, 1) := by decide +kernel
theorem dX6_bestLine_9 : decode cX6_bestLine 9 = .ok (.i2l, 1) := by decide +kernel
theorem dX6_bestLine_10 : decode cX6_bestLine 10 = .ok (.lconst 0, 1) := by decide +kernel
theorem dX6_bestLine_11 : decode cX6_bestLine 11 = .ok (.lconst 1, 1) := by decide +kernel
theorem dX6_bestLine_12 : decode cX6_bestLine 12 = .ok (.invokestatic 48, 3) := by decide +kernel
theorem dX6_bestLine_15 : decode cX6_bestLine 15 = .ok (.ifCond .ne 5, 3) := by decide +kernel
theorem dX6_bestLine_18 : decode cX6_bestLine 18 = .ok (.iconst (-1), 1) := by decide +kernel
theorem dX6_bestLine_19 : decode cX6_bestLine 19 = .ok (.ireturn, 1) := by decide +kernel
theorem dX6_bestLine_20 : decode cX6_bestLine 20 = .ok (.iconst 0, 1) := by decide +kernel
theorem dX6_bestLine_21 : decode cX6_bestLine 21 = .ok (.istore_n 3, 1) := by decide +kernel
theorem dX6_bestLine_22 : decode cX6_bestLine 22 = .ok (.bipush 15, 2) := by decide +kernel
theorem dX6_bestLine_24 : decode cX6_bestLine 24 = .ok (.istore 4, 2) := by decide +kernel
theorem dX6_bestLine_26 : decode cX6_bestLine 26 = .ok (.iload 4, 2) := by decide +kernel
theorem dX6_bestLine_28 : decode cX6_bestLine 28 = .ok (.sipush 360, 3) := by decide +kernel
theorem dX6_bestLine_31 : decode cX6_bestLine 31 = .ok (.if_icmp .ge 32, 3) := by decide +kernel
theorem dX6_bestLine_34 : decode cX6_bestLine 34 = .ok (.aload_n 0, 1) := by decide +kernel
theorem dX6_bestLine_35 : decode cX6_bestLine 35 = .ok (.iload 4, 2) := by decide +kernel
theorem dX6_bestLine_37 : decode cX6_bestLine 37 = .ok (.iload_n 1, 1) := by decide +kernel
theorem dX6_bestLine_38 : decode cX6_bestLine 38 = .ok (.invokevirtual 219, 3) := by decide +kernel
theorem dX6_bestLine_41 : decode cX6_bestLine 41 = .ok (.aload_n 0, 1) := by decide +kernel
theorem dX6_bestLine_42 : decode cX6_bestLine 42 = .ok (.iload_n 3, 1) := by decide +kernel
theorem dX6_bestLine_43 : decode cX6_bestLine 43 = .ok (.iload_n 1, 1) := by decide +kernel
theorem dX6_bestLine_44 : decode cX6_bestLine 44 = .ok (.invokevirtual 219, 3) := by decide +kernel
theorem dX6_bestLine_47 : decode cX6_bestLine 47 = .ok (.if_icmp .ge 8, 3) := by decide +kernel
theorem dX6_bestLine_50 : decode cX6_bestLine 50 = .ok (.iload 4, 2) := by decide +kernel
theorem dX6_bestLine_52 : decode cX6_bestLine 52 = .ok (.goto 4, 3) := by decide +kernel
theorem dX6_bestLine_55 : decode cX6_bestLine 55 = .ok (.iload_n 3, 1) := by decide +kernel
theorem dX6_bestLine_56 : decode cX6_bestLine 56 = .ok (.istore_n 3, 1) := by decide +kernel
theorem dX6_bestLine_57 : decode cX6_bestLine 57 = .ok (.iinc 4 15, 3) := by decide +kernel
theorem dX6_bestLine_60 : decode cX6_bestLine 60 = .ok (.goto (-34), 3) := by decide +kernel
theorem dX6_bestLine_63 : decode cX6_bestLine 63 = .ok (.iload_n 2, 1) := by decide +kernel
theorem dX6_bestLine_64 : decode cX6_bestLine 64 = .ok (.ifCond .ne 7, 3) := by decide +kernel
theorem dX6_bestLine_67 : decode cX6_bestLine 67 = .ok (.iload_n 3, 1) := by decide +kernel
theorem dX6_bestLine_68 : decode cX6_bestLine 68 = .ok (.goto 9, 3) := by decide +kernel
theorem dX6_bestLine_71 : decode cX6_bestLine 71 = .ok (.aload_n 0, 1) := by decide +kernel
theorem dX6_bestLine_72 : decode cX6_bestLine 72 = .ok (.iload_n 3, 1) := by decide +kernel
theorem dX6_bestLine_73 : decode cX6_bestLine 73 = .ok (.iload_n 1, 1) := by decide +kernel
theorem dX6_bestLine_74 : decode cX6_bestLine 74 = .ok (.invokevirtual 219, 3) := by decide +kernel
theorem dX6_bestLine_77 : decode cX6_bestLine 77 = .ok (.ireturn, 1) := by decide +kernel
theorem dX6_moved_0 : decode cX6_moved 0 = .ok (.iload_n 1, 1) := by decide +kernel
theorem dX6_moved_1 : decode cX6_moved 1 = .ok (.i2l, 1) := by decide +kernel
theorem dX6_moved_2 : decode cX6_moved 2 = .ok (.lconst 0, 1) := by decide +kernel
theorem dX6_moved_3 : decode cX6_moved 3 = .ok (.ldc2_w 117, 3) := by decide +kernel
theorem dX6_moved_6 : decode cX6_moved 6 = .ok (.invokestatic 48, 3) := by decide +kernel
theorem dX6_moved_9 : decode cX6_moved 9 = .ok (.ifCond .eq 11, 3) := by decide +kernel
theorem dX6_moved_12 : decode cX6_moved 12 = .ok (.iload_n 2, 1) := by decide +kernel
theorem dX6_moved_13 : decode cX6_moved 13 = .ok (.i2l, 1) := by decide +kernel
theorem dX6_moved_14 : decode cX6_moved 14 = .ok (.invokestatic 141, 3) := by decide +kernel
theorem dX6_moved_17 : decode cX6_moved 17 = .ok (.ifCond .ne 5, 3) := by decide +kernel
theorem dX6_moved_20 : decode cX6_moved 20 = .ok (.iconst (-1), 1) := by decide +kernel
theorem dX6_moved_21 : decode cX6_moved 21 = .ok (.ireturn, 1) := by decide +kernel
theorem dX6_moved_22 : decode cX6_moved 22 = .ok (.iconst 0, 1) := by decide +kernel
theorem dX6_moved_23 : decode cX6_moved 23 = .ok (.istore_n 3, 1) := by decide +kernel
theorem dX6_moved_24 : decode cX6_moved 24 = .ok (.iconst 0, 1) := by decide +kernel
theorem dX6_moved_25 : decode cX6_moved 25 = .ok (.istore 4, 2) := by decide +kernel
theorem dX6_moved_27 : decode cX6_moved 27 = .ok (.iload 4, 2) := by decide +kernel
theorem dX6_moved_29 : decode cX6_moved 29 = .ok (.aload_n 0, 1) := by decide +kernel
theorem dX6_moved_30 : decode cX6_moved 30 = .ok (.getfield 9, 3) := by decide +kernel
theorem dX6_moved_33 : decode cX6_moved 33 = .ok (.iconst 0, 1) := by decide +kernel
theorem dX6_moved_34 : decode cX6_moved 34 = .ok (.iaload, 1) := by decide +kernel
theorem dX6_moved_35 : decode cX6_moved 35 = .ok (.if_icmp .ge 57, 3) := by decide +kernel
theorem dX6_moved_38 : decode cX6_moved 38 = .ok (.aload_n 0, 1) := by decide +kernel
theorem dX6_moved_39 : decode cX6_moved 39 = .ok (.iload 4, 2) := by decide +kernel
theorem dX6_moved_41 : decode cX6_moved 41 = .ok (.iload_n 2, 1) := by decide +kernel
theorem dX6_moved_42 : decode cX6_moved 42 = .ok (.invokevirtual 145, 3) := by decide +kernel
theorem dX6_moved_45 : decode cX6_moved 45 = .ok (.istore 5, 2) := by decide +kernel
theorem dX6_moved_47 : decode cX6_moved 47 = .ok (.aload_n 0, 1) := by decide +kernel
theorem dX6_moved_48 : decode cX6_moved 48 = .ok (.iconst 2, 1) := by decide +kernel
theorem dX6_moved_49 : decode cX6_moved 49 = .ok (.iload_n 1, 1) := by decide +kernel
theorem dX6_moved_50 : decode cX6_moved 50 = .ok (.invokevirtual 114, 3) := by decide +kernel
theorem dX6_moved_53 : decode cX6_moved 53 = .ok (.istore 6, 2) := by decide +kernel
theorem dX6_moved_55 : decode cX6_moved 55 = .ok (.iload_n 3, 1) := by decide +kernel
theorem dX6_moved_56 : decode cX6_moved 56 = .ok (.aload_n 0, 1) := by decide +kernel
theorem dX6_moved_57 : decode cX6_moved 57 = .ok (.iload 4, 2) := by decide +kernel
theorem dX6_moved_59 : decode cX6_moved 59 = .ok (.iload_n 2, 1) := by decide +kernel
theorem dX6_moved_60 : decode cX6_moved 60 = .ok (.invokevirtual 145, 3) := by decide +kernel
theorem dX6_moved_63 : decode cX6_moved 63 = .ok (.iload 5, 2) := by decide +kernel
theorem dX6_moved_65 : decode cX6_moved 65 = .ok (.if_icmp .eq 10, 3) := by decide +kernel
theorem dX6_moved_68 : decode cX6_moved 68 = .ok (.iconst 1, 1) := by decide +kernel
theorem dX6_moved_69 : decode cX6_moved 69 = .ok (.iload 4, 2) := by decide +kernel
theorem dX6_moved_71 : decode cX6_moved 71 = .ok (.ishl, 1) := by decide +kernel
theorem dX6_moved_72 : decode cX6_moved 72 = .ok (.goto 4, 3) := by decide +kernel
theorem dX6_moved_75 : decode cX6_moved 75 = .ok (.iconst 0, 1) := by decide +kernel
theorem dX6_moved_76 : decode cX6_moved 76 = .ok (.ior, 1) := by decide +kernel
theorem dX6_moved_77 : decode cX6_moved 77 = .ok (.istore_n 3, 1) := by decide +kernel
theorem dX6_moved_78 : decode cX6_moved 78 = .ok (.aload_n 0, 1) := by decide +kernel
theorem dX6_moved_79 : decode cX6_moved 79 = .ok (.getfield 9, 3) := by decide +kernel
theorem dX6_moved_82 : decode cX6_moved 82 = .ok (.iconst 2, 1) := by decide +kernel
theorem dX6_moved_83 : decode cX6_moved 83 = .ok (.iload 6, 2) := by decide +kernel
theorem dX6_moved_85 : decode cX6_moved 85 = .ok (.iastore, 1) := by decide +kernel
theorem dX6_moved_86 : decode cX6_moved 86 = .ok (.iinc 4 1, 3) := by decide +kernel
theorem dX6_moved_89 : decode cX6_moved 89 = .ok (.goto (-62), 3) := by decide +kernel
theorem dX6_moved_92 : decode cX6_moved 92 = .ok (.iload_n 3, 1) := by decide +kernel
theorem dX6_moved_93 : decode cX6_moved 93 = .ok (.ireturn, 1) := by decide +kernel
theorem dX6_leastOf_0 : decode cX6_leastOf 0 = .ok (.aload_n 0, 1) := by decide +kernel
theorem dX6_leastOf_1 : decode cX6_leastOf 1 = .ok (.getfield 19, 3) := by decide +kernel
theorem dX6_leastOf_4 : decode cX6_leastOf 4 = .ok (.iload_n 1, 1) := by decide +kernel
theorem dX6_leastOf_5 : decode cX6_leastOf 5 = .ok (.iaload, 1) := by decide +kernel
theorem dX6_leastOf_6 : decode cX6_leastOf 6 = .ok (.ifCond .ne 8, 3) := by decide +kernel
theorem dX6_leastOf_9 : decode cX6_leastOf 9 = .ok (.bipush (-128), 2) := by decide +kernel
theorem dX6_leastOf_11 : decode cX6_leastOf 11 = .ok (.goto 21, 3) := by decide +kernel
theorem dX6_leastOf_14 : decode cX6_leastOf 14 = .ok (.aload_n 0, 1) := by decide +kernel
theorem dX6_leastOf_15 : decode cX6_leastOf 15 = .ok (.getfield 19, 3) := by decide +kernel
theorem dX6_leastOf_18 : decode cX6_leastOf 18 = .ok (.iload_n 1, 1) := by decide +kernel
theorem dX6_leastOf_19 : decode cX6_leastOf 19 = .ok (.iaload, 1) := by decide +kernel
theorem dX6_leastOf_20 : decode cX6_leastOf 20 = .ok (.iconst 1, 1) := by decide +kernel
theorem dX6_leastOf_21 : decode cX6_leastOf 21 = .ok (.if_icmp .ne 9, 3) := by decide +kernel
theorem dX6_leastOf_24 : decode cX6_leastOf 24 = .ok (.sipush (-32768), 3) := by decide +kernel
theorem dX6_leastOf_27 : decode cX6_leastOf 27 = .ok (.goto 5, 3) := by decide +kernel
theorem dX6_leastOf_30 : decode cX6_leastOf 30 = .ok (.ldc 222, 2) := by decide +kernel
theorem dX6_leastOf_32 : decode cX6_leastOf 32 = .ok (.ireturn, 1) := by decide +kernel
theorem dX6_judge_0 : decode cX6_judge 0 = .ok (.aload_n 0, 1) := by decide +kernel
theorem dX6_judge_1 : decode cX6_judge 1 = .ok (.iload_n 1, 1) := by decide +kernel
theorem dX6_judge_2 : decode cX6_judge 2 = .ok (.invokevirtual 157, 3) := by decide +kernel
theorem dX6_judge_5 : decode cX6_judge 5 = .ok (.ifCond .eq 31, 3) := by decide +kernel
theorem dX6_judge_8 : decode cX6_judge 8 = .ok (.iload_n 2, 1) := by decide +kernel
theorem dX6_judge_9 : decode cX6_judge 9 = .ok (.invokestatic 90, 3) := by decide +kernel
theorem dX6_judge_12 : decode cX6_judge 12 = .ok (.ifCond .eq 24, 3) := by decide +kernel
theorem dX6_judge_15 : decode cX6_judge 15 = .ok (.iload_n 3, 1) := by decide +kernel
theorem dX6_judge_16 : decode cX6_judge 16 = .ok (.i2l, 1) := by decide +kernel
theorem dX6_judge_17 : decode cX6_judge 17 = .ok (.invokestatic 141, 3) := by decide +kernel
theorem dX6_judge_20 : decode cX6_judge 20 = .ok (.ifCond .eq 16, 3) := by decide +kernel
theorem dX6_judge_23 : decode cX6_judge 23 = .ok (.iload 4, 2) := by decide +kernel
theorem dX6_judge_25 : decode cX6_judge 25 = .ok (.i2l, 1) := by decide +kernel
theorem dX6_judge_26 : decode cX6_judge 26 = .ok (.lconst 1, 1) := by decide +kernel
theorem dX6_judge_27 : decode cX6_judge 27 = .ok (.ldc2_w 223, 3) := by decide +kernel
theorem dX6_judge_30 : decode cX6_judge 30 = .ok (.invokestatic 48, 3) := by decide +kernel
theorem dX6_judge_33 : decode cX6_judge 33 = .ok (.ifCond .ne 5, 3) := by decide +kernel
theorem dX6_judge_36 : decode cX6_judge 36 = .ok (.iconst (-1), 1) := by decide +kernel
theorem dX6_judge_37 : decode cX6_judge 37 = .ok (.ireturn, 1) := by decide +kernel
theorem dX6_judge_38 : decode cX6_judge 38 = .ok (.aload_n 0, 1) := by decide +kernel
theorem dX6_judge_39 : decode cX6_judge 39 = .ok (.iload_n 2, 1) := by decide +kernel
theorem dX6_judge_40 : decode cX6_judge 40 = .ok (.iconst (-1), 1) := by decide +kernel
theorem dX6_judge_41 : decode cX6_judge 41 = .ok (.invokevirtual 93, 3) := by decide +kernel
theorem dX6_judge_44 : decode cX6_judge 44 = .ok (.istore 5, 2) := by decide +kernel
theorem dX6_judge_46 : decode cX6_judge 46 = .ok (.iload 5, 2) := by decide +kernel
theorem dX6_judge_48 : decode cX6_judge 48 = .ok (.ifCond .eq 6, 3) := by decide +kernel
theorem dX6_judge_51 : decode cX6_judge 51 = .ok (.iload 5, 2) := by decide +kernel
theorem dX6_judge_53 : decode cX6_judge 53 = .ok (.ireturn, 1) := by decide +kernel
theorem dX6_judge_54 : decode cX6_judge 54 = .ok (.aload_n 0, 1) := by decide +kernel
theorem dX6_judge_55 : decode cX6_judge 55 = .ok (.getfield 22, 3) := by decide +kernel
theorem dX6_judge_58 : decode cX6_judge 58 = .ok (.iload_n 2, 1) := by decide +kernel
theorem dX6_judge_59 : decode cX6_judge 59 = .ok (.iaload, 1) := by decide +kernel
theorem dX6_judge_60 : decode cX6_judge 60 = .ok (.ifCond .le 27, 3) := by decide +kernel
theorem dX6_judge_63 : decode cX6_judge 63 = .ok (.iload_n 3, 1) := by decide +kernel
theorem dX6_judge_64 : decode cX6_judge 64 = .ok (.i2l, 1) := by decide +kernel
theorem dX6_judge_65 : decode cX6_judge 65 = .ok (.aload_n 0, 1) := by decide +kernel
theorem dX6_judge_66 : decode cX6_judge 66 = .ok (.getfield 22, 3) := by decide +kernel
theorem dX6_judge_69 : decode cX6_judge 69 = .ok (.iload_n 2, 1) := by decide +kernel
theorem dX6_judge_70 : decode cX6_judge 70 = .ok (.iaload, 1) := by decide +kernel
theorem dX6_judge_71 : decode cX6_judge 71 = .ok (.i2l, 1) := by decide +kernel
theorem dX6_judge_72 : decode cX6_judge 72 = .ok (.lconst 1, 1) := by decide +kernel
theorem dX6_judge_73 : decode cX6_judge 73 = .ok (.lsub, 1) := by decide +kernel
theorem dX6_judge_74 : decode cX6_judge 74 = .ok (.iload 4, 2) := by decide +kernel
theorem dX6_judge_76 : decode cX6_judge 76 = .ok (.i2l, 1) := by decide +kernel
theorem dX6_judge_77 : decode cX6_judge 77 = .ok (.lmul, 1) := by decide +kernel
theorem dX6_judge_78 : decode cX6_judge 78 = .ok (.ladd, 1) := by decide +kernel
theorem dX6_judge_79 : decode cX6_judge 79 = .ok (.invokestatic 141, 3) := by decide +kernel
theorem dX6_judge_82 : decode cX6_judge 82 = .ok (.ifCond .ne 5, 3) := by decide +kernel
theorem dX6_judge_85 : decode cX6_judge 85 = .ok (.iconst (-1), 1) := by decide +kernel
theorem dX6_judge_86 : decode cX6_judge 86 = .ok (.ireturn, 1) := by decide +kernel
theorem dX6_judge_87 : decode cX6_judge 87 = .ok (.iconst 0, 1) := by decide +kernel
theorem dX6_judge_88 : decode cX6_judge 88 = .ok (.istore 6, 2) := by decide +kernel
theorem dX6_judge_90 : decode cX6_judge 90 = .ok (.iload 6, 2) := by decide +kernel
theorem dX6_judge_92 : decode cX6_judge 92 = .ok (.aload_n 0, 1) := by decide +kernel
theorem dX6_judge_93 : decode cX6_judge 93 = .ok (.getfield 22, 3) := by decide +kernel
theorem dX6_judge_96 : decode cX6_judge 96 = .ok (.iload_n 2, 1) := by decide +kernel
theorem dX6_judge_97 : decode cX6_judge 97 = .ok (.iaload, 1) := by decide +kernel
theorem dX6_judge_98 : decode cX6_judge 98 = .ok (.if_icmp .ge 53, 3) := by decide +kernel
theorem dX6_judge_101 : decode cX6_judge 101 = .ok (.aload_n 0, 1) := by decide +kernel
theorem dX6_judge_102 : decode cX6_judge 102 = .ok (.getfield 25, 3) := by decide +kernel
theorem dX6_judge_105 : decode cX6_judge 105 = .ok (.bipush 100, 2) := by decide +kernel
theorem dX6_judge_107 : decode cX6_judge 107 = .ok (.iload_n 2, 1) := by decide +kernel
theorem dX6_judge_108 : decode cX6_judge 108 = .ok (.imul, 1) := by decide +kernel
theorem dX6_judge_109 : decode cX6_judge 109 = .ok (.iload 6, 2) := by decide +kernel
theorem dX6_judge_111 : decode cX6_judge 111 = .ok (.iadd, 1) := by decide +kernel
theorem dX6_judge_112 : decode cX6_judge 112 = .ok (.iaload, 1) := by decide +kernel
theorem dX6_judge_113 : decode cX6_judge 113 = .ok (.istore 7, 2) := by decide +kernel
theorem dX6_judge_115 : decode cX6_judge 115 = .ok (.iload 7, 2) := by decide +kernel
theorem dX6_judge_117 : decode cX6_judge 117 = .ok (.aload_n 0, 1) := by decide +kernel
theorem dX6_judge_118 : decode cX6_judge 118 = .ok (.iload_n 2, 1) := by decide +kernel
theorem dX6_judge_119 : decode cX6_judge 119 = .ok (.invokevirtual 225, 3) := by decide +kernel
theorem dX6_judge_122 : decode cX6_judge 122 = .ok (.if_icmp .eq 23, 3) := by decide +kernel
theorem dX6_judge_125 : decode cX6_judge 125 = .ok (.iload 7, 2) := by decide +kernel
theorem dX6_judge_127 : decode cX6_judge 127 = .ok (.aload_n 0, 1) := by decide +kernel
theorem dX6_judge_128 : decode cX6_judge 128 = .ok (.iload_n 1, 1) := by decide +kernel
theorem dX6_judge_129 : decode cX6_judge 129 = .ok (.iload_n 3, 1) := by decide +kernel
theorem dX6_judge_130 : decode cX6_judge 130 = .ok (.iload 6, 2) := by decide +kernel
theorem dX6_judge_132 : decode cX6_judge 132 = .ok (.iload 4, 2) := by decide +kernel
theorem dX6_judge_134 : decode cX6_judge 134 = .ok (.imul, 1) := by decide +kernel
theorem dX6_judge_135 : decode cX6_judge 135 = .ok (.iadd, 1) := by decide +kernel
theorem dX6_judge_136 : decode cX6_judge 136 = .ok (.invokevirtual 208, 3) := by decide +kernel
theorem dX6_judge_139 : decode cX6_judge 139 = .ok (.if_icmp .eq 6, 3) := by decide +kernel
theorem dX6_judge_142 : decode cX6_judge 142 = .ok (.iload 6, 2) := by decide +kernel
theorem dX6_judge_144 : decode cX6_judge 144 = .ok (.ireturn, 1) := by decide +kernel
theorem dX6_judge_145 : decode cX6_judge 145 = .ok (.iinc 6 1, 3) := by decide +kernel
theorem dX6_judge_148 : decode cX6_judge 148 = .ok (.goto (-58), 3) := by decide +kernel
theorem dX6_judge_151 : decode cX6_judge 151 = .ok (.bipush (-4), 2) := by decide +kernel
theorem dX6_judge_153 : decode cX6_judge 153 = .ok (.ireturn, 1) := by decide +kernel
theorem dX6_wrongKept_0 : decode cX6_wrongKept 0 = .ok (.aload_n 0, 1) := by decide +kernel
theorem dX6_wrongKept_1 : decode cX6_wrongKept 1 = .ok (.iload_n 1, 1) := by decide +kernel
theorem dX6_wrongKept_2 : decode cX6_wrongKept 2 = .ok (.invokevirtual 157, 3) := by decide +kernel
theorem dX6_wrongKept_5 : decode cX6_wrongKept 5 = .ok (.ifCond .eq 22, 3) := by decide +kernel
theorem dX6_wrongKept_8 : decode cX6_wrongKept 8 = .ok (.iload_n 2, 1) := by decide +kernel
theorem dX6_wrongKept_9 : decode cX6_wrongKept 9 = .ok (.invokestatic 90, 3) := by decide +kernel
theorem dX6_wrongKept_12 : decode cX6_wrongKept 12 = .ok (.ifCond .eq 15, 3) := by decide +kernel
theorem dX6_wrongKept_15 : decode cX6_wrongKept 15 = .ok (.iload_n 3, 1) := by decide +kernel
theorem dX6_wrongKept_16 : decode cX6_wrongKept 16 = .ok (.i2l, 1) := by decide +kernel
theorem dX6_wrongKept_17 : decode cX6_wrongKept 17 = .ok (.lconst 0, 1) := by decide +kernel
theorem dX6_wrongKept_18 : decode cX6_wrongKept 18 = .ok (.ldc2_w 228, 3) := by decide +kernel
theorem dX6_wrongKept_21 : decode cX6_wrongKept 21 = .ok (.invokestatic 48, 3) := by decide +kernel
theorem dX6_wrongKept_24 : decode cX6_wrongKept 24 = .ok (.ifCond .ne 5, 3) := by decide +kernel
theorem dX6_wrongKept_27 : decode cX6_wrongKept 27 = .ok (.iconst (-1), 1) := by decide +kernel
theorem dX6_wrongKept_28 : decode cX6_wrongKept 28 = .ok (.ireturn, 1) := by decide +kernel
theorem dX6_wrongKept_29 : decode cX6_wrongKept 29 = .ok (.aload_n 0, 1) := by decide +kernel
theorem dX6_wrongKept_30 : decode cX6_wrongKept 30 = .ok (.iload_n 2, 1) := by decide +kernel
theorem dX6_wrongKept_31 : decode cX6_wrongKept 31 = .ok (.iconst 2, 1) := by decide +kernel
theorem dX6_wrongKept_32 : decode cX6_wrongKept 32 = .ok (.invokevirtual 93, 3) := by decide +kernel
theorem dX6_wrongKept_35 : decode cX6_wrongKept 35 = .ok (.istore 4, 2) := by decide +kernel
theorem dX6_wrongKept_37 : decode cX6_wrongKept 37 = .ok (.iload 4, 2) := by decide +kernel
theorem dX6_wrongKept_39 : decode cX6_wrongKept 39 = .ok (.ifCond .eq 6, 3) := by decide +kernel
theorem dX6_wrongKept_42 : decode cX6_wrongKept 42 = .ok (.iload 4, 2) := by decide +kernel
theorem dX6_wrongKept_44 : decode cX6_wrongKept 44 = .ok (.ireturn, 1) := by decide +kernel
theorem dX6_wrongKept_45 : decode cX6_wrongKept 45 = .ok (.iconst 0, 1) := by decide +kernel
theorem dX6_wrongKept_46 : decode cX6_wrongKept 46 = .ok (.istore 5, 2) := by decide +kernel
theorem dX6_wrongKept_48 : decode cX6_wrongKept 48 = .ok (.iload 5, 2) := by decide +kernel
theorem dX6_wrongKept_50 : decode cX6_wrongKept 50 = .ok (.aload_n 0, 1) := by decide +kernel
theorem dX6_wrongKept_51 : decode cX6_wrongKept 51 = .ok (.getfield 22, 3) := by decide +kernel
theorem dX6_wrongKept_54 : decode cX6_wrongKept 54 = .ok (.iload_n 2, 1) := by decide +kernel
theorem dX6_wrongKept_55 : decode cX6_wrongKept 55 = .ok (.iaload, 1) := by decide +kernel
theorem dX6_wrongKept_56 : decode cX6_wrongKept 56 = .ok (.if_icmp .ge 31, 3) := by decide +kernel
theorem dX6_wrongKept_59 : decode cX6_wrongKept 59 = .ok (.aload_n 0, 1) := by decide +kernel
theorem dX6_wrongKept_60 : decode cX6_wrongKept 60 = .ok (.getfield 25, 3) := by decide +kernel
theorem dX6_wrongKept_63 : decode cX6_wrongKept 63 = .ok (.bipush 100, 2) := by decide +kernel
theorem dX6_wrongKept_65 : decode cX6_wrongKept 65 = .ok (.iload_n 2, 1) := by decide +kernel
theorem dX6_wrongKept_66 : decode cX6_wrongKept 66 = .ok (.imul, 1) := by decide +kernel
theorem dX6_wrongKept_67 : decode cX6_wrongKept 67 = .ok (.iload 5, 2) := by decide +kernel
theorem dX6_wrongKept_69 : decode cX6_wrongKept 69 = .ok (.iadd, 1) := by decide +kernel
theorem dX6_wrongKept_70 : decode cX6_wrongKept 70 = .ok (.iaload, 1) := by decide +kernel
theorem dX6_wrongKept_71 : decode cX6_wrongKept 71 = .ok (.i2l, 1) := by decide +kernel
theorem dX6_wrongKept_72 : decode cX6_wrongKept 72 = .ok (.invokestatic 141, 3) := by decide +kernel
theorem dX6_wrongKept_75 : decode cX6_wrongKept 75 = .ok (.ifCond .ne 6, 3) := by decide +kernel
theorem dX6_wrongKept_78 : decode cX6_wrongKept 78 = .ok (.bipush (-13), 2) := by decide +kernel
theorem dX6_wrongKept_80 : decode cX6_wrongKept 80 = .ok (.ireturn, 1) := by decide +kernel
theorem dX6_wrongKept_81 : decode cX6_wrongKept 81 = .ok (.iinc 5 1, 3) := by decide +kernel
theorem dX6_wrongKept_84 : decode cX6_wrongKept 84 = .ok (.goto (-36), 3) := by decide +kernel
theorem dX6_wrongKept_87 : decode cX6_wrongKept 87 = .ok (.iconst 0, 1) := by decide +kernel
theorem dX6_wrongKept_88 : decode cX6_wrongKept 88 = .ok (.ireturn, 1) := by decide +kernel
theorem dX6_keptOf_0 : decode cX6_keptOf 0 = .ok (.iconst 0, 1) := by decide +kernel
theorem dX6_keptOf_1 : decode cX6_keptOf 1 = .ok (.istore 4, 2) := by decide +kernel
theorem dX6_keptOf_3 : decode cX6_keptOf 3 = .ok (.iload 4, 2) := by decide +kernel
theorem dX6_keptOf_5 : decode cX6_keptOf 5 = .ok (.aload_n 0, 1) := by decide +kernel
theorem dX6_keptOf_6 : decode cX6_keptOf 6 = .ok (.getfield 22, 3) := by decide +kernel
theorem dX6_keptOf_9 : decode cX6_keptOf 9 = .ok (.iload_n 2, 1) := by decide +kernel
theorem dX6_keptOf_10 : decode cX6_keptOf 10 = .ok (.iaload, 1) := by decide +kernel
theorem dX6_keptOf_11 : decode cX6_keptOf 11 = .ok (.if_icmp .ge 75, 3) := by decide +kernel
theorem dX6_keptOf_14 : decode cX6_keptOf 14 = .ok (.aload_n 0, 1) := by decide +kernel
theorem dX6_keptOf_15 : decode cX6_keptOf 15 = .ok (.getfield 25, 3) := by decide +kernel
theorem dX6_keptOf_18 : decode cX6_keptOf 18 = .ok (.bipush 100, 2) := by decide +kernel
theorem dX6_keptOf_20 : decode cX6_keptOf 20 = .ok (.iload_n 2, 1) := by decide +kernel
theorem dX6_keptOf_21 : decode cX6_keptOf 21 = .ok (.imul, 1) := by decide +kernel
theorem dX6_keptOf_22 : decode cX6_keptOf 22 = .ok (.iload 4, 2) := by decide +kernel
theorem dX6_keptOf_24 : decode cX6_keptOf 24 = .ok (.iadd, 1) := by decide +kernel
theorem dX6_keptOf_25 : decode cX6_keptOf 25 = .ok (.iaload, 1) := by decide +kernel
theorem dX6_keptOf_26 : decode cX6_keptOf 26 = .ok (.istore 5, 2) := by decide +kernel
theorem dX6_keptOf_28 : decode cX6_keptOf 28 = .ok (.aload_n 0, 1) := by decide +kernel
theorem dX6_keptOf_29 : decode cX6_keptOf 29 = .ok (.iload_n 1, 1) := by decide +kernel
theorem dX6_keptOf_30 : decode cX6_keptOf 30 = .ok (.iload 5, 2) := by decide +kernel
theorem dX6_keptOf_32 : decode cX6_keptOf 32 = .ok (.invokevirtual 182, 3) := by decide +kernel
theorem dX6_keptOf_35 : decode cX6_keptOf 35 = .ok (.aload_n 0, 1) := by decide +kernel
theorem dX6_keptOf_36 : decode cX6_keptOf 36 = .ok (.getfield 172, 3) := by decide +kernel
theorem dX6_keptOf_39 : decode cX6_keptOf 39 = .ok (.ifCond .lt 6, 3) := by decide +kernel
theorem dX6_keptOf_42 : decode cX6_keptOf 42 = .ok (.goto 38, 3) := by decide +kernel
theorem dX6_keptOf_45 : decode cX6_keptOf 45 = .ok (.aload_n 0, 1) := by decide +kernel
theorem dX6_keptOf_46 : decode cX6_keptOf 46 = .ok (.iload_n 1, 1) := by decide +kernel
theorem dX6_keptOf_47 : decode cX6_keptOf 47 = .ok (.iload 5, 2) := by decide +kernel
theorem dX6_keptOf_49 : decode cX6_keptOf 49 = .ok (.invokevirtual 196, 3) := by decide +kernel
theorem dX6_keptOf_52 : decode cX6_keptOf 52 = .ok (.istore 6, 2) := by decide +kernel
theorem dX6_keptOf_54 : decode cX6_keptOf 54 = .ok (.iload 6, 2) := by decide +kernel
theorem dX6_keptOf_56 : decode cX6_keptOf 56 = .ok (.i2l, 1) := by decide +kernel
theorem dX6_keptOf_57 : decode cX6_keptOf 57 = .ok (.ldc2_w 54, 3) := by decide +kernel
theorem dX6_keptOf_60 : decode cX6_keptOf 60 = .ok (.iload 6, 2) := by decide +kernel
theorem dX6_keptOf_62 : decode cX6_keptOf 62 = .ok (.i2l, 1) := by decide +kernel
theorem dX6_keptOf_63 : decode cX6_keptOf 63 = .ok (.ldc2_w 54, 3) := by decide +kernel
theorem dX6_keptOf_66 : decode cX6_keptOf 66 = .ok (.invokestatic 129, 3) := by decide +kernel
theorem dX6_keptOf_69 : decode cX6_keptOf 69 = .ok (.lmul, 1) := by decide +kernel
theorem dX6_keptOf_70 : decode cX6_keptOf 70 = .ok (.lsub, 1) := by decide +kernel
theorem dX6_keptOf_71 : decode cX6_keptOf 71 = .ok (.iload_n 3, 1) := by decide +kernel
theorem dX6_keptOf_72 : decode cX6_keptOf 72 = .ok (.i2l, 1) := by decide +kernel
theorem dX6_keptOf_73 : decode cX6_keptOf 73 = .ok (.lcmp, 1) := by decide +kernel
theorem dX6_keptOf_74 : decode cX6_keptOf 74 = .ok (.ifCond .ne 6, 3) := by decide +kernel
theorem dX6_keptOf_77 : decode cX6_keptOf 77 = .ok (.iload 4, 2) := by decide +kernel
theorem dX6_keptOf_79 : decode cX6_keptOf 79 = .ok (.ireturn, 1) := by decide +kernel
theorem dX6_keptOf_80 : decode cX6_keptOf 80 = .ok (.iinc 4 1, 3) := by decide +kernel
theorem dX6_keptOf_83 : decode cX6_keptOf 83 = .ok (.goto (-80), 3) := by decide +kernel
theorem dX6_keptOf_86 : decode cX6_keptOf 86 = .ok (.bipush (-4), 2) := by decide +kernel
theorem dX6_keptOf_88 : decode cX6_keptOf 88 = .ok (.ireturn, 1) := by decide +kernel
theorem dX6_kept_0 : decode cX6_kept 0 = .ok (.aload_n 0, 1) := by decide +kernel
theorem dX6_kept_1 : decode cX6_kept 1 = .ok (.iload_n 1, 1) := by decide +kernel
theorem dX6_kept_2 : decode cX6_kept 2 = .ok (.iload_n 2, 1) := by decide +kernel
theorem dX6_kept_3 : decode cX6_kept 3 = .ok (.iload_n 3, 1) := by decide +kernel
theorem dX6_kept_4 : decode cX6_kept 4 = .ok (.invokevirtual 230, 3) := by decide +kernel
theorem dX6_kept_7 : decode cX6_kept 7 = .ok (.istore 4, 2) := by decide +kernel
theorem dX6_kept_9 : decode cX6_kept 9 = .ok (.iload 4, 2) := by decide +kernel
theorem dX6_kept_11 : decode cX6_kept 11 = .ok (.ifCond .eq 8, 3) := by decide +kernel
theorem dX6_kept_14 : decode cX6_kept 14 = .ok (.iload 4, 2) := by decide +kernel
theorem dX6_kept_16 : decode cX6_kept 16 = .ok (.goto 10, 3) := by decide +kernel
theorem dX6_kept_19 : decode cX6_kept 19 = .ok (.aload_n 0, 1) := by decide +kernel
theorem dX6_kept_20 : decode cX6_kept 20 = .ok (.iload_n 1, 1) := by decide +kernel
theorem dX6_kept_21 : decode cX6_kept 21 = .ok (.iload_n 2, 1) := by decide +kernel
theorem dX6_kept_22 : decode cX6_kept 22 = .ok (.iload_n 3, 1) := by decide +kernel
theorem dX6_kept_23 : decode cX6_kept 23 = .ok (.invokevirtual 233, 3) := by decide +kernel
theorem dX6_kept_26 : decode cX6_kept 26 = .ok (.ireturn, 1) := by decide +kernel
theorem dX6_rounds_0 : decode cX6_rounds 0 = .ok (.aload_n 0, 1) := by decide +kernel
theorem dX6_rounds_1 : decode cX6_rounds 1 = .ok (.iload_n 1, 1) := by decide +kernel
theorem dX6_rounds_2 : decode cX6_rounds 2 = .ok (.invokevirtual 157, 3) := by decide +kernel
theorem dX6_rounds_5 : decode cX6_rounds 5 = .ok (.ifCond .eq 11, 3) := by decide +kernel
theorem dX6_rounds_8 : decode cX6_rounds 8 = .ok (.iload_n 2, 1) := by decide +kernel
theorem dX6_rounds_9 : decode cX6_rounds 9 = .ok (.i2l, 1) := by decide +kernel
theorem dX6_rounds_10 : decode cX6_rounds 10 = .ok (.invokestatic 141, 3) := by decide +kernel
theorem dX6_rounds_13 : decode cX6_rounds 13 = .ok (.ifCond .ne 6, 3) := by decide +kernel
theorem dX6_rounds_16 : decode cX6_rounds 16 = .ok (.ldc 111, 2) := by decide +kernel
theorem dX6_rounds_18 : decode cX6_rounds 18 = .ok (.ireturn, 1) := by decide +kernel
theorem dX6_rounds_19 : decode cX6_rounds 19 = .ok (.aload_n 0, 1) := by decide +kernel
theorem dX6_rounds_20 : decode cX6_rounds 20 = .ok (.iload_n 1, 1) := by decide +kernel
theorem dX6_rounds_21 : decode cX6_rounds 21 = .ok (.iload_n 2, 1) := by decide +kernel
theorem dX6_rounds_22 : decode cX6_rounds 22 = .ok (.invokevirtual 182, 3) := by decide +kernel
theorem dX6_rounds_25 : decode cX6_rounds 25 = .ok (.aload_n 0, 1) := by decide +kernel
theorem dX6_rounds_26 : decode cX6_rounds 26 = .ok (.iload_n 1, 1) := by decide +kernel
theorem dX6_rounds_27 : decode cX6_rounds 27 = .ok (.invokevirtual 202, 3) := by decide +kernel
theorem dX6_rounds_30 : decode cX6_rounds 30 = .ok (.ireturn, 1) := by decide +kernel
theorem dX6_log_0 : decode cX6_log 0 = .ok (.aload_n 0, 1) := by decide +kernel
theorem dX6_log_1 : decode cX6_log 1 = .ok (.iload_n 1, 1) := by decide +kernel
theorem dX6_log_2 : decode cX6_log 2 = .ok (.invokevirtual 157, 3) := by decide +kernel
theorem dX6_log_5 : decode cX6_log 5 = .ok (.ifCond .ne 5, 3) := by decide +kernel
theorem dX6_log_8 : decode cX6_log 8 = .ok (.iconst (-1), 1) := by decide +kernel
theorem dX6_log_9 : decode cX6_log 9 = .ok (.ireturn, 1) := by decide +kernel
theorem dX6_log_10 : decode cX6_log 10 = .ok (.aload_n 0, 1) := by decide +kernel
theorem dX6_log_11 : decode cX6_log 11 = .ok (.iload_n 2, 1) := by decide +kernel
theorem dX6_log_12 : decode cX6_log 12 = .ok (.iconst (-1), 1) := by decide +kernel
theorem dX6_log_13 : decode cX6_log 13 = .ok (.invokevirtual 93, 3) := by decide +kernel
theorem dX6_log_16 : decode cX6_log 16 = .ok (.istore_n 3, 1) := by decide +kernel
theorem dX6_log_17 : decode cX6_log 17 = .ok (.iload_n 3, 1) := by decide +kernel
theorem dX6_log_18 : decode cX6_log 18 = .ok (.ifCond .eq 5, 3) := by decide +kernel
theorem dX6_log_21 : decode cX6_log 21 = .ok (.iload_n 3, 1) := by decide +kernel
theorem dX6_log_22 : decode cX6_log 22 = .ok (.ireturn, 1) := by decide +kernel
theorem dX6_log_23 : decode cX6_log 23 = .ok (.aload_n 0, 1) := by decide +kernel
theorem dX6_log_24 : decode cX6_log 24 = .ok (.getfield 22, 3) := by decide +kernel
theorem dX6_log_27 : decode cX6_log 27 = .ok (.iload_n 2, 1) := by decide +kernel
theorem dX6_log_28 : decode cX6_log 28 = .ok (.iaload, 1) := by decide +kernel
theorem dX6_log_29 : decode cX6_log 29 = .ok (.iconst 2, 1) := by decide +kernel
theorem dX6_log_30 : decode cX6_log 30 = .ok (.irem, 1) := by decide +kernel
theorem dX6_log_31 : decode cX6_log 31 = .ok (.iconst 1, 1) := by decide +kernel
theorem dX6_log_32 : decode cX6_log 32 = .ok (.if_icmp .ne 6, 3) := by decide +kernel
theorem dX6_log_35 : decode cX6_log 35 = .ok (.bipush (-13), 2) := by decide +kernel
theorem dX6_log_37 : decode cX6_log 37 = .ok (.ireturn, 1) := by decide +kernel
theorem dX6_log_38 : decode cX6_log 38 = .ok (.bipush 127, 2) := by decide +kernel
theorem dX6_log_40 : decode cX6_log 40 = .ok (.istore 4, 2) := by decide +kernel
theorem dX6_log_42 : decode cX6_log 42 = .ok (.iconst 0, 1) := by decide +kernel
theorem dX6_log_43 : decode cX6_log 43 = .ok (.istore 5, 2) := by decide +kernel
theorem dX6_log_45 : decode cX6_log 45 = .ok (.iload 5, 2) := by decide +kernel
theorem dX6_log_47 : decode cX6_log 47 = .ok (.iconst 1, 1) := by decide +kernel
theorem dX6_log_48 : decode cX6_log 48 = .ok (.iadd, 1) := by decide +kernel
theorem dX6_log_49 : decode cX6_log 49 = .ok (.aload_n 0, 1) := by decide +kernel
theorem dX6_log_50 : decode cX6_log 50 = .ok (.getfield 22, 3) := by decide +kernel
theorem dX6_log_53 : decode cX6_log 53 = .ok (.iload_n 2, 1) := by decide +kernel
theorem dX6_log_54 : decode cX6_log 54 = .ok (.iaload, 1) := by decide +kernel
theorem dX6_log_55 : decode cX6_log 55 = .ok (.if_icmp .ge 123, 3) := by decide +kernel
theorem dX6_log_58 : decode cX6_log 58 = .ok (.aload_n 0, 1) := by decide +kernel
theorem dX6_log_59 : decode cX6_log 59 = .ok (.getfield 25, 3) := by decide +kernel
theorem dX6_log_62 : decode cX6_log 62 = .ok (.bipush 100, 2) := by decide +kernel
theorem dX6_log_64 : decode cX6_log 64 = .ok (.iload_n 2, 1) := by decide +kernel
theorem dX6_log_65 : decode cX6_log 65 = .ok (.imul, 1) := by decide +kernel
theorem dX6_log_66 : decode cX6_log 66 = .ok (.iload 5, 2) := by decide +kernel
theorem dX6_log_68 : decode cX6_log 68 = .ok (.iadd, 1) := by decide +kernel
theorem dX6_log_69 : decode cX6_log 69 = .ok (.iaload, 1) := by decide +kernel
theorem dX6_log_70 : decode cX6_log 70 = .ok (.istore 6, 2) := by decide +kernel
theorem dX6_log_72 : decode cX6_log 72 = .ok (.aload_n 0, 1) := by decide +kernel
theorem dX6_log_73 : decode cX6_log 73 = .ok (.getfield 25, 3) := by decide +kernel
theorem dX6_log_76 : decode cX6_log 76 = .ok (.bipush 100, 2) := by decide +kernel
theorem dX6_log_78 : decode cX6_log 78 = .ok (.iload_n 2, 1) := by decide +kernel
theorem dX6_log_79 : decode cX6_log 79 = .ok (.imul, 1) := by decide +kernel
theorem dX6_log_80 : decode cX6_log 80 = .ok (.iload 5, 2) := by decide +kernel
theorem dX6_log_82 : decode cX6_log 82 = .ok (.iadd, 1) := by decide +kernel
theorem dX6_log_83 : decode cX6_log 83 = .ok (.iconst 1, 1) := by decide +kernel
theorem dX6_log_84 : decode cX6_log 84 = .ok (.iadd, 1) := by decide +kernel
theorem dX6_log_85 : decode cX6_log 85 = .ok (.iaload, 1) := by decide +kernel
theorem dX6_log_86 : decode cX6_log 86 = .ok (.istore 7, 2) := by decide +kernel
theorem dX6_log_88 : decode cX6_log 88 = .ok (.iload 6, 2) := by decide +kernel
theorem dX6_log_90 : decode cX6_log 90 = .ok (.aload_n 0, 1) := by decide +kernel
theorem dX6_log_91 : decode cX6_log 91 = .ok (.iload_n 2, 1) := by decide +kernel
theorem dX6_log_92 : decode cX6_log 92 = .ok (.invokevirtual 225, 3) := by decide +kernel
theorem dX6_log_95 : decode cX6_log 95 = .ok (.if_icmp .eq 77, 3) := by decide +kernel
theorem dX6_log_98 : decode cX6_log 98 = .ok (.iload 7, 2) := by decide +kernel
theorem dX6_log_100 : decode cX6_log 100 = .ok (.aload_n 0, 1) := by decide +kernel
theorem dX6_log_101 : decode cX6_log 101 = .ok (.iload_n 2, 1) := by decide +kernel
theorem dX6_log_102 : decode cX6_log 102 = .ok (.invokevirtual 225, 3) := by decide +kernel
theorem dX6_log_105 : decode cX6_log 105 = .ok (.if_icmp .ne 6, 3) := by decide +kernel
theorem dX6_log_108 : decode cX6_log 108 = .ok (.goto 64, 3) := by decide +kernel
theorem dX6_log_111 : decode cX6_log 111 = .ok (.iload 6, 2) := by decide +kernel
theorem dX6_log_113 : decode cX6_log 113 = .ok (.i2l, 1) := by decide +kernel
theorem dX6_log_114 : decode cX6_log 114 = .ok (.invokestatic 141, 3) := by decide +kernel
theorem dX6_log_117 : decode cX6_log 117 = .ok (.ifCond .ne 6, 3) := by decide +kernel
theorem dX6_log_120 : decode cX6_log 120 = .ok (.bipush (-13), 2) := by decide +kernel
theorem dX6_log_122 : decode cX6_log 122 = .ok (.ireturn, 1) := by decide +kernel
theorem dX6_log_123 : decode cX6_log 123 = .ok (.aload_n 0, 1) := by decide +kernel
theorem dX6_log_124 : decode cX6_log 124 = .ok (.iload_n 1, 1) := by decide +kernel
theorem dX6_log_125 : decode cX6_log 125 = .ok (.iload 6, 2) := by decide +kernel
theorem dX6_log_127 : decode cX6_log 127 = .ok (.invokevirtual 182, 3) := by decide +kernel
theorem dX6_log_130 : decode cX6_log 130 = .ok (.aload_n 0, 1) := by decide +kernel
theorem dX6_log_131 : decode cX6_log 131 = .ok (.iload_n 1, 1) := by decide +kernel
theorem dX6_log_132 : decode cX6_log 132 = .ok (.iload 6, 2) := by decide +kernel
theorem dX6_log_134 : decode cX6_log 134 = .ok (.invokevirtual 193, 3) := by decide +kernel
theorem dX6_log_137 : decode cX6_log 137 = .ok (.iload 7, 2) := by decide +kernel
theorem dX6_log_139 : decode cX6_log 139 = .ok (.isub, 1) := by decide +kernel
theorem dX6_log_140 : decode cX6_log 140 = .ok (.istore 8, 2) := by decide +kernel
theorem dX6_log_142 : decode cX6_log 142 = .ok (.iload 4, 2) := by decide +kernel
theorem dX6_log_144 : decode cX6_log 144 = .ok (.iload 8, 2) := by decide +kernel
theorem dX6_log_146 : decode cX6_log 146 = .ok (.i2l, 1) := by decide +kernel
theorem dX6_log_147 : decode cX6_log 147 = .ok (.ldc2_w 236, 3) := by decide +kernel
theorem dX6_log_150 : decode cX6_log 150 = .ok (.ldc2_w 106, 3) := by decide +kernel
theorem dX6_log_153 : decode cX6_log 153 = .ok (.invokestatic 48, 3) := by decide +kernel
theorem dX6_log_156 : decode cX6_log 156 = .ok (.ifCond .eq 12, 3) := by decide +kernel
theorem dX6_log_159 : decode cX6_log 159 = .ok (.iconst 1, 1) := by decide +kernel
theorem dX6_log_160 : decode cX6_log 160 = .ok (.iload 8, 2) := by decide +kernel
theorem dX6_log_162 : decode cX6_log 162 = .ok (.iconst 3, 1) := by decide +kernel
theorem dX6_log_163 : decode cX6_log 163 = .ok (.iadd, 1) := by decide +kernel
theorem dX6_log_164 : decode cX6_log 164 = .ok (.ishl, 1) := by decide +kernel
theorem dX6_log_165 : decode cX6_log 165 = .ok (.goto 4, 3) := by decide +kernel
theorem dX6_log_168 : decode cX6_log 168 = .ok (.iconst 0, 1) := by decide +kernel
theorem dX6_log_169 : decode cX6_log 169 = .ok (.iand, 1) := by decide +kernel
theorem dX6_log_170 : decode cX6_log 170 = .ok (.istore 4, 2) := by decide +kernel
theorem dX6_log_172 : decode cX6_log 172 = .ok (.iinc 5 2, 3) := by decide +kernel
theorem dX6_log_175 : decode cX6_log 175 = .ok (.goto (-130), 3) := by decide +kernel
theorem dX6_log_178 : decode cX6_log 178 = .ok (.iload 4, 2) := by decide +kernel
theorem dX6_log_180 : decode cX6_log 180 = .ok (.ireturn, 1) := by decide +kernel
theorem dX6_plan_0 : decode cX6_plan 0 = .ok (.aload_n 0, 1) := by decide +kernel
theorem dX6_plan_1 : decode cX6_plan 1 = .ok (.iload_n 1, 1) := by decide +kernel
theorem dX6_plan_2 : decode cX6_plan 2 = .ok (.iload_n 2, 1) := by decide +kernel
theorem dX6_plan_3 : decode cX6_plan 3 = .ok (.iload_n 3, 1) := by decide +kernel
theorem dX6_plan_4 : decode cX6_plan 4 = .ok (.invokevirtual 230, 3) := by decide +kernel
theorem dX6_plan_7 : decode cX6_plan 7 = .ok (.istore 4, 2) := by decide +kernel
theorem dX6_plan_9 : decode cX6_plan 9 = .ok (.iload 4, 2) := by decide +kernel
theorem dX6_plan_11 : decode cX6_plan 11 = .ok (.ifCond .eq 6, 3) := by decide +kernel
theorem dX6_plan_14 : decode cX6_plan 14 = .ok (.iload 4, 2) := by decide +kernel
theorem dX6_plan_16 : decode cX6_plan 16 = .ok (.ireturn, 1) := by decide +kernel
theorem dX6_plan_17 : decode cX6_plan 17 = .ok (.sipush 143, 3) := by decide +kernel
theorem dX6_plan_20 : decode cX6_plan 20 = .ok (.bipush 45, 2) := by decide +kernel
theorem dX6_plan_22 : decode cX6_plan 22 = .ok (.iload_n 1, 1) := by decide +kernel
theorem dX6_plan_23 : decode cX6_plan 23 = .ok (.imul, 1) := by decide +kernel
theorem dX6_plan_24 : decode cX6_plan 24 = .ok (.iadd, 1) := by decide +kernel
theorem dX6_plan_25 : decode cX6_plan 25 = .ok (.istore 5, 2) := by decide +kernel
theorem dX6_plan_27 : decode cX6_plan 27 = .ok (.aload_n 0, 1) := by decide +kernel
theorem dX6_plan_28 : decode cX6_plan 28 = .ok (.getfield 9, 3) := by decide +kernel
theorem dX6_plan_31 : decode cX6_plan 31 = .ok (.iload 5, 2) := by decide +kernel
theorem dX6_plan_33 : decode cX6_plan 33 = .ok (.iconst 3, 1) := by decide +kernel
theorem dX6_plan_34 : decode cX6_plan 34 = .ok (.iadd, 1) := by decide +kernel
theorem dX6_plan_35 : decode cX6_plan 35 = .ok (.iaload, 1) := by decide +kernel
theorem dX6_plan_36 : decode cX6_plan 36 = .ok (.istore 6, 2) := by decide +kernel
theorem dX6_plan_38 : decode cX6_plan 38 = .ok (.iconst 0, 1) := by decide +kernel
theorem dX6_plan_39 : decode cX6_plan 39 = .ok (.istore 7, 2) := by decide +kernel
theorem dX6_plan_41 : decode cX6_plan 41 = .ok (.iconst 0, 1) := by decide +kernel
theorem dX6_plan_42 : decode cX6_plan 42 = .ok (.istore 8, 2) := by decide +kernel
theorem dX6_plan_44 : decode cX6_plan 44 = .ok (.iload 8, 2) := by decide +kernel
theorem dX6_plan_46 : decode cX6_plan 46 = .ok (.iload 6, 2) := by decide +kernel
theorem dX6_plan_48 : decode cX6_plan 48 = .ok (.if_icmp .ge 33, 3) := by decide +kernel
theorem dX6_plan_51 : decode cX6_plan 51 = .ok (.iload 7, 2) := by decide +kernel
theorem dX6_plan_53 : decode cX6_plan 53 = .ok (.aload_n 0, 1) := by decide +kernel
theorem dX6_plan_54 : decode cX6_plan 54 = .ok (.getfield 9, 3) := by decide +kernel
theorem dX6_plan_57 : decode cX6_plan 57 = .ok (.iload 5, 2) := by decide +kernel
theorem dX6_plan_59 : decode cX6_plan 59 = .ok (.iconst 4, 1) := by decide +kernel
theorem dX6_plan_60 : decode cX6_plan 60 = .ok (.iadd, 1) := by decide +kernel
theorem dX6_plan_61 : decode cX6_plan 61 = .ok (.iconst 4, 1) := by decide +kernel
theorem dX6_plan_62 : decode cX6_plan 62 = .ok (.iload 8, 2) := by decide +kernel
theorem dX6_plan_64 : decode cX6_plan 64 = .ok (.imul, 1) := by decide +kernel
theorem dX6_plan_65 : decode cX6_plan 65 = .ok (.iadd, 1) := by decide +kernel
theorem dX6_plan_66 : decode cX6_plan 66 = .ok (.iconst 1, 1) := by decide +kernel
theorem dX6_plan_67 : decode cX6_plan 67 = .ok (.iadd, 1) := by decide +kernel
theorem dX6_plan_68 : decode cX6_plan 68 = .ok (.iaload, 1) := by decide +kernel
theorem dX6_plan_69 : decode cX6_plan 69 = .ok (.iload 8, 2) := by decide +kernel
theorem dX6_plan_71 : decode cX6_plan 71 = .ok (.ishl, 1) := by decide +kernel
theorem dX6_plan_72 : decode cX6_plan 72 = .ok (.ior, 1) := by decide +kernel
theorem dX6_plan_73 : decode cX6_plan 73 = .ok (.istore 7, 2) := by decide +kernel
theorem dX6_plan_75 : decode cX6_plan 75 = .ok (.iinc 8 1, 3) := by decide +kernel
theorem dX6_plan_78 : decode cX6_plan 78 = .ok (.goto (-34), 3) := by decide +kernel
theorem dX6_plan_81 : decode cX6_plan 81 = .ok (.bipush (-4), 2) := by decide +kernel
theorem dX6_plan_83 : decode cX6_plan 83 = .ok (.istore 8, 2) := by decide +kernel
theorem dX6_plan_85 : decode cX6_plan 85 = .ok (.iconst 0, 1) := by decide +kernel
theorem dX6_plan_86 : decode cX6_plan 86 = .ok (.istore 9, 2) := by decide +kernel
theorem dX6_plan_88 : decode cX6_plan 88 = .ok (.iload 9, 2) := by decide +kernel
theorem dX6_plan_90 : decode cX6_plan 90 = .ok (.iconst 1, 1) := by decide +kernel
theorem dX6_plan_91 : decode cX6_plan 91 = .ok (.iload 6, 2) := by decide +kernel
theorem dX6_plan_93 : decode cX6_plan 93 = .ok (.ishl, 1) := by decide +kernel
theorem dX6_plan_94 : decode cX6_plan 94 = .ok (.if_icmp .ge 74, 3) := by decide +kernel
theorem dX6_plan_97 : decode cX6_plan 97 = .ok (.iload 8, 2) := by decide +kernel
theorem dX6_plan_99 : decode cX6_plan 99 = .ok (.ifCond .ge 69, 3) := by decide +kernel
theorem dX6_plan_102 : decode cX6_plan 102 = .ok (.iconst 0, 1) := by decide +kernel
theorem dX6_plan_103 : decode cX6_plan 103 = .ok (.istore 10, 2) := by decide +kernel
theorem dX6_plan_105 : decode cX6_plan 105 = .ok (.iload 10, 2) := by decide +kernel
theorem dX6_plan_107 : decode cX6_plan 107 = .ok (.iload 6, 2) := by decide +kernel
theorem dX6_plan_109 : decode cX6_plan 109 = .ok (.if_icmp .ge 32, 3) := by decide +kernel
theorem dX6_plan_112 : decode cX6_plan 112 = .ok (.aload_n 0, 1) := by decide +kernel
theorem dX6_plan_113 : decode cX6_plan 113 = .ok (.getfield 9, 3) := by decide +kernel
theorem dX6_plan_116 : decode cX6_plan 116 = .ok (.iload 5, 2) := by decide +kernel
theorem dX6_plan_118 : decode cX6_plan 118 = .ok (.iconst 4, 1) := by decide +kernel
theorem dX6_plan_119 : decode cX6_plan 119 = .ok (.iadd, 1) := by decide +kernel
theorem dX6_plan_120 : decode cX6_plan 120 = .ok (.iconst 4, 1) := by decide +kernel
theorem dX6_plan_121 : decode cX6_plan 121 = .ok (.iload 10, 2) := by decide +kernel
theorem dX6_plan_123 : decode cX6_plan 123 = .ok (.imul, 1) := by decide +kernel
theorem dX6_plan_124 : decode cX6_plan 124 = .ok (.iadd, 1) := by decide +kernel
theorem dX6_plan_125 : decode cX6_plan 125 = .ok (.iconst 1, 1) := by decide +kernel
theorem dX6_plan_126 : decode cX6_plan 126 = .ok (.iadd, 1) := by decide +kernel
theorem dX6_plan_127 : decode cX6_plan 127 = .ok (.iload 9, 2) := by decide +kernel
theorem dX6_plan_129 : decode cX6_plan 129 = .ok (.iload 10, 2) := by decide +kernel
theorem dX6_plan_131 : decode cX6_plan 131 = .ok (.ishr, 1) := by decide +kernel
theorem dX6_plan_132 : decode cX6_plan 132 = .ok (.iconst 1, 1) := by decide +kernel
theorem dX6_plan_133 : decode cX6_plan 133 = .ok (.iand, 1) := by decide +kernel
theorem dX6_plan_134 : decode cX6_plan 134 = .ok (.iastore, 1) := by decide +kernel
theorem dX6_plan_135 : decode cX6_plan 135 = .ok (.iinc 10 1, 3) := by decide +kernel
theorem dX6_plan_138 : decode cX6_plan 138 = .ok (.goto (-33), 3) := by decide +kernel
theorem dX6_plan_141 : decode cX6_plan 141 = .ok (.aload_n 0, 1) := by decide +kernel
theorem dX6_plan_142 : decode cX6_plan 142 = .ok (.iload_n 1, 1) := by decide +kernel
theorem dX6_plan_143 : decode cX6_plan 143 = .ok (.iload_n 2, 1) := by decide +kernel
theorem dX6_plan_144 : decode cX6_plan 144 = .ok (.iload_n 3, 1) := by decide +kernel
theorem dX6_plan_145 : decode cX6_plan 145 = .ok (.invokevirtual 233, 3) := by decide +kernel
theorem dX6_plan_148 : decode cX6_plan 148 = .ok (.bipush (-4), 2) := by decide +kernel
theorem dX6_plan_150 : decode cX6_plan 150 = .ok (.if_icmp .ne 8, 3) := by decide +kernel
theorem dX6_plan_153 : decode cX6_plan 153 = .ok (.iload 9, 2) := by decide +kernel
theorem dX6_plan_155 : decode cX6_plan 155 = .ok (.goto 5, 3) := by decide +kernel
theorem dX6_plan_158 : decode cX6_plan 158 = .ok (.bipush (-4), 2) := by decide +kernel
theorem dX6_plan_160 : decode cX6_plan 160 = .ok (.istore 8, 2) := by decide +kernel
theorem dX6_plan_162 : decode cX6_plan 162 = .ok (.iinc 9 1, 3) := by decide +kernel
theorem dX6_plan_165 : decode cX6_plan 165 = .ok (.goto (-77), 3) := by decide +kernel
theorem dX6_plan_168 : decode cX6_plan 168 = .ok (.iconst 0, 1) := by decide +kernel
theorem dX6_plan_169 : decode cX6_plan 169 = .ok (.istore 9, 2) := by decide +kernel
theorem dX6_plan_171 : decode cX6_plan 171 = .ok (.iload 9, 2) := by decide +kernel
theorem dX6_plan_173 : decode cX6_plan 173 = .ok (.iload 6, 2) := by decide +kernel
theorem dX6_plan_175 : decode cX6_plan 175 = .ok (.if_icmp .ge 32, 3) := by decide +kernel
theorem dX6_plan_178 : decode cX6_plan 178 = .ok (.aload_n 0, 1) := by decide +kernel
theorem dX6_plan_179 : decode cX6_plan 179 = .ok (.getfield 9, 3) := by decide +kernel
theorem dX6_plan_182 : decode cX6_plan 182 = .ok (.iload 5, 2) := by decide +kernel
theorem dX6_plan_184 : decode cX6_plan 184 = .ok (.iconst 4, 1) := by decide +kernel
theorem dX6_plan_185 : decode cX6_plan 185 = .ok (.iadd, 1) := by decide +kernel
theorem dX6_plan_186 : decode cX6_plan 186 = .ok (.iconst 4, 1) := by decide +kernel
theorem dX6_plan_187 : decode cX6_plan 187 = .ok (.iload 9, 2) := by decide +kernel
theorem dX6_plan_189 : decode cX6_plan 189 = .ok (.imul, 1) := by decide +kernel
theorem dX6_plan_190 : decode cX6_plan 190 = .ok (.iadd, 1) := by decide +kernel
theorem dX6_plan_191 : decode cX6_plan 191 = .ok (.iconst 1, 1) := by decide +kernel
theorem dX6_plan_192 : decode cX6_plan 192 = .ok (.iadd, 1) := by decide +kernel
theorem dX6_plan_193 : decode cX6_plan 193 = .ok (.iload 7, 2) := by decide +kernel
theorem dX6_plan_195 : decode cX6_plan 195 = .ok (.iload 9, 2) := by decide +kernel
theorem dX6_plan_197 : decode cX6_plan 197 = .ok (.ishr, 1) := by decide +kernel
theorem dX6_plan_198 : decode cX6_plan 198 = .ok (.iconst 1, 1) := by decide +kernel
theorem dX6_plan_199 : decode cX6_plan 199 = .ok (.iand, 1) := by decide +kernel
theorem dX6_plan_200 : decode cX6_plan 200 = .ok (.iastore, 1) := by decide +kernel
theorem dX6_plan_201 : decode cX6_plan 201 = .ok (.iinc 9 1, 3) := by decide +kernel
theorem dX6_plan_204 : decode cX6_plan 204 = .ok (.goto (-33), 3) := by decide +kernel
theorem dX6_plan_207 : decode cX6_plan 207 = .ok (.iload 8, 2) := by decide +kernel
theorem dX6_plan_209 : decode cX6_plan 209 = .ok (.ireturn, 1) := by decide +kernel
theorem dX6_image_0 : decode cX6_image 0 = .ok (.iconst 0, 1) := by decide +kernel
theorem dX6_image_1 : decode cX6_image 1 = .ok (.istore_n 1, 1) := by decide +kernel
theorem dX6_image_2 : decode cX6_image 2 = .ok (.iload_n 1, 1) := by decide +kernel
theorem dX6_image_3 : decode cX6_image 3 = .ok (.sipush 503, 3) := by decide +kernel
theorem dX6_image_6 : decode cX6_image 6 = .ok (.if_icmp .ge 21, 3) := by decide +kernel
theorem dX6_image_9 : decode cX6_image 9 = .ok (.aload_n 0, 1) := by decide +kernel
theorem dX6_image_10 : decode cX6_image 10 = .ok (.getfield 13, 3) := by decide +kernel
theorem dX6_image_13 : decode cX6_image 13 = .ok (.iload_n 1, 1) := by decide +kernel
theorem dX6_image_14 : decode cX6_image 14 = .ok (.aload_n 0, 1) := by decide +kernel
theorem dX6_image_15 : decode cX6_image 15 = .ok (.getfield 9, 3) := by decide +kernel
theorem dX6_image_18 : decode cX6_image 18 = .ok (.iload_n 1, 1) := by decide +kernel
theorem dX6_image_19 : decode cX6_image 19 = .ok (.iaload, 1) := by decide +kernel
theorem dX6_image_20 : decode cX6_image 20 = .ok (.iastore, 1) := by decide +kernel
theorem dX6_image_21 : decode cX6_image 21 = .ok (.iinc 1 1, 3) := by decide +kernel
theorem dX6_image_24 : decode cX6_image 24 = .ok (.goto (-22), 3) := by decide +kernel
theorem dX6_image_27 : decode cX6_image 27 = .ok (.aload_n 0, 1) := by decide +kernel
theorem dX6_image_28 : decode cX6_image 28 = .ok (.iconst 1, 1) := by decide +kernel
theorem dX6_image_29 : decode cX6_image 29 = .ok (.putfield 238, 3) := by decide +kernel
theorem dX6_image_32 : decode cX6_image 32 = .ok (.aload_n 0, 1) := by decide +kernel
theorem dX6_image_33 : decode cX6_image 33 = .ok (.getfield 9, 3) := by decide +kernel
theorem dX6_image_36 : decode cX6_image 36 = .ok (.iconst 1, 1) := by decide +kernel
theorem dX6_image_37 : decode cX6_image 37 = .ok (.iaload, 1) := by decide +kernel
theorem dX6_image_38 : decode cX6_image 38 = .ok (.ireturn, 1) := by decide +kernel
theorem dX6_restore_0 : decode cX6_restore 0 = .ok (.aload_n 0, 1) := by decide +kernel
theorem dX6_restore_1 : decode cX6_restore 1 = .ok (.getfield 238, 3) := by decide +kernel
theorem dX6_restore_4 : decode cX6_restore 4 = .ok (.ifCond .ne 6, 3) := by decide +kernel
theorem dX6_restore_7 : decode cX6_restore 7 = .ok (.bipush (-3), 2) := by decide +kernel
theorem dX6_restore_9 : decode cX6_restore 9 = .ok (.ireturn, 1) := by decide +kernel
theorem dX6_restore_10 : decode cX6_restore 10 = .ok (.iconst 0, 1) := by decide +kernel
theorem dX6_restore_11 : decode cX6_restore 11 = .ok (.istore_n 1, 1) := by decide +kernel
theorem dX6_restore_12 : decode cX6_restore 12 = .ok (.iload_n 1, 1) := by decide +kernel
theorem dX6_restore_13 : decode cX6_restore 13 = .ok (.bipush 8, 2) := by decide +kernel
theorem dX6_restore_15 : decode cX6_restore 15 = .ok (.if_icmp .ge 74, 3) := by decide +kernel
theorem dX6_restore_18 : decode cX6_restore 18 = .ok (.aload_n 0, 1) := by decide +kernel
theorem dX6_restore_19 : decode cX6_restore 19 = .ok (.getfield 16, 3) := by decide +kernel
theorem dX6_restore_22 : decode cX6_restore 22 = .ok (.iload_n 1, 1) := by decide +kernel
theorem dX6_restore_23 : decode cX6_restore 23 = .ok (.iaload, 1) := by decide +kernel
theorem dX6_restore_24 : decode cX6_restore 24 = .ok (.iconst 1, 1) := by decide +kernel
theorem dX6_restore_25 : decode cX6_restore 25 = .ok (.if_icmp .ne 58, 3) := by decide +kernel
theorem dX6_restore_28 : decode cX6_restore 28 = .ok (.aload_n 0, 1) := by decide +kernel
theorem dX6_restore_29 : decode cX6_restore 29 = .ok (.getfield 34, 3) := by decide +kernel
theorem dX6_restore_32 : decode cX6_restore 32 = .ok (.iload_n 1, 1) := by decide +kernel
theorem dX6_restore_33 : decode cX6_restore 33 = .ok (.baload, 1) := by decide +kernel
theorem dX6_restore_34 : decode cX6_restore 34 = .ok (.ifCond .eq 6, 3) := by decide +kernel
theorem dX6_restore_37 : decode cX6_restore 37 = .ok (.goto 46, 3) := by decide +kernel
theorem dX6_restore_40 : decode cX6_restore 40 = .ok (.iconst 0, 1) := by decide +kernel
theorem dX6_restore_41 : decode cX6_restore 41 = .ok (.istore_n 2, 1) := by decide +kernel
theorem dX6_restore_42 : decode cX6_restore 42 = .ok (.iload_n 2, 1) := by decide +kernel
theorem dX6_restore_43 : decode cX6_restore 43 = .ok (.bipush 45, 2) := by decide +kernel
theorem dX6_restore_45 : decode cX6_restore 45 = .ok (.if_icmp .ge 31, 3) := by decide +kernel
theorem dX6_restore_48 : decode cX6_restore 48 = .ok (.aload_n 0, 1) := by decide +kernel
theorem dX6_restore_49 : decode cX6_restore 49 = .ok (.getfield 31, 3) := by decide +kernel
theorem dX6_restore_52 : decode cX6_restore 52 = .ok (.bipush 45, 2) := by decide +kernel
theorem dX6_restore_54 : decode cX6_restore 54 = .ok (.iload_n 1, 1) := by decide +kernel
theorem dX6_restore_55 : decode cX6_restore 55 = .ok (.imul, 1) := by decide +kernel
theorem dX6_restore_56 : decode cX6_restore 56 = .ok (.iload_n 2, 1) := by decide +kernel
theorem dX6_restore_57 : decode cX6_restore 57 = .ok (.iadd, 1) := by decide +kernel
theorem dX6_restore_58 : decode cX6_restore 58 = .ok (.aload_n 0, 1) := by decide +kernel
theorem dX6_restore_59 : decode cX6_restore 59 = .ok (.aload_n 0, 1) := by decide +kernel
theorem dX6_restore_60 : decode cX6_restore 60 = .ok (.getfield 28, 3) := by decide +kernel
theorem dX6_restore_63 : decode cX6_restore 63 = .ok (.iload_n 1, 1) := by decide +kernel
theorem dX6_restore_64 : decode cX6_restore 64 = .ok (.iaload, 1) := by decide +kernel
theorem dX6_restore_65 : decode cX6_restore 65 = .ok (.iload_n 2, 1) := by decide +kernel
theorem dX6_restore_66 : decode cX6_restore 66 = .ok (.invokevirtual 150, 3) := by decide +kernel
theorem dX6_restore_69 : decode cX6_restore 69 = .ok (.iastore, 1) := by decide +kernel
theorem dX6_restore_70 : decode cX6_restore 70 = .ok (.iinc 2 1, 3) := by decide +kernel
theorem dX6_restore_73 : decode cX6_restore 73 = .ok (.goto (-31), 3) := by decide +kernel
theorem dX6_restore_76 : decode cX6_restore 76 = .ok (.aload_n 0, 1) := by decide +kernel
theorem dX6_restore_77 : decode cX6_restore 77 = .ok (.getfield 34, 3) := by decide +kernel
theorem dX6_restore_80 : decode cX6_restore 80 = .ok (.iload_n 1, 1) := by decide +kernel
theorem dX6_restore_81 : decode cX6_restore 81 = .ok (.iconst 1, 1) := by decide +kernel
theorem dX6_restore_82 : decode cX6_restore 82 = .ok (.bastore, 1) := by decide +kernel
theorem dX6_restore_83 : decode cX6_restore 83 = .ok (.iinc 1 1, 3) := by decide +kernel
theorem dX6_restore_86 : decode cX6_restore 86 = .ok (.goto (-74), 3) := by decide +kernel
theorem dX6_restore_89 : decode cX6_restore 89 = .ok (.iconst 0, 1) := by decide +kernel
theorem dX6_restore_90 : decode cX6_restore 90 = .ok (.istore_n 1, 1) := by decide +kernel
theorem dX6_restore_91 : decode cX6_restore 91 = .ok (.iload_n 1, 1) := by decide +kernel
theorem dX6_restore_92 : decode cX6_restore 92 = .ok (.sipush 503, 3) := by decide +kernel
theorem dX6_restore_95 : decode cX6_restore 95 = .ok (.if_icmp .ge 21, 3) := by decide +kernel
theorem dX6_restore_98 : decode cX6_restore 98 = .ok (.aload_n 0, 1) := by decide +kernel
theorem dX6_restore_99 : decode cX6_restore 99 = .ok (.getfield 9, 3) := by decide +kernel
theorem dX6_restore_102 : decode cX6_restore 102 = .ok (.iload_n 1, 1) := by decide +kernel
theorem dX6_restore_103 : decode cX6_restore 103 = .ok (.aload_n 0, 1) := by decide +kernel
theorem dX6_restore_104 : decode cX6_restore 104 = .ok (.getfield 13, 3) := by decide +kernel
theorem dX6_restore_107 : decode cX6_restore 107 = .ok (.iload_n 1, 1) := by decide +kernel
theorem dX6_restore_108 : decode cX6_restore 108 = .ok (.iaload, 1) := by decide +kernel
theorem dX6_restore_109 : decode cX6_restore 109 = .ok (.iastore, 1) := by decide +kernel
theorem dX6_restore_110 : decode cX6_restore 110 = .ok (.iinc 1 1, 3) := by decide +kernel
theorem dX6_restore_113 : decode cX6_restore 113 = .ok (.goto (-22), 3) := by decide +kernel
theorem dX6_restore_116 : decode cX6_restore 116 = .ok (.aload_n 0, 1) := by decide +kernel
theorem dX6_restore_117 : decode cX6_restore 117 = .ok (.getfield 9, 3) := by decide +kernel
theorem dX6_restore_120 : decode cX6_restore 120 = .ok (.iconst 1, 1) := by decide +kernel
theorem dX6_restore_121 : decode cX6_restore 121 = .ok (.iaload, 1) := by decide +kernel
theorem dX6_restore_122 : decode cX6_restore 122 = .ok (.ireturn, 1) := by decide +kernel
theorem dX6_count_0 : decode cX6_count 0 = .ok (.iconst 0, 1) := by decide +kernel
theorem dX6_count_1 : decode cX6_count 1 = .ok (.istore_n 2, 1) := by decide +kernel
theorem dX6_count_2 : decode cX6_count 2 = .ok (.iload_n 1, 1) := by decide +kernel
theorem dX6_count_3 : decode cX6_count 3 = .ok (.tableswitch 177 0 5 #[37, 44, 51, 80, 87, 116], 37) := by decide +kernel
theorem dX6_count_40 : decode cX6_count 40 = .ok (.aload_n 0, 1) := by decide +kernel
theorem dX6_count_41 : decode cX6_count 41 = .ok (.getfield 9, 3) := by decide +kernel
theorem dX6_count_44 : decode cX6_count 44 = .ok (.iconst 0, 1) := by decide +kernel
theorem dX6_count_45 : decode cX6_count 45 = .ok (.iaload, 1) := by decide +kernel
theorem dX6_count_46 : decode cX6_count 46 = .ok (.ireturn, 1) := by decide +kernel
theorem dX6_count_47 : decode cX6_count 47 = .ok (.aload_n 0, 1) := by decide +kernel
theorem dX6_count_48 : decode cX6_count 48 = .ok (.getfield 9, 3) := by decide +kernel
theorem dX6_count_51 : decode cX6_count 51 = .ok (.iconst 1, 1) := by decide +kernel
theorem dX6_count_52 : decode cX6_count 52 = .ok (.iaload, 1) := by decide +kernel
theorem dX6_count_53 : decode cX6_count 53 = .ok (.ireturn, 1) := by decide +kernel
theorem dX6_count_54 : decode cX6_count 54 = .ok (.iconst 0, 1) := by decide +kernel
theorem dX6_count_55 : decode cX6_count 55 = .ok (.istore_n 3, 1) := by decide +kernel
theorem dX6_count_56 : decode cX6_count 56 = .ok (.iload_n 3, 1) := by decide +kernel
theorem dX6_count_57 : decode cX6_count 57 = .ok (.aload_n 0, 1) := by decide +kernel
theorem dX6_count_58 : decode cX6_count 58 = .ok (.getfield 9, 3) := by decide +kernel
theorem dX6_count_61 : decode cX6_count 61 = .ok (.iconst 1, 1) := by decide +kernel
theorem dX6_count_62 : decode cX6_count 62 = .ok (.iaload, 1) := by decide +kernel
theorem dX6_count_63 : decode cX6_count 63 = .ok (.if_icmp .ge 18, 3) := by decide +kernel
theorem dX6_count_66 : decode cX6_count 66 = .ok (.iload_n 2, 1) := by decide +kernel
theorem dX6_count_67 : decode cX6_count 67 = .ok (.aload_n 0, 1) := by decide +kernel
theorem dX6_count_68 : decode cX6_count 68 = .ok (.iload_n 3, 1) := by decide +kernel
theorem dX6_count_69 : decode cX6_count 69 = .ok (.iconst 3, 1) := by decide +kernel
theorem dX6_count_70 : decode cX6_count 70 = .ok (.invokevirtual 150, 3) := by decide +kernel
theorem dX6_count_73 : decode cX6_count 73 = .ok (.iadd, 1) := by decide +kernel
theorem dX6_count_74 : decode cX6_count 74 = .ok (.istore_n 2, 1) := by decide +kernel
theorem dX6_count_75 : decode cX6_count 75 = .ok (.iinc 3 1, 3) := by decide +kernel
theorem dX6_count_78 : decode cX6_count 78 = .ok (.goto (-22), 3) := by decide +kernel
theorem dX6_count_81 : decode cX6_count 81 = .ok (.iload_n 2, 1) := by decide +kernel
theorem dX6_count_82 : decode cX6_count 82 = .ok (.ireturn, 1) := by decide +kernel
theorem dX6_count_83 : decode cX6_count 83 = .ok (.aload_n 0, 1) := by decide +kernel
theorem dX6_count_84 : decode cX6_count 84 = .ok (.getfield 9, 3) := by decide +kernel
theorem dX6_count_87 : decode cX6_count 87 = .ok (.iconst 2, 1) := by decide +kernel
theorem dX6_count_88 : decode cX6_count 88 = .ok (.iaload, 1) := by decide +kernel
theorem dX6_count_89 : decode cX6_count 89 = .ok (.ireturn, 1) := by decide +kernel
theorem dX6_count_90 : decode cX6_count 90 = .ok (.iconst 0, 1) := by decide +kernel
theorem dX6_count_91 : decode cX6_count 91 = .ok (.istore_n 3, 1) := by decide +kernel
theorem dX6_count_92 : decode cX6_count 92 = .ok (.iload_n 3, 1) := by decide +kernel
theorem dX6_count_93 : decode cX6_count 93 = .ok (.aload_n 0, 1) := by decide +kernel
theorem dX6_count_94 : decode cX6_count 94 = .ok (.getfield 9, 3) := by decide +kernel
theorem dX6_count_97 : decode cX6_count 97 = .ok (.iconst 0, 1) := by decide +kernel
theorem dX6_count_98 : decode cX6_count 98 = .ok (.iaload, 1) := by decide +kernel
theorem dX6_count_99 : decode cX6_count 99 = .ok (.if_icmp .ge 18, 3) := by decide +kernel
theorem dX6_count_102 : decode cX6_count 102 = .ok (.iload_n 2, 1) := by decide +kernel
theorem dX6_count_103 : decode cX6_count 103 = .ok (.aload_n 0, 1) := by decide +kernel
theorem dX6_count_104 : decode cX6_count 104 = .ok (.iload_n 3, 1) := by decide +kernel
theorem dX6_count_105 : decode cX6_count 105 = .ok (.iconst 3, 1) := by decide +kernel
theorem dX6_count_106 : decode cX6_count 106 = .ok (.invokevirtual 108, 3) := by decide +kernel
theorem dX6_count_109 : decode cX6_count 109 = .ok (.iadd, 1) := by decide +kernel
theorem dX6_count_110 : decode cX6_count 110 = .ok (.istore_n 2, 1) := by decide +kernel
theorem dX6_count_111 : decode cX6_count 111 = .ok (.iinc 3 1, 3) := by decide +kernel
theorem dX6_count_114 : decode cX6_count 114 = .ok (.goto (-22), 3) := by decide +kernel
theorem dX6_count_117 : decode cX6_count 117 = .ok (.iload_n 2, 1) := by decide +kernel
theorem dX6_count_118 : decode cX6_count 118 = .ok (.ireturn, 1) := by decide +kernel
theorem dX6_count_119 : decode cX6_count 119 = .ok (.iconst 0, 1) := by decide +kernel
theorem dX6_count_120 : decode cX6_count 120 = .ok (.istore_n 3, 1) := by decide +kernel
theorem dX6_count_121 : decode cX6_count 121 = .ok (.iload_n 3, 1) := by decide +kernel
theorem dX6_count_122 : decode cX6_count 122 = .ok (.aload_n 0, 1) := by decide +kernel
theorem dX6_count_123 : decode cX6_count 123 = .ok (.getfield 9, 3) := by decide +kernel
theorem dX6_count_126 : decode cX6_count 126 = .ok (.iconst 0, 1) := by decide +kernel
theorem dX6_count_127 : decode cX6_count 127 = .ok (.iaload, 1) := by decide +kernel
theorem dX6_count_128 : decode cX6_count 128 = .ok (.if_icmp .ge 50, 3) := by decide +kernel
theorem dX6_count_131 : decode cX6_count 131 = .ok (.iconst 0, 1) := by decide +kernel
theorem dX6_count_132 : decode cX6_count 132 = .ok (.istore 4, 2) := by decide +kernel
theorem dX6_count_134 : decode cX6_count 134 = .ok (.iload 4, 2) := by decide +kernel
theorem dX6_count_136 : decode cX6_count 136 = .ok (.iload_n 3, 1) := by decide +kernel
theorem dX6_count_137 : decode cX6_count 137 = .ok (.if_icmp .ge 35, 3) := by decide +kernel
theorem dX6_count_140 : decode cX6_count 140 = .ok (.iload_n 2, 1) := by decide +kernel
theorem dX6_count_141 : decode cX6_count 141 = .ok (.aload_n 0, 1) := by decide +kernel
theorem dX6_count_142 : decode cX6_count 142 = .ok (.getfield 9, 3) := by decide +kernel
theorem dX6_count_145 : decode cX6_count 145 = .ok (.bipush 43, 2) := by decide +kernel
theorem dX6_count_147 : decode cX6_count 147 = .ok (.bipush 10, 2) := by decide +kernel
theorem dX6_count_149 : decode cX6_count 149 = .ok (.iload_n 3, 1) := by decide +kernel
theorem dX6_count_150 : decode cX6_count 150 = .ok (.imul, 1) := by decide +kernel
theorem dX6_count_151 : decode cX6_count 151 = .ok (.iadd, 1) := by decide +kernel
theorem dX6_count_152 : decode cX6_count 152 = .ok (.iload 4, 2) := by decide +kernel
theorem dX6_count_154 : decode cX6_count 154 = .ok (.iadd, 1) := by decide +kernel
theorem dX6_count_155 : decode cX6_count 155 = .ok (.iaload, 1) := by decide +kernel
theorem dX6_count_156 : decode cX6_count 156 = .ok (.ifCond .le 7, 3) := by decide +kernel
theorem dX6_count_159 : decode cX6_count 159 = .ok (.iconst 1, 1) := by decide +kernel
theorem dX6_count_160 : decode cX6_count 160 = .ok (.goto 4, 3) := by decide +kernel
theorem dX6_count_163 : decode cX6_count 163 = .ok (.iconst 0, 1) := by decide +kernel
theorem dX6_count_164 : decode cX6_count 164 = .ok (.iadd, 1) := by decide +kernel
theorem dX6_count_165 : decode cX6_count 165 = .ok (.istore_n 2, 1) := by decide +kernel
theorem dX6_count_166 : decode cX6_count 166 = .ok (.iinc 4 1, 3) := by decide +kernel
theorem dX6_count_169 : decode cX6_count 169 = .ok (.goto (-35), 3) := by decide +kernel
theorem dX6_count_172 : decode cX6_count 172 = .ok (.iinc 3 1, 3) := by decide +kernel
theorem dX6_count_175 : decode cX6_count 175 = .ok (.goto (-54), 3) := by decide +kernel
theorem dX6_count_178 : decode cX6_count 178 = .ok (.iload_n 2, 1) := by decide +kernel
theorem dX6_count_179 : decode cX6_count 179 = .ok (.ireturn, 1) := by decide +kernel
theorem dX6_count_180 : decode cX6_count 180 = .ok (.iconst (-1), 1) := by decide +kernel
theorem dX6_count_181 : decode cX6_count 181 = .ok (.ireturn, 1) := by decide +kernel
theorem dX6_keep_0 : decode cX6_keep 0 = .ok (.iload_n 1, 1) := by decide +kernel
theorem dX6_keep_1 : decode cX6_keep 1 = .ok (.invokestatic 90, 3) := by decide +kernel
theorem dX6_keep_4 : decode cX6_keep 4 = .ok (.ifCond .eq 26, 3) := by decide +kernel
theorem dX6_keep_7 : decode cX6_keep 7 = .ok (.iload_n 2, 1) := by decide +kernel
theorem dX6_keep_8 : decode cX6_keep 8 = .ok (.i2l, 1) := by decide +kernel
theorem dX6_keep_9 : decode cX6_keep 9 = .ok (.lconst 0, 1) := by decide +kernel
theorem dX6_keep_10 : decode cX6_keep 10 = .ok (.lconst 1, 1) := by decide +kernel
theorem dX6_keep_11 : decode cX6_keep 11 = .ok (.invokestatic 48, 3) := by decide +kernel
theorem dX6_keep_14 : decode cX6_keep 14 = .ok (.ifCond .eq 16, 3) := by decide +kernel
theorem dX6_keep_17 : decode cX6_keep 17 = .ok (.iload_n 2, 1) := by decide +kernel
theorem dX6_keep_18 : decode cX6_keep 18 = .ok (.iconst 1, 1) := by decide +kernel
theorem dX6_keep_19 : decode cX6_keep 19 = .ok (.if_icmp .ne 13, 3) := by decide +kernel
theorem dX6_keep_22 : decode cX6_keep 22 = .ok (.aload_n 0, 1) := by decide +kernel
theorem dX6_keep_23 : decode cX6_keep 23 = .ok (.iload_n 3, 1) := by decide +kernel
theorem dX6_keep_24 : decode cX6_keep 24 = .ok (.invokevirtual 157, 3) := by decide +kernel
theorem dX6_keep_27 : decode cX6_keep 27 = .ok (.ifCond .ne 5, 3) := by decide +kernel
theorem dX6_keep_30 : decode cX6_keep 30 = .ok (.iconst (-1), 1) := by decide +kernel
theorem dX6_keep_31 : decode cX6_keep 31 = .ok (.ireturn, 1) := by decide +kernel
theorem dX6_keep_32 : decode cX6_keep 32 = .ok (.aload_n 0, 1) := by decide +kernel
theorem dX6_keep_33 : decode cX6_keep 33 = .ok (.getfield 16, 3) := by decide +kernel
theorem dX6_keep_36 : decode cX6_keep 36 = .ok (.iload_n 1, 1) := by decide +kernel
theorem dX6_keep_37 : decode cX6_keep 37 = .ok (.iload_n 2, 1) := by decide +kernel
theorem dX6_keep_38 : decode cX6_keep 38 = .ok (.iastore, 1) := by decide +kernel
theorem dX6_keep_39 : decode cX6_keep 39 = .ok (.aload_n 0, 1) := by decide +kernel
theorem dX6_keep_40 : decode cX6_keep 40 = .ok (.getfield 28, 3) := by decide +kernel
theorem dX6_keep_43 : decode cX6_keep 43 = .ok (.iload_n 1, 1) := by decide +kernel
theorem dX6_keep_44 : decode cX6_keep 44 = .ok (.iload_n 3, 1) := by decide +kernel
theorem dX6_keep_45 : decode cX6_keep 45 = .ok (.iastore, 1) := by decide +kernel
theorem dX6_keep_46 : decode cX6_keep 46 = .ok (.aload_n 0, 1) := by decide +kernel
theorem dX6_keep_47 : decode cX6_keep 47 = .ok (.getfield 34, 3) := by decide +kernel
theorem dX6_keep_50 : decode cX6_keep 50 = .ok (.iload_n 1, 1) := by decide +kernel
theorem dX6_keep_51 : decode cX6_keep 51 = .ok (.iconst 0, 1) := by decide +kernel
theorem dX6_keep_52 : decode cX6_keep 52 = .ok (.bastore, 1) := by decide +kernel
theorem dX6_keep_53 : decode cX6_keep 53 = .ok (.iconst 0, 1) := by decide +kernel
theorem dX6_keep_54 : decode cX6_keep 54 = .ok (.ireturn, 1) := by decide +kernel
theorem dX6_row_0 : decode cX6_row 0 = .ok (.iload_n 1, 1) := by decide +kernel
theorem dX6_row_1 : decode cX6_row 1 = .ok (.invokestatic 90, 3) := by decide +kernel
theorem dX6_row_4 : decode cX6_row 4 = .ok (.ifCond .eq 21, 3) := by decide +kernel
theorem dX6_row_7 : decode cX6_row 7 = .ok (.iload_n 2, 1) := by decide +kernel
theorem dX6_row_8 : decode cX6_row 8 = .ok (.i2l, 1) := by decide +kernel
theorem dX6_row_9 : decode cX6_row 9 = .ok (.lconst 0, 1) := by decide +kernel
theorem dX6_row_10 : decode cX6_row 10 = .ok (.ldc2_w 242, 3) := by decide +kernel
theorem dX6_row_13 : decode cX6_row 13 = .ok (.invokestatic 48, 3) := by decide +kernel
theorem dX6_row_16 : decode cX6_row 16 = .ok (.ifCond .eq 9, 3) := by decide +kernel
theorem dX6_row_19 : decode cX6_row 19 = .ok (.iload_n 3, 1) := by decide +kernel
theorem dX6_row_20 : decode cX6_row 20 = .ok (.bipush 100, 2) := by decide +kernel
theorem dX6_row_22 : decode cX6_row 22 = .ok (.if_icmp .le 5, 3) := by decide +kernel
theorem dX6_row_25 : decode cX6_row 25 = .ok (.iconst (-1), 1) := by decide +kernel
theorem dX6_row_26 : decode cX6_row 26 = .ok (.ireturn, 1) := by decide +kernel
theorem dX6_row_27 : decode cX6_row 27 = .ok (.iload_n 3, 1) := by decide +kernel
theorem dX6_row_28 : decode cX6_row 28 = .ok (.ifCond .ge 6, 3) := by decide +kernel
theorem dX6_row_31 : decode cX6_row 31 = .ok (.bipush (-14), 2) := by decide +kernel
theorem dX6_row_33 : decode cX6_row 33 = .ok (.ireturn, 1) := by decide +kernel
theorem dX6_row_34 : decode cX6_row 34 = .ok (.aload_n 0, 1) := by decide +kernel
theorem dX6_row_35 : decode cX6_row 35 = .ok (.getfield 16, 3) := by decide +kernel
theorem dX6_row_38 : decode cX6_row 38 = .ok (.iload_n 1, 1) := by decide +kernel
theorem dX6_row_39 : decode cX6_row 39 = .ok (.iconst 2, 1) := by decide +kernel
theorem dX6_row_40 : decode cX6_row 40 = .ok (.iastore, 1) := by decide +kernel
theorem dX6_row_41 : decode cX6_row 41 = .ok (.aload_n 0, 1) := by decide +kernel
theorem dX6_row_42 : decode cX6_row 42 = .ok (.getfield 19, 3) := by decide +kernel
theorem dX6_row_45 : decode cX6_row 45 = .ok (.iload_n 1, 1) := by decide +kernel
theorem dX6_row_46 : decode cX6_row 46 = .ok (.iload_n 2, 1) := by decide +kernel
theorem dX6_row_47 : decode cX6_row 47 = .ok (.iastore, 1) := by decide +kernel
theorem dX6_row_48 : decode cX6_row 48 = .ok (.aload_n 0, 1) := by decide +kernel
theorem dX6_row_49 : decode cX6_row 49 = .ok (.getfield 22, 3) := by decide +kernel
theorem dX6_row_52 : decode cX6_row 52 = .ok (.iload_n 1, 1) := by decide +kernel
theorem dX6_row_53 : decode cX6_row 53 = .ok (.iload_n 3, 1) := by decide +kernel
theorem dX6_row_54 : decode cX6_row 54 = .ok (.iastore, 1) := by decide +kernel
theorem dX6_row_55 : decode cX6_row 55 = .ok (.iconst 0, 1) := by decide +kernel
theorem dX6_row_56 : decode cX6_row 56 = .ok (.istore 4, 2) := by decide +kernel
theorem dX6_row_58 : decode cX6_row 58 = .ok (.iload 4, 2) := by decide +kernel
theorem dX6_row_60 : decode cX6_row 60 = .ok (.bipush 100, 2) := by decide +kernel
theorem dX6_row_62 : decode cX6_row 62 = .ok (.if_icmp .ge 22, 3) := by decide +kernel
theorem dX6_row_65 : decode cX6_row 65 = .ok (.aload_n 0, 1) := by decide +kernel
theorem dX6_row_66 : decode cX6_row 66 = .ok (.getfield 25, 3) := by decide +kernel
theorem dX6_row_69 : decode cX6_row 69 = .ok (.bipush 100, 2) := by decide +kernel
theorem dX6_row_71 : decode cX6_row 71 = .ok (.iload_n 1, 1) := by decide +kernel
theorem dX6_row_72 : decode cX6_row 72 = .ok (.imul, 1) := by decide +kernel
theorem dX6_row_73 : decode cX6_row 73 = .ok (.iload 4, 2) := by decide +kernel
theorem dX6_row_75 : decode cX6_row 75 = .ok (.iadd, 1) := by decide +kernel
theorem dX6_row_76 : decode cX6_row 76 = .ok (.iconst 0, 1) := by decide +kernel
theorem dX6_row_77 : decode cX6_row 77 = .ok (.iastore, 1) := by decide +kernel
theorem dX6_row_78 : decode cX6_row 78 = .ok (.iinc 4 1, 3) := by decide +kernel
theorem dX6_row_81 : decode cX6_row 81 = .ok (.goto (-23), 3) := by decide +kernel
theorem dX6_row_84 : decode cX6_row 84 = .ok (.iconst 0, 1) := by decide +kernel
theorem dX6_row_85 : decode cX6_row 85 = .ok (.ireturn, 1) := by decide +kernel
theorem dX6_put_0 : decode cX6_put 0 = .ok (.aload_n 0, 1) := by decide +kernel
theorem dX6_put_1 : decode cX6_put 1 = .ok (.iload_n 1, 1) := by decide +kernel
theorem dX6_put_2 : decode cX6_put 2 = .ok (.iconst (-1), 1) := by decide +kernel
theorem dX6_put_3 : decode cX6_put 3 = .ok (.invokevirtual 93, 3) := by decide +kernel
theorem dX6_put_6 : decode cX6_put 6 = .ok (.istore 4, 2) := by decide +kernel
theorem dX6_put_8 : decode cX6_put 8 = .ok (.iload 4, 2) := by decide +kernel
theorem dX6_put_10 : decode cX6_put 10 = .ok (.ifCond .eq 6, 3) := by decide +kernel
theorem dX6_put_13 : decode cX6_put 13 = .ok (.iload 4, 2) := by decide +kernel
theorem dX6_put_15 : decode cX6_put 15 = .ok (.ireturn, 1) := by decide +kernel
theorem dX6_put_16 : decode cX6_put 16 = .ok (.iload_n 2, 1) := by decide +kernel
theorem dX6_put_17 : decode cX6_put 17 = .ok (.i2l, 1) := by decide +kernel
theorem dX6_put_18 : decode cX6_put 18 = .ok (.lconst 0, 1) := by decide +kernel
theorem dX6_put_19 : decode cX6_put 19 = .ok (.aload_n 0, 1) := by decide +kernel
theorem dX6_put_20 : decode cX6_put 20 = .ok (.getfield 22, 3) := by decide +kernel
theorem dX6_put_23 : decode cX6_put 23 = .ok (.iload_n 1, 1) := by decide +kernel
theorem dX6_put_24 : decode cX6_put 24 = .ok (.iaload, 1) := by decide +kernel
theorem dX6_put_25 : decode cX6_put 25 = .ok (.iconst 1, 1) := by decide +kernel
theorem dX6_put_26 : decode cX6_put 26 = .ok (.isub, 1) := by decide +kernel
theorem dX6_put_27 : decode cX6_put 27 = .ok (.i2l, 1) := by decide +kernel
theorem dX6_put_28 : decode cX6_put 28 = .ok (.invokestatic 48, 3) := by decide +kernel
theorem dX6_put_31 : decode cX6_put 31 = .ok (.ifCond .ne 6, 3) := by decide +kernel
theorem dX6_put_34 : decode cX6_put 34 = .ok (.bipush (-13), 2) := by decide +kernel
theorem dX6_put_36 : decode cX6_put 36 = .ok (.ireturn, 1) := by decide +kernel
theorem dX6_put_37 : decode cX6_put 37 = .ok (.aload_n 0, 1) := by decide +kernel
theorem dX6_put_38 : decode cX6_put 38 = .ok (.getfield 25, 3) := by decide +kernel
theorem dX6_put_41 : decode cX6_put 41 = .ok (.bipush 100, 2) := by decide +kernel
theorem dX6_put_43 : decode cX6_put 43 = .ok (.iload_n 1, 1) := by decide +kernel
theorem dX6_put_44 : decode cX6_put 44 = .ok (.imul, 1) := by decide +kernel
theorem dX6_put_45 : decode cX6_put 45 = .ok (.iload_n 2, 1) := by decide +kernel
theorem dX6_put_46 : decode cX6_put 46 = .ok (.iadd, 1) := by decide +kernel
theorem dX6_put_47 : decode cX6_put 47 = .ok (.aload_n 0, 1) := by decide +kernel
theorem dX6_put_48 : decode cX6_put 48 = .ok (.getfield 19, 3) := by decide +kernel
theorem dX6_put_51 : decode cX6_put 51 = .ok (.iload_n 1, 1) := by decide +kernel
theorem dX6_put_52 : decode cX6_put 52 = .ok (.iaload, 1) := by decide +kernel
theorem dX6_put_53 : decode cX6_put 53 = .ok (.ifCond .ne 8, 3) := by decide +kernel
theorem dX6_put_56 : decode cX6_put 56 = .ok (.iload_n 3, 1) := by decide +kernel
theorem dX6_put_57 : decode cX6_put 57 = .ok (.i2b, 1) := by decide +kernel
theorem dX6_put_58 : decode cX6_put 58 = .ok (.goto 19, 3) := by decide +kernel
theorem dX6_put_61 : decode cX6_put 61 = .ok (.aload_n 0, 1) := by decide +kernel
theorem dX6_put_62 : decode cX6_put 62 = .ok (.getfield 19, 3) := by decide +kernel
theorem dX6_put_65 : decode cX6_put 65 = .ok (.iload_n 1, 1) := by decide +kernel
theorem dX6_put_66 : decode cX6_put 66 = .ok (.iaload, 1) := by decide +kernel
theorem dX6_put_67 : decode cX6_put 67 = .ok (.iconst 1, 1) := by decide +kernel
theorem dX6_put_68 : decode cX6_put 68 = .ok (.if_icmp .ne 8, 3) := by decide +kernel
theorem dX6_put_71 : decode cX6_put 71 = .ok (.iload_n 3, 1) := by decide +kernel
theorem dX6_put_72 : decode cX6_put 72 = .ok (.i2s, 1) := by decide +kernel
theorem dX6_put_73 : decode cX6_put 73 = .ok (.goto 4, 3) := by decide +kernel
theorem dX6_put_76 : decode cX6_put 76 = .ok (.iload_n 3, 1) := by decide +kernel
theorem dX6_put_77 : decode cX6_put 77 = .ok (.iastore, 1) := by decide +kernel
theorem dX6_put_78 : decode cX6_put 78 = .ok (.iconst 0, 1) := by decide +kernel
theorem dX6_put_79 : decode cX6_put 79 = .ok (.ireturn, 1) := by decide +kernel
theorem dX6_element_0 : decode cX6_element 0 = .ok (.aload_n 0, 1) := by decide +kernel
theorem dX6_element_1 : decode cX6_element 1 = .ok (.iload_n 1, 1) := by decide +kernel
theorem dX6_element_2 : decode cX6_element 2 = .ok (.invokestatic 90, 3) := by decide +kernel
theorem dX6_element_5 : decode cX6_element 5 = .ok (.ifCond .ne 7, 3) := by decide +kernel
theorem dX6_element_8 : decode cX6_element 8 = .ok (.iconst 1, 1) := by decide +kernel
theorem dX6_element_9 : decode cX6_element 9 = .ok (.goto 36, 3) := by decide +kernel
theorem dX6_element_12 : decode cX6_element 12 = .ok (.aload_n 0, 1) := by decide +kernel
theorem dX6_element_13 : decode cX6_element 13 = .ok (.getfield 16, 3) := by decide +kernel
theorem dX6_element_16 : decode cX6_element 16 = .ok (.iload_n 1, 1) := by decide +kernel
theorem dX6_element_17 : decode cX6_element 17 = .ok (.iaload, 1) := by decide +kernel
theorem dX6_element_18 : decode cX6_element 18 = .ok (.iconst 2, 1) := by decide +kernel
theorem dX6_element_19 : decode cX6_element 19 = .ok (.if_icmp .ne 21, 3) := by decide +kernel
theorem dX6_element_22 : decode cX6_element 22 = .ok (.iload_n 2, 1) := by decide +kernel
theorem dX6_element_23 : decode cX6_element 23 = .ok (.i2l, 1) := by decide +kernel
theorem dX6_element_24 : decode cX6_element 24 = .ok (.lconst 0, 1) := by decide +kernel
theorem dX6_element_25 : decode cX6_element 25 = .ok (.aload_n 0, 1) := by decide +kernel
theorem dX6_element_26 : decode cX6_element 26 = .ok (.getfield 22, 3) := by decide +kernel
theorem dX6_element_29 : decode cX6_element 29 = .ok (.iload_n 1, 1) := by decide +kernel
theorem dX6_element_30 : decode cX6_element 30 = .ok (.iaload, 1) := by decide +kernel
theorem dX6_element_31 : decode cX6_element 31 = .ok (.iconst 1, 1) := by decide +kernel
theorem dX6_element_32 : decode cX6_element 32 = .ok (.isub, 1) := by decide +kernel
theorem dX6_element_33 : decode cX6_element 33 = .ok (.i2l, 1) := by decide +kernel
theorem dX6_element_34 : decode cX6_element 34 = .ok (.invokestatic 48, 3) := by decide +kernel
theorem dX6_element_37 : decode cX6_element 37 = .ok (.ifCond .ne 7, 3) := by decide +kernel
theorem dX6_element_40 : decode cX6_element 40 = .ok (.iconst 2, 1) := by decide +kernel
theorem dX6_element_41 : decode cX6_element 41 = .ok (.goto 4, 3) := by decide +kernel
theorem dX6_element_44 : decode cX6_element 44 = .ok (.iconst 0, 1) := by decide +kernel
theorem dX6_element_45 : decode cX6_element 45 = .ok (.putfield 44, 3) := by decide +kernel
theorem dX6_element_48 : decode cX6_element 48 = .ok (.aload_n 0, 1) := by decide +kernel
theorem dX6_element_49 : decode cX6_element 49 = .ok (.getfield 44, 3) := by decide +kernel
theorem dX6_element_52 : decode cX6_element 52 = .ok (.ifCond .ne 18, 3) := by decide +kernel
theorem dX6_element_55 : decode cX6_element 55 = .ok (.aload_n 0, 1) := by decide +kernel
theorem dX6_element_56 : decode cX6_element 56 = .ok (.getfield 25, 3) := by decide +kernel
theorem dX6_element_59 : decode cX6_element 59 = .ok (.bipush 100, 2) := by decide +kernel
theorem dX6_element_61 : decode cX6_element 61 = .ok (.iload_n 1, 1) := by decide +kernel
theorem dX6_element_62 : decode cX6_element 62 = .ok (.imul, 1) := by decide +kernel
theorem dX6_element_63 : decode cX6_element 63 = .ok (.iload_n 2, 1) := by decide +kernel
theorem dX6_element_64 : decode cX6_element 64 = .ok (.iadd, 1) := by decide +kernel
theorem dX6_element_65 : decode cX6_element 65 = .ok (.iaload, 1) := by decide +kernel
theorem dX6_element_66 : decode cX6_element 66 = .ok (.i2l, 1) := by decide +kernel
theorem dX6_element_67 : decode cX6_element 67 = .ok (.goto 4, 3) := by decide +kernel
theorem dX6_element_70 : decode cX6_element 70 = .ok (.lconst 0, 1) := by decide +kernel
theorem dX6_element_71 : decode cX6_element 71 = .ok (.lreturn, 1) := by decide +kernel
theorem dX6_copy_0 : decode cX6_copy 0 = .ok (.iload_n 1, 1) := by decide +kernel
theorem dX6_copy_1 : decode cX6_copy 1 = .ok (.invokestatic 90, 3) := by decide +kernel
theorem dX6_copy_4 : decode cX6_copy 4 = .ok (.ifCond .eq 10, 3) := by decide +kernel
theorem dX6_copy_7 : decode cX6_copy 7 = .ok (.iload_n 3, 1) := by decide +kernel
theorem dX6_copy_8 : decode cX6_copy 8 = .ok (.invokestatic 90, 3) := by decide +kernel
theorem dX6_copy_11 : decode cX6_copy 11 = .ok (.ifCond .ne 5, 3) := by decide +kernel
theorem dX6_copy_14 : decode cX6_copy 14 = .ok (.iconst (-1), 1) := by decide +kernel
theorem dX6_copy_15 : decode cX6_copy 15 = .ok (.ireturn, 1) := by decide +kernel
theorem dX6_copy_16 : decode cX6_copy 16 = .ok (.aload_n 0, 1) := by decide +kernel
theorem dX6_copy_17 : decode cX6_copy 17 = .ok (.getfield 16, 3) := by decide +kernel
theorem dX6_copy_20 : decode cX6_copy 20 = .ok (.iload_n 1, 1) := by decide +kernel
theorem dX6_copy_21 : decode cX6_copy 21 = .ok (.iaload, 1) := by decide +kernel
theorem dX6_copy_22 : decode cX6_copy 22 = .ok (.ifCond .eq 12, 3) := by decide +kernel
theorem dX6_copy_25 : decode cX6_copy 25 = .ok (.aload_n 0, 1) := by decide +kernel
theorem dX6_copy_26 : decode cX6_copy 26 = .ok (.getfield 16, 3) := by decide +kernel
theorem dX6_copy_29 : decode cX6_copy 29 = .ok (.iload_n 3, 1) := by decide +kernel
theorem dX6_copy_30 : decode cX6_copy 30 = .ok (.iaload, 1) := by decide +kernel
theorem dX6_copy_31 : decode cX6_copy 31 = .ok (.ifCond .ne 6, 3) := by decide +kernel
theorem dX6_copy_34 : decode cX6_copy 34 = .ok (.bipush (-11), 2) := by decide +kernel
theorem dX6_copy_36 : decode cX6_copy 36 = .ok (.ireturn, 1) := by decide +kernel
theorem dX6_copy_37 : decode cX6_copy 37 = .ok (.aload_n 0, 1) := by decide +kernel
theorem dX6_copy_38 : decode cX6_copy 38 = .ok (.getfield 16, 3) := by decide +kernel
theorem dX6_copy_41 : decode cX6_copy 41 = .ok (.iload_n 1, 1) := by decide +kernel
theorem dX6_copy_42 : decode cX6_copy 42 = .ok (.iaload, 1) := by decide +kernel
theorem dX6_copy_43 : decode cX6_copy 43 = .ok (.iconst 2, 1) := by decide +kernel
theorem dX6_copy_44 : decode cX6_copy 44 = .ok (.if_icmp .ne 28, 3) := by decide +kernel
theorem dX6_copy_47 : decode cX6_copy 47 = .ok (.aload_n 0, 1) := by decide +kernel
theorem dX6_copy_48 : decode cX6_copy 48 = .ok (.getfield 16, 3) := by decide +kernel
theorem dX6_copy_51 : decode cX6_copy 51 = .ok (.iload_n 3, 1) := by decide +kernel
theorem dX6_copy_52 : decode cX6_copy 52 = .ok (.iaload, 1) := by decide +kernel
theorem dX6_copy_53 : decode cX6_copy 53 = .ok (.iconst 2, 1) := by decide +kernel
theorem dX6_copy_54 : decode cX6_copy 54 = .ok (.if_icmp .ne 18, 3) := by decide +kernel
theorem dX6_copy_57 : decode cX6_copy 57 = .ok (.aload_n 0, 1) := by decide +kernel
theorem dX6_copy_58 : decode cX6_copy 58 = .ok (.getfield 19, 3) := by decide +kernel
theorem dX6_copy_61 : decode cX6_copy 61 = .ok (.iload_n 1, 1) := by decide +kernel
theorem dX6_copy_62 : decode cX6_copy 62 = .ok (.iaload, 1) := by decide +kernel
theorem dX6_copy_63 : decode cX6_copy 63 = .ok (.aload_n 0, 1) := by decide +kernel
theorem dX6_copy_64 : decode cX6_copy 64 = .ok (.getfield 19, 3) := by decide +kernel
theorem dX6_copy_67 : decode cX6_copy 67 = .ok (.iload_n 3, 1) := by decide +kernel
theorem dX6_copy_68 : decode cX6_copy 68 = .ok (.iaload, 1) := by decide +kernel
theorem dX6_copy_69 : decode cX6_copy 69 = .ok (.if_icmp .eq 6, 3) := by decide +kernel
theorem dX6_copy_72 : decode cX6_copy 72 = .ok (.bipush (-12), 2) := by decide +kernel
theorem dX6_copy_74 : decode cX6_copy 74 = .ok (.ireturn, 1) := by decide +kernel
theorem dX6_copy_75 : decode cX6_copy 75 = .ok (.iload 5, 2) := by decide +kernel
theorem dX6_copy_77 : decode cX6_copy 77 = .ok (.ifCond .lt 39, 3) := by decide +kernel
theorem dX6_copy_80 : decode cX6_copy 80 = .ok (.iload_n 2, 1) := by decide +kernel
theorem dX6_copy_81 : decode cX6_copy 81 = .ok (.ifCond .lt 35, 3) := by decide +kernel
theorem dX6_copy_84 : decode cX6_copy 84 = .ok (.iload 4, 2) := by decide +kernel
theorem dX6_copy_86 : decode cX6_copy 86 = .ok (.ifCond .lt 30, 3) := by decide +kernel
theorem dX6_copy_89 : decode cX6_copy 89 = .ok (.iload 5, 2) := by decide +kernel
theorem dX6_copy_91 : decode cX6_copy 91 = .ok (.aload_n 0, 1) := by decide +kernel
theorem dX6_copy_92 : decode cX6_copy 92 = .ok (.getfield 22, 3) := by decide +kernel
theorem dX6_copy_95 : decode cX6_copy 95 = .ok (.iload_n 1, 1) := by decide +kernel
theorem dX6_copy_96 : decode cX6_copy 96 = .ok (.iaload, 1) := by decide +kernel
theorem dX6_copy_97 : decode cX6_copy 97 = .ok (.iload_n 2, 1) := by decide +kernel
theorem dX6_copy_98 : decode cX6_copy 98 = .ok (.isub, 1) := by decide +kernel
theorem dX6_copy_99 : decode cX6_copy 99 = .ok (.if_icmp .gt 17, 3) := by decide +kernel
theorem dX6_copy_102 : decode cX6_copy 102 = .ok (.iload 5, 2) := by decide +kernel
theorem dX6_copy_104 : decode cX6_copy 104 = .ok (.aload_n 0, 1) := by decide +kernel
theorem dX6_copy_105 : decode cX6_copy 105 = .ok (.getfield 22, 3) := by decide +kernel
theorem dX6_copy_108 : decode cX6_copy 108 = .ok (.iload_n 3, 1) := by decide +kernel
theorem dX6_copy_109 : decode cX6_copy 109 = .ok (.iaload, 1) := by decide +kernel
theorem dX6_copy_110 : decode cX6_copy 110 = .ok (.iload 4, 2) := by decide +kernel
theorem dX6_copy_112 : decode cX6_copy 112 = .ok (.isub, 1) := by decide +kernel
theorem dX6_copy_113 : decode cX6_copy 113 = .ok (.if_icmp .le 6, 3) := by decide +kernel
theorem dX6_copy_116 : decode cX6_copy 116 = .ok (.bipush (-13), 2) := by decide +kernel
theorem dX6_copy_118 : decode cX6_copy 118 = .ok (.ireturn, 1) := by decide +kernel
theorem dX6_copy_119 : decode cX6_copy 119 = .ok (.iconst 0, 1) := by decide +kernel
theorem dX6_copy_120 : decode cX6_copy 120 = .ok (.istore 6, 2) := by decide +kernel
theorem dX6_copy_122 : decode cX6_copy 122 = .ok (.iload 6, 2) := by decide +kernel
theorem dX6_copy_124 : decode cX6_copy 124 = .ok (.iload 5, 2) := by decide +kernel
theorem dX6_copy_126 : decode cX6_copy 126 = .ok (.if_icmp .ge 58, 3) := by decide +kernel
theorem dX6_copy_129 : decode cX6_copy 129 = .ok (.iload_n 2, 1) := by decide +kernel
theorem dX6_copy_130 : decode cX6_copy 130 = .ok (.iload 4, 2) := by decide +kernel
theorem dX6_copy_132 : decode cX6_copy 132 = .ok (.if_icmp .le 8, 3) := by decide +kernel
theorem dX6_copy_135 : decode cX6_copy 135 = .ok (.iload 6, 2) := by decide +kernel
theorem dX6_copy_137 : decode cX6_copy 137 = .ok (.goto 10, 3) := by decide +kernel
theorem dX6_copy_140 : decode cX6_copy 140 = .ok (.iload 5, 2) := by decide +kernel
theorem dX6_copy_142 : decode cX6_copy 142 = .ok (.iconst 1, 1) := by decide +kernel
theorem dX6_copy_143 : decode cX6_copy 143 = .ok (.isub, 1) := by decide +kernel
theorem dX6_copy_144 : decode cX6_copy 144 = .ok (.iload 6, 2) := by decide +kernel
theorem dX6_copy_146 : decode cX6_copy 146 = .ok (.isub, 1) := by decide +kernel
theorem dX6_copy_147 : decode cX6_copy 147 = .ok (.istore 7, 2) := by decide +kernel
theorem dX6_copy_149 : decode cX6_copy 149 = .ok (.aload_n 0, 1) := by decide +kernel
theorem dX6_copy_150 : decode cX6_copy 150 = .ok (.getfield 25, 3) := by decide +kernel
theorem dX6_copy_153 : decode cX6_copy 153 = .ok (.bipush 100, 2) := by decide +kernel
theorem dX6_copy_155 : decode cX6_copy 155 = .ok (.iload_n 3, 1) := by decide +kernel
theorem dX6_copy_156 : decode cX6_copy 156 = .ok (.imul, 1) := by decide +kernel
theorem dX6_copy_157 : decode cX6_copy 157 = .ok (.iload 4, 2) := by decide +kernel
theorem dX6_copy_159 : decode cX6_copy 159 = .ok (.iadd, 1) := by decide +kernel
theorem dX6_copy_160 : decode cX6_copy 160 = .ok (.iload 7, 2) := by decide +kernel
theorem dX6_copy_162 : decode cX6_copy 162 = .ok (.iadd, 1) := by decide +kernel
theorem dX6_copy_163 : decode cX6_copy 163 = .ok (.aload_n 0, 1) := by decide +kernel
theorem dX6_copy_164 : decode cX6_copy 164 = .ok (.getfield 25, 3) := by decide +kernel
theorem dX6_copy_167 : decode cX6_copy 167 = .ok (.bipush 100, 2) := by decide +kernel
theorem dX6_copy_169 : decode cX6_copy 169 = .ok (.iload_n 1, 1) := by decide +kernel
theorem dX6_copy_170 : decode cX6_copy 170 = .ok (.imul, 1) := by decide +kernel
theorem dX6_copy_171 : decode cX6_copy 171 = .ok (.iload_n 2, 1) := by decide +kernel
theorem dX6_copy_172 : decode cX6_copy 172 = .ok (.iadd, 1) := by decide +kernel
theorem dX6_copy_173 : decode cX6_copy 173 = .ok (.iload 7, 2) := by decide +kernel
theorem dX6_copy_175 : decode cX6_copy 175 = .ok (.iadd, 1) := by decide +kernel
theorem dX6_copy_176 : decode cX6_copy 176 = .ok (.iaload, 1) := by decide +kernel
theorem dX6_copy_177 : decode cX6_copy 177 = .ok (.iastore, 1) := by decide +kernel
theorem dX6_copy_178 : decode cX6_copy 178 = .ok (.iinc 6 1, 3) := by decide +kernel
theorem dX6_copy_181 : decode cX6_copy 181 = .ok (.goto (-59), 3) := by decide +kernel
theorem dX6_copy_184 : decode cX6_copy 184 = .ok (.iload 5, 2) := by decide +kernel
theorem dX6_copy_186 : decode cX6_copy 186 = .ok (.ireturn, 1) := by decide +kernel
theorem dX6_wrongShelf_0 : decode cX6_wrongShelf 0 = .ok (.iload_n 1, 1) := by decide +kernel
theorem dX6_wrongShelf_1 : decode cX6_wrongShelf 1 = .ok (.invokestatic 90, 3) := by decide +kernel
theorem dX6_wrongShelf_4 : decode cX6_wrongShelf 4 = .ok (.ifCond .ne 7, 3) := by decide +kernel
theorem dX6_wrongShelf_7 : decode cX6_wrongShelf 7 = .ok (.iconst (-1), 1) := by decide +kernel
theorem dX6_wrongShelf_8 : decode cX6_wrongShelf 8 = .ok (.goto 33, 3) := by decide +kernel
theorem dX6_wrongShelf_11 : decode cX6_wrongShelf 11 = .ok (.aload_n 0, 1) := by decide +kernel
theorem dX6_wrongShelf_12 : decode cX6_wrongShelf 12 = .ok (.getfield 16, 3) := by decide +kernel
theorem dX6_wrongShelf_15 : decode cX6_wrongShelf 15 = .ok (.iload_n 1, 1) := by decide +kernel
theorem dX6_wrongShelf_16 : decode cX6_wrongShelf 16 = .ok (.iaload, 1) := by decide +kernel
theorem dX6_wrongShelf_17 : decode cX6_wrongShelf 17 = .ok (.ifCond .ne 8, 3) := by decide +kernel
theorem dX6_wrongShelf_20 : decode cX6_wrongShelf 20 = .ok (.bipush (-11), 2) := by decide +kernel
theorem dX6_wrongShelf_22 : decode cX6_wrongShelf 22 = .ok (.goto 19, 3) := by decide +kernel
theorem dX6_wrongShelf_25 : decode cX6_wrongShelf 25 = .ok (.aload_n 0, 1) := by decide +kernel
theorem dX6_wrongShelf_26 : decode cX6_wrongShelf 26 = .ok (.getfield 16, 3) := by decide +kernel
theorem dX6_wrongShelf_29 : decode cX6_wrongShelf 29 = .ok (.iload_n 1, 1) := by decide +kernel
theorem dX6_wrongShelf_30 : decode cX6_wrongShelf 30 = .ok (.iaload, 1) := by decide +kernel
theorem dX6_wrongShelf_31 : decode cX6_wrongShelf 31 = .ok (.iconst 1, 1) := by decide +kernel
theorem dX6_wrongShelf_32 : decode cX6_wrongShelf 32 = .ok (.if_icmp .ne 7, 3) := by decide +kernel
theorem dX6_wrongShelf_35 : decode cX6_wrongShelf 35 = .ok (.iconst 0, 1) := by decide +kernel
theorem dX6_wrongShelf_36 : decode cX6_wrongShelf 36 = .ok (.goto 5, 3) := by decide +kernel
theorem dX6_wrongShelf_39 : decode cX6_wrongShelf 39 = .ok (.bipush (-12), 2) := by decide +kernel
theorem dX6_wrongShelf_41 : decode cX6_wrongShelf 41 = .ok (.ireturn, 1) := by decide +kernel
theorem dX6_held_0 : decode cX6_held 0 = .ok (.aload_n 0, 1) := by decide +kernel
theorem dX6_held_1 : decode cX6_held 1 = .ok (.getfield 34, 3) := by decide +kernel
theorem dX6_held_4 : decode cX6_held 4 = .ok (.iload_n 1, 1) := by decide +kernel
theorem dX6_held_5 : decode cX6_held 5 = .ok (.baload, 1) := by decide +kernel
theorem dX6_held_6 : decode cX6_held 6 = .ok (.ifCond .eq 17, 3) := by decide +kernel
theorem dX6_held_9 : decode cX6_held 9 = .ok (.aload_n 0, 1) := by decide +kernel
theorem dX6_held_10 : decode cX6_held 10 = .ok (.getfield 31, 3) := by decide +kernel
theorem dX6_held_13 : decode cX6_held 13 = .ok (.bipush 45, 2) := by decide +kernel
theorem dX6_held_15 : decode cX6_held 15 = .ok (.iload_n 1, 1) := by decide +kernel
theorem dX6_held_16 : decode cX6_held 16 = .ok (.imul, 1) := by decide +kernel
theorem dX6_held_17 : decode cX6_held 17 = .ok (.iload_n 2, 1) := by decide +kernel
theorem dX6_held_18 : decode cX6_held 18 = .ok (.iadd, 1) := by decide +kernel
theorem dX6_held_19 : decode cX6_held 19 = .ok (.iaload, 1) := by decide +kernel
theorem dX6_held_20 : decode cX6_held 20 = .ok (.goto 14, 3) := by decide +kernel
theorem dX6_held_23 : decode cX6_held 23 = .ok (.aload_n 0, 1) := by decide +kernel
theorem dX6_held_24 : decode cX6_held 24 = .ok (.aload_n 0, 1) := by decide +kernel
theorem dX6_held_25 : decode cX6_held 25 = .ok (.getfield 28, 3) := by decide +kernel
theorem dX6_held_28 : decode cX6_held 28 = .ok (.iload_n 1, 1) := by decide +kernel
theorem dX6_held_29 : decode cX6_held 29 = .ok (.iaload, 1) := by decide +kernel
theorem dX6_held_30 : decode cX6_held 30 = .ok (.iload_n 2, 1) := by decide +kernel
theorem dX6_held_31 : decode cX6_held 31 = .ok (.invokevirtual 150, 3) := by decide +kernel
theorem dX6_held_34 : decode cX6_held 34 = .ok (.ireturn, 1) := by decide +kernel
theorem dX6_weight_0 : decode cX6_weight 0 = .ok (.aload_n 0, 1) := by decide +kernel
theorem dX6_weight_1 : decode cX6_weight 1 = .ok (.iload_n 1, 1) := by decide +kernel
theorem dX6_weight_2 : decode cX6_weight 2 = .ok (.invokevirtual 244, 3) := by decide +kernel
theorem dX6_weight_5 : decode cX6_weight 5 = .ok (.istore_n 2, 1) := by decide +kernel
theorem dX6_weight_6 : decode cX6_weight 6 = .ok (.iload_n 2, 1) := by decide +kernel
theorem dX6_weight_7 : decode cX6_weight 7 = .ok (.ifCond .eq 5, 3) := by decide +kernel
theorem dX6_weight_10 : decode cX6_weight 10 = .ok (.iload_n 2, 1) := by decide +kernel
theorem dX6_weight_11 : decode cX6_weight 11 = .ok (.ireturn, 1) := by decide +kernel
theorem dX6_weight_12 : decode cX6_weight 12 = .ok (.bipush 10, 2) := by decide +kernel
theorem dX6_weight_14 : decode cX6_weight 14 = .ok (.aload_n 0, 1) := by decide +kernel
theorem dX6_weight_15 : decode cX6_weight 15 = .ok (.iload_n 1, 1) := by decide +kernel
theorem dX6_weight_16 : decode cX6_weight 16 = .ok (.iconst 3, 1) := by decide +kernel
theorem dX6_weight_17 : decode cX6_weight 17 = .ok (.invokevirtual 247, 3) := by decide +kernel
theorem dX6_weight_20 : decode cX6_weight 20 = .ok (.iadd, 1) := by decide +kernel
theorem dX6_weight_21 : decode cX6_weight 21 = .ok (.istore_n 3, 1) := by decide +kernel
theorem dX6_weight_22 : decode cX6_weight 22 = .ok (.aload_n 0, 1) := by decide +kernel
theorem dX6_weight_23 : decode cX6_weight 23 = .ok (.iload_n 1, 1) := by decide +kernel
theorem dX6_weight_24 : decode cX6_weight 24 = .ok (.iconst 0, 1) := by decide +kernel
theorem dX6_weight_25 : decode cX6_weight 25 = .ok (.invokevirtual 247, 3) := by decide +kernel
theorem dX6_weight_28 : decode cX6_weight 28 = .ok (.tableswitch 102 1 7 #[44, 48, 52, 61, 73, 79, 90], 44) := by decide +kernel
theorem dX6_weight_72 : decode cX6_weight 72 = .ok (.iload_n 3, 1) := by decide +kernel
theorem dX6_weight_73 : decode cX6_weight 73 = .ok (.iconst 1, 1) := by decide +kernel
theorem dX6_weight_74 : decode cX6_weight 74 = .ok (.iadd, 1) := by decide +kernel
theorem dX6_weight_75 : decode cX6_weight 75 = .ok (.ireturn, 1) := by decide +kernel
theorem dX6_weight_76 : decode cX6_weight 76 = .ok (.iconst 2, 1) := by decide +kernel
theorem dX6_weight_77 : decode cX6_weight 77 = .ok (.iload_n 3, 1) := by decide +kernel
theorem dX6_weight_78 : decode cX6_weight 78 = .ok (.imul, 1) := by decide +kernel
theorem dX6_weight_79 : decode cX6_weight 79 = .ok (.ireturn, 1) := by decide +kernel
theorem dX6_weight_80 : decode cX6_weight 80 = .ok (.iload_n 3, 1) := by decide +kernel
theorem dX6_weight_81 : decode cX6_weight 81 = .ok (.aload_n 0, 1) := by decide +kernel
theorem dX6_weight_82 : decode cX6_weight 82 = .ok (.iload_n 1, 1) := by decide +kernel
theorem dX6_weight_83 : decode cX6_weight 83 = .ok (.iconst 1, 1) := by decide +kernel
theorem dX6_weight_84 : decode cX6_weight 84 = .ok (.invokevirtual 247, 3) := by decide +kernel
theorem dX6_weight_87 : decode cX6_weight 87 = .ok (.iadd, 1) := by decide +kernel
theorem dX6_weight_88 : decode cX6_weight 88 = .ok (.ireturn, 1) := by decide +kernel
theorem dX6_weight_89 : decode cX6_weight 89 = .ok (.iload_n 3, 1) := by decide +kernel
theorem dX6_weight_90 : decode cX6_weight 90 = .ok (.iconst 1, 1) := by decide +kernel
theorem dX6_weight_91 : decode cX6_weight 91 = .ok (.iadd, 1) := by decide +kernel
theorem dX6_weight_92 : decode cX6_weight 92 = .ok (.aload_n 0, 1) := by decide +kernel
theorem dX6_weight_93 : decode cX6_weight 93 = .ok (.iload_n 1, 1) := by decide +kernel
theorem dX6_weight_94 : decode cX6_weight 94 = .ok (.bipush 28, 2) := by decide +kernel
theorem dX6_weight_96 : decode cX6_weight 96 = .ok (.invokevirtual 247, 3) := by decide +kernel
theorem dX6_weight_99 : decode cX6_weight 99 = .ok (.iadd, 1) := by decide +kernel
theorem dX6_weight_100 : decode cX6_weight 100 = .ok (.ireturn, 1) := by decide +kernel
theorem dX6_weight_101 : decode cX6_weight 101 = .ok (.iconst 2, 1) := by decide +kernel
theorem dX6_weight_102 : decode cX6_weight 102 = .ok (.iload_n 3, 1) := by decide +kernel
theorem dX6_weight_103 : decode cX6_weight 103 = .ok (.iconst 1, 1) := by decide +kernel
theorem dX6_weight_104 : decode cX6_weight 104 = .ok (.iadd, 1) := by decide +kernel
theorem dX6_weight_105 : decode cX6_weight 105 = .ok (.imul, 1) := by decide +kernel
theorem dX6_weight_106 : decode cX6_weight 106 = .ok (.ireturn, 1) := by decide +kernel
theorem dX6_weight_107 : decode cX6_weight 107 = .ok (.iconst 2, 1) := by decide +kernel
theorem dX6_weight_108 : decode cX6_weight 108 = .ok (.iload_n 3, 1) := by decide +kernel
theorem dX6_weight_109 : decode cX6_weight 109 = .ok (.imul, 1) := by decide +kernel
theorem dX6_weight_110 : decode cX6_weight 110 = .ok (.aload_n 0, 1) := by decide +kernel
theorem dX6_weight_111 : decode cX6_weight 111 = .ok (.iload_n 1, 1) := by decide +kernel
theorem dX6_weight_112 : decode cX6_weight 112 = .ok (.iconst 2, 1) := by decide +kernel
theorem dX6_weight_113 : decode cX6_weight 113 = .ok (.invokevirtual 247, 3) := by decide +kernel
theorem dX6_weight_116 : decode cX6_weight 116 = .ok (.iadd, 1) := by decide +kernel
theorem dX6_weight_117 : decode cX6_weight 117 = .ok (.ireturn, 1) := by decide +kernel
theorem dX6_weight_118 : decode cX6_weight 118 = .ok (.iload_n 3, 1) := by decide +kernel
theorem dX6_weight_119 : decode cX6_weight 119 = .ok (.aload_n 0, 1) := by decide +kernel
theorem dX6_weight_120 : decode cX6_weight 120 = .ok (.iload_n 1, 1) := by decide +kernel
theorem dX6_weight_121 : decode cX6_weight 121 = .ok (.iconst 1, 1) := by decide +kernel
theorem dX6_weight_122 : decode cX6_weight 122 = .ok (.invokevirtual 247, 3) := by decide +kernel
theorem dX6_weight_125 : decode cX6_weight 125 = .ok (.iadd, 1) := by decide +kernel
theorem dX6_weight_126 : decode cX6_weight 126 = .ok (.bipush 100, 2) := by decide +kernel
theorem dX6_weight_128 : decode cX6_weight 128 = .ok (.iadd, 1) := by decide +kernel
theorem dX6_weight_129 : decode cX6_weight 129 = .ok (.ireturn, 1) := by decide +kernel
theorem dX6_weight_130 : decode cX6_weight 130 = .ok (.iload_n 3, 1) := by decide +kernel
theorem dX6_weight_131 : decode cX6_weight 131 = .ok (.ireturn, 1) := by decide +kernel
theorem dX6_toss_0 : decode cX6_toss 0 = .ok (.aload_n 0, 1) := by decide +kernel
theorem dX6_toss_1 : decode cX6_toss 1 = .ok (.iload_n 1, 1) := by decide +kernel
theorem dX6_toss_2 : decode cX6_toss 2 = .ok (.invokevirtual 244, 3) := by decide +kernel
theorem dX6_toss_5 : decode cX6_toss 5 = .ok (.istore_n 2, 1) := by decide +kernel
theorem dX6_toss_6 : decode cX6_toss 6 = .ok (.iload_n 2, 1) := by decide +kernel
theorem dX6_toss_7 : decode cX6_toss 7 = .ok (.ifCond .eq 5, 3) := by decide +kernel
theorem dX6_toss_10 : decode cX6_toss 10 = .ok (.iload_n 2, 1) := by decide +kernel
theorem dX6_toss_11 : decode cX6_toss 11 = .ok (.ireturn, 1) := by decide +kernel
theorem dX6_toss_12 : decode cX6_toss 12 = .ok (.aload_n 0, 1) := by decide +kernel
theorem dX6_toss_13 : decode cX6_toss 13 = .ok (.iload_n 1, 1) := by decide +kernel
theorem dX6_toss_14 : decode cX6_toss 14 = .ok (.iconst 0, 1) := by decide +kernel
theorem dX6_toss_15 : decode cX6_toss 15 = .ok (.invokevirtual 247, 3) := by decide +kernel
theorem dX6_toss_18 : decode cX6_toss 18 = .ok (.istore_n 3, 1) := by decide +kernel
theorem dX6_toss_19 : decode cX6_toss 19 = .ok (.iload_n 3, 1) := by decide +kernel
theorem dX6_toss_20 : decode cX6_toss 20 = .ok (.iconst 3, 1) := by decide +kernel
theorem dX6_toss_21 : decode cX6_toss 21 = .ok (.if_icmp .eq 18, 3) := by decide +kernel
theorem dX6_toss_24 : decode cX6_toss 24 = .ok (.iload_n 3, 1) := by decide +kernel
theorem dX6_toss_25 : decode cX6_toss 25 = .ok (.bipush 7, 2) := by decide +kernel
theorem dX6_toss_27 : decode cX6_toss 27 = .ok (.if_icmp .eq 12, 3) := by decide +kernel
theorem dX6_toss_30 : decode cX6_toss 30 = .ok (.aload_n 0, 1) := by decide +kernel
theorem dX6_toss_31 : decode cX6_toss 31 = .ok (.iload_n 1, 1) := by decide +kernel
theorem dX6_toss_32 : decode cX6_toss 32 = .ok (.iconst 3, 1) := by decide +kernel
theorem dX6_toss_33 : decode cX6_toss 33 = .ok (.invokevirtual 247, 3) := by decide +kernel
theorem dX6_toss_36 : decode cX6_toss 36 = .ok (.ifCond .ne 6, 3) := by decide +kernel
theorem dX6_toss_39 : decode cX6_toss 39 = .ok (.bipush (-15), 2) := by decide +kernel
theorem dX6_toss_41 : decode cX6_toss 41 = .ok (.ireturn, 1) := by decide +kernel
theorem dX6_toss_42 : decode cX6_toss 42 = .ok (.iload_n 3, 1) := by decide +kernel
theorem dX6_toss_43 : decode cX6_toss 43 = .ok (.iconst 4, 1) := by decide +kernel
theorem dX6_toss_44 : decode cX6_toss 44 = .ok (.if_icmp .ne 15, 3) := by decide +kernel
theorem dX6_toss_47 : decode cX6_toss 47 = .ok (.bipush 100, 2) := by decide +kernel
theorem dX6_toss_49 : decode cX6_toss 49 = .ok (.aload_n 0, 1) := by decide +kernel
theorem dX6_toss_50 : decode cX6_toss 50 = .ok (.getfield 28, 3) := by decide +kernel
theorem dX6_toss_53 : decode cX6_toss 53 = .ok (.iload_n 1, 1) := by decide +kernel
theorem dX6_toss_54 : decode cX6_toss 54 = .ok (.iaload, 1) := by decide +kernel
theorem dX6_toss_55 : decode cX6_toss 55 = .ok (.iadd, 1) := by decide +kernel
theorem dX6_toss_56 : decode cX6_toss 56 = .ok (.goto 28, 3) := by decide +kernel
theorem dX6_toss_59 : decode cX6_toss 59 = .ok (.iload_n 3, 1) := by decide +kernel
theorem dX6_toss_60 : decode cX6_toss 60 = .ok (.bipush 6, 2) := by decide +kernel
theorem dX6_toss_62 : decode cX6_toss 62 = .ok (.if_icmp .ne 16, 3) := by decide +kernel
theorem dX6_toss_65 : decode cX6_toss 65 = .ok (.sipush 200, 3) := by decide +kernel
theorem dX6_toss_68 : decode cX6_toss 68 = .ok (.aload_n 0, 1) := by decide +kernel
theorem dX6_toss_69 : decode cX6_toss 69 = .ok (.iload_n 1, 1) := by decide +kernel
theorem dX6_toss_70 : decode cX6_toss 70 = .ok (.iconst 2, 1) := by decide +kernel
theorem dX6_toss_71 : decode cX6_toss 71 = .ok (.invokevirtual 247, 3) := by decide +kernel
theorem dX6_toss_74 : decode cX6_toss 74 = .ok (.iadd, 1) := by decide +kernel
theorem dX6_toss_75 : decode cX6_toss 75 = .ok (.goto 9, 3) := by decide +kernel
theorem dX6_toss_78 : decode cX6_toss 78 = .ok (.aload_n 0, 1) := by decide +kernel
theorem dX6_toss_79 : decode cX6_toss 79 = .ok (.getfield 28, 3) := by decide +kernel
theorem dX6_toss_82 : decode cX6_toss 82 = .ok (.iload_n 1, 1) := by decide +kernel
theorem dX6_toss_83 : decode cX6_toss 83 = .ok (.iaload, 1) := by decide +kernel
theorem dX6_toss_84 : decode cX6_toss 84 = .ok (.ireturn, 1) := by decide +kernel
