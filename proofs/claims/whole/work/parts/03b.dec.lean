theorem dX4_init_0 : decode cX4_init 0 = .ok (.aload_n 0, 1) := by decide +kernel
theorem dX4_init_1 : decode cX4_init 1 = .ok (.invokespecial 3, 3) := by decide +kernel
theorem dX4_init_4 : decode cX4_init 4 = .ok (.aload_n 0, 1) := by decide +kernel
theorem dX4_init_5 : decode cX4_init 5 = .ok (.new 9, 3) := by decide +kernel
theorem dX4_init_8 : decode cX4_init 8 = .ok (.dup, 1) := by decide +kernel
theorem dX4_init_9 : decode cX4_init 9 = .ok (.invokespecial 11, 3) := by decide +kernel
theorem dX4_init_12 : decode cX4_init 12 = .ok (.putfield 12, 3) := by decide +kernel
theorem dX4_init_15 : decode cX4_init 15 = .ok (.aload_n 0, 1) := by decide +kernel
theorem dX4_init_16 : decode cX4_init 16 = .ok (.new 9, 3) := by decide +kernel
theorem dX4_init_19 : decode cX4_init 19 = .ok (.dup, 1) := by decide +kernel
theorem dX4_init_20 : decode cX4_init 20 = .ok (.invokespecial 11, 3) := by decide +kernel
theorem dX4_init_23 : decode cX4_init 23 = .ok (.putfield 16, 3) := by decide +kernel
theorem dX4_init_26 : decode cX4_init 26 = .ok (.aload_n 0, 1) := by decide +kernel
theorem dX4_init_27 : decode cX4_init 27 = .ok (.new 9, 3) := by decide +kernel
theorem dX4_init_30 : decode cX4_init 30 = .ok (.dup, 1) := by decide +kernel
theorem dX4_init_31 : decode cX4_init 31 = .ok (.invokespecial 11, 3) := by decide +kernel
theorem dX4_init_34 : decode cX4_init 34 = .ok (.putfield 19, 3) := by decide +kernel
theorem dX4_init_37 : decode cX4_init 37 = .ok (.aload_n 0, 1) := by decide +kernel
theorem dX4_init_38 : decode cX4_init 38 = .ok (.new 22, 3) := by decide +kernel
theorem dX4_init_41 : decode cX4_init 41 = .ok (.dup, 1) := by decide +kernel
theorem dX4_init_42 : decode cX4_init 42 = .ok (.invokespecial 24, 3) := by decide +kernel
theorem dX4_init_45 : decode cX4_init 45 = .ok (.putfield 25, 3) := by decide +kernel
theorem dX4_init_48 : decode cX4_init 48 = .ok (.aload_n 0, 1) := by decide +kernel
theorem dX4_init_49 : decode cX4_init 49 = .ok (.new 29, 3) := by decide +kernel
theorem dX4_init_52 : decode cX4_init 52 = .ok (.dup, 1) := by decide +kernel
theorem dX4_init_53 : decode cX4_init 53 = .ok (.invokespecial 31, 3) := by decide +kernel
theorem dX4_init_56 : decode cX4_init 56 = .ok (.putfield 32, 3) := by decide +kernel
theorem dX4_init_59 : decode cX4_init 59 = .ok (.aload_n 0, 1) := by decide +kernel
theorem dX4_init_60 : decode cX4_init 60 = .ok (.new 36, 3) := by decide +kernel
theorem dX4_init_63 : decode cX4_init 63 = .ok (.dup, 1) := by decide +kernel
theorem dX4_init_64 : decode cX4_init 64 = .ok (.invokespecial 38, 3) := by decide +kernel
theorem dX4_init_67 : decode cX4_init 67 = .ok (.putfield 39, 3) := by decide +kernel
theorem dX4_init_70 : decode cX4_init 70 = .ok (.aload_n 0, 1) := by decide +kernel
theorem dX4_init_71 : decode cX4_init 71 = .ok (.bipush 20, 2) := by decide +kernel
theorem dX4_init_73 : decode cX4_init 73 = .ok (.newarray .int, 2) := by decide +kernel
theorem dX4_init_75 : decode cX4_init 75 = .ok (.putfield 43, 3) := by decide +kernel
theorem dX4_init_78 : decode cX4_init 78 = .ok (.aload_n 0, 1) := by decide +kernel
theorem dX4_init_79 : decode cX4_init 79 = .ok (.bipush 7, 2) := by decide +kernel
theorem dX4_init_81 : decode cX4_init 81 = .ok (.newarray .int, 2) := by decide +kernel
theorem dX4_init_83 : decode cX4_init 83 = .ok (.putfield 47, 3) := by decide +kernel
theorem dX4_init_86 : decode cX4_init 86 = .ok (.aload_n 0, 1) := by decide +kernel
theorem dX4_init_87 : decode cX4_init 87 = .ok (.bipush 81, 2) := by decide +kernel
theorem dX4_init_89 : decode cX4_init 89 = .ok (.newarray .int, 2) := by decide +kernel
theorem dX4_init_91 : decode cX4_init 91 = .ok (.putfield 50, 3) := by decide +kernel
theorem dX4_init_94 : decode cX4_init 94 = .ok (.aload_n 0, 1) := by decide +kernel
theorem dX4_init_95 : decode cX4_init 95 = .ok (.bipush 64, 2) := by decide +kernel
theorem dX4_init_97 : decode cX4_init 97 = .ok (.newarray .int, 2) := by decide +kernel
theorem dX4_init_99 : decode cX4_init 99 = .ok (.putfield 53, 3) := by decide +kernel
theorem dX4_init_102 : decode cX4_init 102 = .ok (.return_, 1) := by decide +kernel
theorem dX4_letter_0 : decode cX4_letter 0 = .ok (.iload_n 1, 1) := by decide +kernel
theorem dX4_letter_1 : decode cX4_letter 1 = .ok (.iconst 0, 1) := by decide +kernel
theorem dX4_letter_2 : decode cX4_letter 2 = .ok (.sipush 255, 3) := by decide +kernel
theorem dX4_letter_5 : decode cX4_letter 5 = .ok (.invokestatic 56, 3) := by decide +kernel
theorem dX4_letter_8 : decode cX4_letter 8 = .ok (.istore_n 2, 1) := by decide +kernel
theorem dX4_letter_9 : decode cX4_letter 9 = .ok (.iload_n 2, 1) := by decide +kernel
theorem dX4_letter_10 : decode cX4_letter 10 = .ok (.ifCond .ne 18, 3) := by decide +kernel
theorem dX4_letter_13 : decode cX4_letter 13 = .ok (.aload_n 0, 1) := by decide +kernel
theorem dX4_letter_14 : decode cX4_letter 14 = .ok (.getfield 39, 3) := by decide +kernel
theorem dX4_letter_17 : decode cX4_letter 17 = .ok (.getfield 60, 3) := by decide +kernel
theorem dX4_letter_20 : decode cX4_letter 20 = .ok (.bipush 96, 2) := by decide +kernel
theorem dX4_letter_22 : decode cX4_letter 22 = .ok (.if_icmp .lt 6, 3) := by decide +kernel
theorem dX4_letter_25 : decode cX4_letter 25 = .ok (.bipush (-6), 2) := by decide +kernel
theorem dX4_letter_27 : decode cX4_letter 27 = .ok (.istore_n 2, 1) := by decide +kernel
theorem dX4_letter_28 : decode cX4_letter 28 = .ok (.iload_n 2, 1) := by decide +kernel
theorem dX4_letter_29 : decode cX4_letter 29 = .ok (.ifCond .eq 9, 3) := by decide +kernel
theorem dX4_letter_32 : decode cX4_letter 32 = .ok (.aload_n 0, 1) := by decide +kernel
theorem dX4_letter_33 : decode cX4_letter 33 = .ok (.iload_n 2, 1) := by decide +kernel
theorem dX4_letter_34 : decode cX4_letter 34 = .ok (.invokevirtual 64, 3) := by decide +kernel
theorem dX4_letter_37 : decode cX4_letter 37 = .ok (.ireturn, 1) := by decide +kernel
theorem dX4_letter_38 : decode cX4_letter 38 = .ok (.aload_n 0, 1) := by decide +kernel
theorem dX4_letter_39 : decode cX4_letter 39 = .ok (.getfield 39, 3) := by decide +kernel
theorem dX4_letter_42 : decode cX4_letter 42 = .ok (.iload_n 1, 1) := by decide +kernel
theorem dX4_letter_43 : decode cX4_letter 43 = .ok (.i2c, 1) := by decide +kernel
theorem dX4_letter_44 : decode cX4_letter 44 = .ok (.invokevirtual 68, 3) := by decide +kernel
theorem dX4_letter_47 : decode cX4_letter 47 = .ok (.aload_n 0, 1) := by decide +kernel
theorem dX4_letter_48 : decode cX4_letter 48 = .ok (.getfield 39, 3) := by decide +kernel
theorem dX4_letter_51 : decode cX4_letter 51 = .ok (.getfield 60, 3) := by decide +kernel
theorem dX4_letter_54 : decode cX4_letter 54 = .ok (.ireturn, 1) := by decide +kernel
theorem dX4_house_0 : decode cX4_house 0 = .ok (.aload_n 0, 1) := by decide +kernel
theorem dX4_house_1 : decode cX4_house 1 = .ok (.getfield 39, 3) := by decide +kernel
theorem dX4_house_4 : decode cX4_house 4 = .ok (.invokevirtual 72, 3) := by decide +kernel
theorem dX4_house_7 : decode cX4_house 7 = .ok (.istore_n 1, 1) := by decide +kernel
theorem dX4_house_8 : decode cX4_house 8 = .ok (.iload_n 1, 1) := by decide +kernel
theorem dX4_house_9 : decode cX4_house 9 = .ok (.ifCond .lt 11, 3) := by decide +kernel
theorem dX4_house_12 : decode cX4_house 12 = .ok (.sipush (-1000), 3) := by decide +kernel
theorem dX4_house_15 : decode cX4_house 15 = .ok (.iload_n 1, 1) := by decide +kernel
theorem dX4_house_16 : decode cX4_house 16 = .ok (.isub, 1) := by decide +kernel
theorem dX4_house_17 : decode cX4_house 17 = .ok (.goto 7, 3) := by decide +kernel
theorem dX4_house_20 : decode cX4_house 20 = .ok (.aload_n 0, 1) := by decide +kernel
theorem dX4_house_21 : decode cX4_house 21 = .ok (.invokevirtual 76, 3) := by decide +kernel
theorem dX4_house_24 : decode cX4_house 24 = .ok (.istore_n 2, 1) := by decide +kernel
theorem dX4_house_25 : decode cX4_house 25 = .ok (.aload_n 0, 1) := by decide +kernel
theorem dX4_house_26 : decode cX4_house 26 = .ok (.getfield 39, 3) := by decide +kernel
theorem dX4_house_29 : decode cX4_house 29 = .ok (.iconst 0, 1) := by decide +kernel
theorem dX4_house_30 : decode cX4_house 30 = .ok (.putfield 60, 3) := by decide +kernel
theorem dX4_house_33 : decode cX4_house 33 = .ok (.iload_n 2, 1) := by decide +kernel
theorem dX4_house_34 : decode cX4_house 34 = .ok (.ireturn, 1) := by decide +kernel
theorem dX4_eater_0 : decode cX4_eater 0 = .ok (.aload_n 0, 1) := by decide +kernel
theorem dX4_eater_1 : decode cX4_eater 1 = .ok (.getfield 12, 3) := by decide +kernel
theorem dX4_eater_4 : decode cX4_eater 4 = .ok (.iload_n 1, 1) := by decide +kernel
theorem dX4_eater_5 : decode cX4_eater 5 = .ok (.invokevirtual 79, 3) := by decide +kernel
theorem dX4_eater_8 : decode cX4_eater 8 = .ok (.ifCond .ne 9, 3) := by decide +kernel
theorem dX4_eater_11 : decode cX4_eater 11 = .ok (.aload_n 0, 1) := by decide +kernel
theorem dX4_eater_12 : decode cX4_eater 12 = .ok (.iconst (-1), 1) := by decide +kernel
theorem dX4_eater_13 : decode cX4_eater 13 = .ok (.invokevirtual 64, 3) := by decide +kernel
theorem dX4_eater_16 : decode cX4_eater 16 = .ok (.ireturn, 1) := by decide +kernel
theorem dX4_eater_17 : decode cX4_eater 17 = .ok (.iload_n 2, 1) := by decide +kernel
theorem dX4_eater_18 : decode cX4_eater 18 = .ok (.iconst 0, 1) := by decide +kernel
theorem dX4_eater_19 : decode cX4_eater 19 = .ok (.iconst 3, 1) := by decide +kernel
theorem dX4_eater_20 : decode cX4_eater 20 = .ok (.invokestatic 83, 3) := by decide +kernel
theorem dX4_eater_23 : decode cX4_eater 23 = .ok (.ifCond .ne 10, 3) := by decide +kernel
theorem dX4_eater_26 : decode cX4_eater 26 = .ok (.aload_n 0, 1) := by decide +kernel
theorem dX4_eater_27 : decode cX4_eater 27 = .ok (.bipush (-2), 2) := by decide +kernel
theorem dX4_eater_29 : decode cX4_eater 29 = .ok (.invokevirtual 64, 3) := by decide +kernel
theorem dX4_eater_32 : decode cX4_eater 32 = .ok (.ireturn, 1) := by decide +kernel
theorem dX4_eater_33 : decode cX4_eater 33 = .ok (.aload_n 0, 1) := by decide +kernel
theorem dX4_eater_34 : decode cX4_eater 34 = .ok (.getfield 12, 3) := by decide +kernel
theorem dX4_eater_37 : decode cX4_eater 37 = .ok (.getfield 87, 3) := by decide +kernel
theorem dX4_eater_40 : decode cX4_eater 40 = .ok (.iload_n 1, 1) := by decide +kernel
theorem dX4_eater_41 : decode cX4_eater 41 = .ok (.aaload, 1) := by decide +kernel
theorem dX4_eater_42 : decode cX4_eater 42 = .ok (.iload_n 2, 1) := by decide +kernel
theorem dX4_eater_43 : decode cX4_eater 43 = .ok (.iaload, 1) := by decide +kernel
theorem dX4_eater_44 : decode cX4_eater 44 = .ok (.ireturn, 1) := by decide +kernel
theorem dX4_stock_0 : decode cX4_stock 0 = .ok (.iload_n 1, 1) := by decide +kernel
theorem dX4_stock_1 : decode cX4_stock 1 = .ok (.invokestatic 91, 3) := by decide +kernel
theorem dX4_stock_4 : decode cX4_stock 4 = .ok (.ifCond .eq 13, 3) := by decide +kernel
theorem dX4_stock_7 : decode cX4_stock 7 = .ok (.iload_n 2, 1) := by decide +kernel
theorem dX4_stock_8 : decode cX4_stock 8 = .ok (.iconst 0, 1) := by decide +kernel
theorem dX4_stock_9 : decode cX4_stock 9 = .ok (.bipush 60, 2) := by decide +kernel
theorem dX4_stock_11 : decode cX4_stock 11 = .ok (.invokestatic 56, 3) := by decide +kernel
theorem dX4_stock_14 : decode cX4_stock 14 = .ok (.goto 4, 3) := by decide +kernel
theorem dX4_stock_17 : decode cX4_stock 17 = .ok (.iconst (-1), 1) := by decide +kernel
theorem dX4_stock_18 : decode cX4_stock 18 = .ok (.istore_n 3, 1) := by decide +kernel
theorem dX4_stock_19 : decode cX4_stock 19 = .ok (.iload_n 3, 1) := by decide +kernel
theorem dX4_stock_20 : decode cX4_stock 20 = .ok (.ifCond .eq 9, 3) := by decide +kernel
theorem dX4_stock_23 : decode cX4_stock 23 = .ok (.aload_n 0, 1) := by decide +kernel
theorem dX4_stock_24 : decode cX4_stock 24 = .ok (.iload_n 3, 1) := by decide +kernel
theorem dX4_stock_25 : decode cX4_stock 25 = .ok (.invokevirtual 64, 3) := by decide +kernel
theorem dX4_stock_28 : decode cX4_stock 28 = .ok (.ireturn, 1) := by decide +kernel
theorem dX4_stock_29 : decode cX4_stock 29 = .ok (.aload_n 0, 1) := by decide +kernel
theorem dX4_stock_30 : decode cX4_stock 30 = .ok (.getfield 12, 3) := by decide +kernel
theorem dX4_stock_33 : decode cX4_stock 33 = .ok (.getfield 94, 3) := by decide +kernel
theorem dX4_stock_36 : decode cX4_stock 36 = .ok (.iload_n 1, 1) := by decide +kernel
theorem dX4_stock_37 : decode cX4_stock 37 = .ok (.iaload, 1) := by decide +kernel
theorem dX4_stock_38 : decode cX4_stock 38 = .ok (.istore 4, 2) := by decide +kernel
theorem dX4_stock_40 : decode cX4_stock 40 = .ok (.aload_n 0, 1) := by decide +kernel
theorem dX4_stock_41 : decode cX4_stock 41 = .ok (.getfield 12, 3) := by decide +kernel
theorem dX4_stock_44 : decode cX4_stock 44 = .ok (.getfield 94, 3) := by decide +kernel
theorem dX4_stock_47 : decode cX4_stock 47 = .ok (.iload_n 1, 1) := by decide +kernel
theorem dX4_stock_48 : decode cX4_stock 48 = .ok (.iload_n 2, 1) := by decide +kernel
theorem dX4_stock_49 : decode cX4_stock 49 = .ok (.iastore, 1) := by decide +kernel
theorem dX4_stock_50 : decode cX4_stock 50 = .ok (.iload 4, 2) := by decide +kernel
theorem dX4_stock_52 : decode cX4_stock 52 = .ok (.ireturn, 1) := by decide +kernel
theorem dX4_open_0 : decode cX4_open 0 = .ok (.iload_n 1, 1) := by decide +kernel
theorem dX4_open_1 : decode cX4_open 1 = .ok (.iconst 0, 1) := by decide +kernel
theorem dX4_open_2 : decode cX4_open 2 = .ok (.bipush 6, 2) := by decide +kernel
theorem dX4_open_4 : decode cX4_open 4 = .ok (.invokestatic 83, 3) := by decide +kernel
theorem dX4_open_7 : decode cX4_open 7 = .ok (.ifCond .ne 9, 3) := by decide +kernel
theorem dX4_open_10 : decode cX4_open 10 = .ok (.aload_n 0, 1) := by decide +kernel
theorem dX4_open_11 : decode cX4_open 11 = .ok (.iconst (-1), 1) := by decide +kernel
theorem dX4_open_12 : decode cX4_open 12 = .ok (.invokevirtual 64, 3) := by decide +kernel
theorem dX4_open_15 : decode cX4_open 15 = .ok (.ireturn, 1) := by decide +kernel
theorem dX4_open_16 : decode cX4_open 16 = .ok (.iload_n 2, 1) := by decide +kernel
theorem dX4_open_17 : decode cX4_open 17 = .ok (.iconst 0, 1) := by decide +kernel
theorem dX4_open_18 : decode cX4_open 18 = .ok (.iconst 1, 1) := by decide +kernel
theorem dX4_open_19 : decode cX4_open 19 = .ok (.invokestatic 83, 3) := by decide +kernel
theorem dX4_open_22 : decode cX4_open 22 = .ok (.ifCond .ne 10, 3) := by decide +kernel
theorem dX4_open_25 : decode cX4_open 25 = .ok (.aload_n 0, 1) := by decide +kernel
theorem dX4_open_26 : decode cX4_open 26 = .ok (.bipush (-2), 2) := by decide +kernel
theorem dX4_open_28 : decode cX4_open 28 = .ok (.invokevirtual 64, 3) := by decide +kernel
theorem dX4_open_31 : decode cX4_open 31 = .ok (.ireturn, 1) := by decide +kernel
theorem dX4_open_32 : decode cX4_open 32 = .ok (.aload_n 0, 1) := by decide +kernel
theorem dX4_open_33 : decode cX4_open 33 = .ok (.getfield 12, 3) := by decide +kernel
theorem dX4_open_36 : decode cX4_open 36 = .ok (.getfield 97, 3) := by decide +kernel
theorem dX4_open_39 : decode cX4_open 39 = .ok (.iload_n 1, 1) := by decide +kernel
theorem dX4_open_40 : decode cX4_open 40 = .ok (.iaload, 1) := by decide +kernel
theorem dX4_open_41 : decode cX4_open 41 = .ok (.istore_n 3, 1) := by decide +kernel
theorem dX4_open_42 : decode cX4_open 42 = .ok (.aload_n 0, 1) := by decide +kernel
theorem dX4_open_43 : decode cX4_open 43 = .ok (.getfield 12, 3) := by decide +kernel
theorem dX4_open_46 : decode cX4_open 46 = .ok (.getfield 97, 3) := by decide +kernel
theorem dX4_open_49 : decode cX4_open 49 = .ok (.iload_n 1, 1) := by decide +kernel
theorem dX4_open_50 : decode cX4_open 50 = .ok (.iload_n 2, 1) := by decide +kernel
theorem dX4_open_51 : decode cX4_open 51 = .ok (.iastore, 1) := by decide +kernel
theorem dX4_open_52 : decode cX4_open 52 = .ok (.iload_n 3, 1) := by decide +kernel
theorem dX4_open_53 : decode cX4_open 53 = .ok (.ireturn, 1) := by decide +kernel
theorem dX4_set_0 : decode cX4_set 0 = .ok (.iload_n 1, 1) := by decide +kernel
theorem dX4_set_1 : decode cX4_set 1 = .ok (.iconst 0, 1) := by decide +kernel
theorem dX4_set_2 : decode cX4_set 2 = .ok (.iconst 5, 1) := by decide +kernel
theorem dX4_set_3 : decode cX4_set 3 = .ok (.invokestatic 83, 3) := by decide +kernel
theorem dX4_set_6 : decode cX4_set 6 = .ok (.ifCond .ne 10, 3) := by decide +kernel
theorem dX4_set_9 : decode cX4_set 9 = .ok (.aload_n 0, 1) := by decide +kernel
theorem dX4_set_10 : decode cX4_set 10 = .ok (.bipush (-2), 2) := by decide +kernel
theorem dX4_set_12 : decode cX4_set 12 = .ok (.invokevirtual 64, 3) := by decide +kernel
theorem dX4_set_15 : decode cX4_set 15 = .ok (.ireturn, 1) := by decide +kernel
theorem dX4_set_16 : decode cX4_set 16 = .ok (.iload_n 2, 1) := by decide +kernel
theorem dX4_set_17 : decode cX4_set 17 = .ok (.iconst 0, 1) := by decide +kernel
theorem dX4_set_18 : decode cX4_set 18 = .ok (.getstatic 100, 3) := by decide +kernel
theorem dX4_set_21 : decode cX4_set 21 = .ok (.iload_n 1, 1) := by decide +kernel
theorem dX4_set_22 : decode cX4_set 22 = .ok (.iaload, 1) := by decide +kernel
theorem dX4_set_23 : decode cX4_set 23 = .ok (.invokestatic 56, 3) := by decide +kernel
theorem dX4_set_26 : decode cX4_set 26 = .ok (.istore_n 3, 1) := by decide +kernel
theorem dX4_set_27 : decode cX4_set 27 = .ok (.iload_n 3, 1) := by decide +kernel
theorem dX4_set_28 : decode cX4_set 28 = .ok (.ifCond .eq 9, 3) := by decide +kernel
theorem dX4_set_31 : decode cX4_set 31 = .ok (.aload_n 0, 1) := by decide +kernel
theorem dX4_set_32 : decode cX4_set 32 = .ok (.iload_n 3, 1) := by decide +kernel
theorem dX4_set_33 : decode cX4_set 33 = .ok (.invokevirtual 64, 3) := by decide +kernel
theorem dX4_set_36 : decode cX4_set 36 = .ok (.ireturn, 1) := by decide +kernel
theorem dX4_set_37 : decode cX4_set 37 = .ok (.aload_n 0, 1) := by decide +kernel
theorem dX4_set_38 : decode cX4_set 38 = .ok (.getfield 12, 3) := by decide +kernel
theorem dX4_set_41 : decode cX4_set 41 = .ok (.getfield 103, 3) := by decide +kernel
theorem dX4_set_44 : decode cX4_set 44 = .ok (.iload_n 1, 1) := by decide +kernel
theorem dX4_set_45 : decode cX4_set 45 = .ok (.iaload, 1) := by decide +kernel
theorem dX4_set_46 : decode cX4_set 46 = .ok (.istore 4, 2) := by decide +kernel
theorem dX4_set_48 : decode cX4_set 48 = .ok (.aload_n 0, 1) := by decide +kernel
theorem dX4_set_49 : decode cX4_set 49 = .ok (.getfield 12, 3) := by decide +kernel
theorem dX4_set_52 : decode cX4_set 52 = .ok (.getfield 103, 3) := by decide +kernel
theorem dX4_set_55 : decode cX4_set 55 = .ok (.iload_n 1, 1) := by decide +kernel
theorem dX4_set_56 : decode cX4_set 56 = .ok (.iload_n 2, 1) := by decide +kernel
theorem dX4_set_57 : decode cX4_set 57 = .ok (.iastore, 1) := by decide +kernel
theorem dX4_set_58 : decode cX4_set 58 = .ok (.iload 4, 2) := by decide +kernel
theorem dX4_set_60 : decode cX4_set 60 = .ok (.ireturn, 1) := by decide +kernel
theorem dX4_worth_0 : decode cX4_worth 0 = .ok (.aload_n 0, 1) := by decide +kernel
theorem dX4_worth_1 : decode cX4_worth 1 = .ok (.getfield 12, 3) := by decide +kernel
theorem dX4_worth_4 : decode cX4_worth 4 = .ok (.iload_n 1, 1) := by decide +kernel
theorem dX4_worth_5 : decode cX4_worth 5 = .ok (.invokevirtual 79, 3) := by decide +kernel
theorem dX4_worth_8 : decode cX4_worth 8 = .ok (.ifCond .eq 10, 3) := by decide +kernel
theorem dX4_worth_11 : decode cX4_worth 11 = .ok (.iload_n 2, 1) := by decide +kernel
theorem dX4_worth_12 : decode cX4_worth 12 = .ok (.invokestatic 91, 3) := by decide +kernel
theorem dX4_worth_15 : decode cX4_worth 15 = .ok (.ifCond .ne 9, 3) := by decide +kernel
theorem dX4_worth_18 : decode cX4_worth 18 = .ok (.aload_n 0, 1) := by decide +kernel
theorem dX4_worth_19 : decode cX4_worth 19 = .ok (.iconst (-1), 1) := by decide +kernel
theorem dX4_worth_20 : decode cX4_worth 20 = .ok (.invokevirtual 64, 3) := by decide +kernel
theorem dX4_worth_23 : decode cX4_worth 23 = .ok (.ireturn, 1) := by decide +kernel
theorem dX4_worth_24 : decode cX4_worth 24 = .ok (.aload_n 0, 1) := by decide +kernel
theorem dX4_worth_25 : decode cX4_worth 25 = .ok (.getfield 12, 3) := by decide +kernel
theorem dX4_worth_28 : decode cX4_worth 28 = .ok (.iload_n 1, 1) := by decide +kernel
theorem dX4_worth_29 : decode cX4_worth 29 = .ok (.iload_n 2, 1) := by decide +kernel
theorem dX4_worth_30 : decode cX4_worth 30 = .ok (.invokevirtual 106, 3) := by decide +kernel
theorem dX4_worth_33 : decode cX4_worth 33 = .ok (.istore_n 3, 1) := by decide +kernel
theorem dX4_worth_34 : decode cX4_worth 34 = .ok (.iload_n 3, 1) := by decide +kernel
theorem dX4_worth_35 : decode cX4_worth 35 = .ok (.iconst (-1), 1) := by decide +kernel
theorem dX4_worth_36 : decode cX4_worth 36 = .ok (.if_icmp .ne 8, 3) := by decide +kernel
theorem dX4_worth_39 : decode cX4_worth 39 = .ok (.bipush (-9), 2) := by decide +kernel
theorem dX4_worth_41 : decode cX4_worth 41 = .ok (.goto 4, 3) := by decide +kernel
theorem dX4_worth_44 : decode cX4_worth 44 = .ok (.iload_n 3, 1) := by decide +kernel
theorem dX4_worth_45 : decode cX4_worth 45 = .ok (.ireturn, 1) := by decide +kernel
theorem dX4_dayOn_0 : decode cX4_dayOn 0 = .ok (.aload_n 0, 1) := by decide +kernel
theorem dX4_dayOn_1 : decode cX4_dayOn 1 = .ok (.getfield 12, 3) := by decide +kernel
theorem dX4_dayOn_4 : decode cX4_dayOn 4 = .ok (.getfield 110, 3) := by decide +kernel
theorem dX4_dayOn_7 : decode cX4_dayOn 7 = .ok (.sipush 9999, 3) := by decide +kernel
theorem dX4_dayOn_10 : decode cX4_dayOn 10 = .ok (.if_icmp .lt 13, 3) := by decide +kernel
theorem dX4_dayOn_13 : decode cX4_dayOn 13 = .ok (.ldc 113, 2) := by decide +kernel
theorem dX4_dayOn_15 : decode cX4_dayOn 15 = .ok (.aload_n 0, 1) := by decide +kernel
theorem dX4_dayOn_16 : decode cX4_dayOn 16 = .ok (.bipush (-6), 2) := by decide +kernel
theorem dX4_dayOn_18 : decode cX4_dayOn 18 = .ok (.invokevirtual 64, 3) := by decide +kernel
theorem dX4_dayOn_21 : decode cX4_dayOn 21 = .ok (.isub, 1) := by decide +kernel
theorem dX4_dayOn_22 : decode cX4_dayOn 22 = .ok (.ireturn, 1) := by decide +kernel
theorem dX4_dayOn_23 : decode cX4_dayOn 23 = .ok (.aload_n 0, 1) := by decide +kernel
theorem dX4_dayOn_24 : decode cX4_dayOn 24 = .ok (.getfield 25, 3) := by decide +kernel
theorem dX4_dayOn_27 : decode cX4_dayOn 27 = .ok (.invokevirtual 114, 3) := by decide +kernel
theorem dX4_dayOn_30 : decode cX4_dayOn 30 = .ok (.aload_n 0, 1) := by decide +kernel
theorem dX4_dayOn_31 : decode cX4_dayOn 31 = .ok (.getfield 12, 3) := by decide +kernel
theorem dX4_dayOn_34 : decode cX4_dayOn 34 = .ok (.aload_n 0, 1) := by decide +kernel
theorem dX4_dayOn_35 : decode cX4_dayOn 35 = .ok (.getfield 25, 3) := by decide +kernel
theorem dX4_dayOn_38 : decode cX4_dayOn 38 = .ok (.invokevirtual 117, 3) := by decide +kernel
theorem dX4_dayOn_41 : decode cX4_dayOn 41 = .ok (.aload_n 0, 1) := by decide +kernel
theorem dX4_dayOn_42 : decode cX4_dayOn 42 = .ok (.getfield 25, 3) := by decide +kernel
theorem dX4_dayOn_45 : decode cX4_dayOn 45 = .ok (.getfield 121, 3) := by decide +kernel
theorem dX4_dayOn_48 : decode cX4_dayOn 48 = .ok (.iconst 0, 1) := by decide +kernel
theorem dX4_dayOn_49 : decode cX4_dayOn 49 = .ok (.iaload, 1) := by decide +kernel
theorem dX4_dayOn_50 : decode cX4_dayOn 50 = .ok (.ireturn, 1) := by decide +kernel
theorem dX4_total_0 : decode cX4_total 0 = .ok (.iload_n 1, 1) := by decide +kernel
theorem dX4_total_1 : decode cX4_total 1 = .ok (.iconst 0, 1) := by decide +kernel
theorem dX4_total_2 : decode cX4_total 2 = .ok (.bipush 28, 2) := by decide +kernel
theorem dX4_total_4 : decode cX4_total 4 = .ok (.invokestatic 56, 3) := by decide +kernel
theorem dX4_total_7 : decode cX4_total 7 = .ok (.istore_n 3, 1) := by decide +kernel
theorem dX4_total_8 : decode cX4_total 8 = .ok (.iload_n 3, 1) := by decide +kernel
theorem dX4_total_9 : decode cX4_total 9 = .ok (.ifCond .ne 15, 3) := by decide +kernel
theorem dX4_total_12 : decode cX4_total 12 = .ok (.iload_n 2, 1) := by decide +kernel
theorem dX4_total_13 : decode cX4_total 13 = .ok (.iconst 0, 1) := by decide +kernel
theorem dX4_total_14 : decode cX4_total 14 = .ok (.iconst 5, 1) := by decide +kernel
theorem dX4_total_15 : decode cX4_total 15 = .ok (.invokestatic 83, 3) := by decide +kernel
theorem dX4_total_18 : decode cX4_total 18 = .ok (.ifCond .ne 6, 3) := by decide +kernel
theorem dX4_total_21 : decode cX4_total 21 = .ok (.bipush (-2), 2) := by decide +kernel
theorem dX4_total_23 : decode cX4_total 23 = .ok (.istore_n 3, 1) := by decide +kernel
theorem dX4_total_24 : decode cX4_total 24 = .ok (.iload_n 3, 1) := by decide +kernel
theorem dX4_total_25 : decode cX4_total 25 = .ok (.ifCond .eq 12, 3) := by decide +kernel
theorem dX4_total_28 : decode cX4_total 28 = .ok (.ldc 113, 2) := by decide +kernel
theorem dX4_total_30 : decode cX4_total 30 = .ok (.aload_n 0, 1) := by decide +kernel
theorem dX4_total_31 : decode cX4_total 31 = .ok (.iload_n 3, 1) := by decide +kernel
theorem dX4_total_32 : decode cX4_total 32 = .ok (.invokevirtual 64, 3) := by decide +kernel
theorem dX4_total_35 : decode cX4_total 35 = .ok (.isub, 1) := by decide +kernel
theorem dX4_total_36 : decode cX4_total 36 = .ok (.ireturn, 1) := by decide +kernel
theorem dX4_total_37 : decode cX4_total 37 = .ok (.aload_n 0, 1) := by decide +kernel
theorem dX4_total_38 : decode cX4_total 38 = .ok (.invokevirtual 124, 3) := by decide +kernel
theorem dX4_total_41 : decode cX4_total 41 = .ok (.aload_n 0, 1) := by decide +kernel
theorem dX4_total_42 : decode cX4_total 42 = .ok (.iload_n 1, 1) := by decide +kernel
theorem dX4_total_43 : decode cX4_total 43 = .ok (.invokevirtual 127, 3) := by decide +kernel
theorem dX4_total_46 : decode cX4_total 46 = .ok (.pop, 1) := by decide +kernel
theorem dX4_total_47 : decode cX4_total 47 = .ok (.aload_n 0, 1) := by decide +kernel
theorem dX4_total_48 : decode cX4_total 48 = .ok (.getfield 25, 3) := by decide +kernel
theorem dX4_total_51 : decode cX4_total 51 = .ok (.getfield 121, 3) := by decide +kernel
theorem dX4_total_54 : decode cX4_total 54 = .ok (.iload_n 2, 1) := by decide +kernel
theorem dX4_total_55 : decode cX4_total 55 = .ok (.iaload, 1) := by decide +kernel
theorem dX4_total_56 : decode cX4_total 56 = .ok (.ireturn, 1) := by decide +kernel
theorem dX4_left_0 : decode cX4_left 0 = .ok (.iload_n 1, 1) := by decide +kernel
theorem dX4_left_1 : decode cX4_left 1 = .ok (.iconst 0, 1) := by decide +kernel
theorem dX4_left_2 : decode cX4_left 2 = .ok (.bipush 28, 2) := by decide +kernel
theorem dX4_left_4 : decode cX4_left 4 = .ok (.invokestatic 56, 3) := by decide +kernel
theorem dX4_left_7 : decode cX4_left 7 = .ok (.istore_n 3, 1) := by decide +kernel
theorem dX4_left_8 : decode cX4_left 8 = .ok (.iload_n 3, 1) := by decide +kernel
theorem dX4_left_9 : decode cX4_left 9 = .ok (.ifCond .ne 12, 3) := by decide +kernel
theorem dX4_left_12 : decode cX4_left 12 = .ok (.iload_n 2, 1) := by decide +kernel
theorem dX4_left_13 : decode cX4_left 13 = .ok (.invokestatic 91, 3) := by decide +kernel
theorem dX4_left_16 : decode cX4_left 16 = .ok (.ifCond .ne 5, 3) := by decide +kernel
theorem dX4_left_19 : decode cX4_left 19 = .ok (.iconst (-1), 1) := by decide +kernel
theorem dX4_left_20 : decode cX4_left 20 = .ok (.istore_n 3, 1) := by decide +kernel
theorem dX4_left_21 : decode cX4_left 21 = .ok (.iload_n 3, 1) := by decide +kernel
theorem dX4_left_22 : decode cX4_left 22 = .ok (.ifCond .eq 9, 3) := by decide +kernel
theorem dX4_left_25 : decode cX4_left 25 = .ok (.aload_n 0, 1) := by decide +kernel
theorem dX4_left_26 : decode cX4_left 26 = .ok (.iload_n 3, 1) := by decide +kernel
theorem dX4_left_27 : decode cX4_left 27 = .ok (.invokevirtual 64, 3) := by decide +kernel
theorem dX4_left_30 : decode cX4_left 30 = .ok (.ireturn, 1) := by decide +kernel
theorem dX4_left_31 : decode cX4_left 31 = .ok (.aload_n 0, 1) := by decide +kernel
theorem dX4_left_32 : decode cX4_left 32 = .ok (.invokevirtual 124, 3) := by decide +kernel
theorem dX4_left_35 : decode cX4_left 35 = .ok (.aload_n 0, 1) := by decide +kernel
theorem dX4_left_36 : decode cX4_left 36 = .ok (.iload_n 1, 1) := by decide +kernel
theorem dX4_left_37 : decode cX4_left 37 = .ok (.invokevirtual 127, 3) := by decide +kernel
theorem dX4_left_40 : decode cX4_left 40 = .ok (.pop, 1) := by decide +kernel
theorem dX4_left_41 : decode cX4_left 41 = .ok (.aload_n 0, 1) := by decide +kernel
theorem dX4_left_42 : decode cX4_left 42 = .ok (.getfield 19, 3) := by decide +kernel
theorem dX4_left_45 : decode cX4_left 45 = .ok (.getfield 94, 3) := by decide +kernel
theorem dX4_left_48 : decode cX4_left 48 = .ok (.iload_n 2, 1) := by decide +kernel
theorem dX4_left_49 : decode cX4_left 49 = .ok (.iaload, 1) := by decide +kernel
theorem dX4_left_50 : decode cX4_left 50 = .ok (.ireturn, 1) := by decide +kernel
theorem dX4_never_0 : decode cX4_never 0 = .ok (.aload_n 0, 1) := by decide +kernel
theorem dX4_never_1 : decode cX4_never 1 = .ok (.invokevirtual 124, 3) := by decide +kernel
theorem dX4_never_4 : decode cX4_never 4 = .ok (.iconst 0, 1) := by decide +kernel
theorem dX4_never_5 : decode cX4_never 5 = .ok (.istore_n 1, 1) := by decide +kernel
theorem dX4_never_6 : decode cX4_never 6 = .ok (.iload_n 1, 1) := by decide +kernel
theorem dX4_never_7 : decode cX4_never 7 = .ok (.bipush 28, 2) := by decide +kernel
theorem dX4_never_9 : decode cX4_never 9 = .ok (.if_icmp .ge 29, 3) := by decide +kernel
theorem dX4_never_12 : decode cX4_never 12 = .ok (.aload_n 0, 1) := by decide +kernel
theorem dX4_never_13 : decode cX4_never 13 = .ok (.iconst 1, 1) := by decide +kernel
theorem dX4_never_14 : decode cX4_never 14 = .ok (.invokevirtual 127, 3) := by decide +kernel
theorem dX4_never_17 : decode cX4_never 17 = .ok (.pop, 1) := by decide +kernel
theorem dX4_never_18 : decode cX4_never 18 = .ok (.aload_n 0, 1) := by decide +kernel
theorem dX4_never_19 : decode cX4_never 19 = .ok (.getfield 25, 3) := by decide +kernel
theorem dX4_never_22 : decode cX4_never 22 = .ok (.getfield 121, 3) := by decide +kernel
theorem dX4_never_25 : decode cX4_never 25 = .ok (.iconst 2, 1) := by decide +kernel
theorem dX4_never_26 : decode cX4_never 26 = .ok (.iaload, 1) := by decide +kernel
theorem dX4_never_27 : decode cX4_never 27 = .ok (.ifCond .le 5, 3) := by decide +kernel
theorem dX4_never_30 : decode cX4_never 30 = .ok (.iload_n 1, 1) := by decide +kernel
theorem dX4_never_31 : decode cX4_never 31 = .ok (.ireturn, 1) := by decide +kernel
theorem dX4_never_32 : decode cX4_never 32 = .ok (.iinc 1 1, 3) := by decide +kernel
theorem dX4_never_35 : decode cX4_never 35 = .ok (.goto (-29), 3) := by decide +kernel
theorem dX4_never_38 : decode cX4_never 38 = .ok (.bipush 28, 2) := by decide +kernel
theorem dX4_never_40 : decode cX4_never 40 = .ok (.ireturn, 1) := by decide +kernel
theorem dX4_out_0 : decode cX4_out 0 = .ok (.iload_n 1, 1) := by decide +kernel
theorem dX4_out_1 : decode cX4_out 1 = .ok (.iconst 0, 1) := by decide +kernel
theorem dX4_out_2 : decode cX4_out 2 = .ok (.bipush 28, 2) := by decide +kernel
theorem dX4_out_4 : decode cX4_out 4 = .ok (.invokestatic 56, 3) := by decide +kernel
theorem dX4_out_7 : decode cX4_out 7 = .ok (.istore_n 2, 1) := by decide +kernel
theorem dX4_out_8 : decode cX4_out 8 = .ok (.iload_n 2, 1) := by decide +kernel
theorem dX4_out_9 : decode cX4_out 9 = .ok (.ifCond .eq 9, 3) := by decide +kernel
theorem dX4_out_12 : decode cX4_out 12 = .ok (.aload_n 0, 1) := by decide +kernel
theorem dX4_out_13 : decode cX4_out 13 = .ok (.iload_n 2, 1) := by decide +kernel
theorem dX4_out_14 : decode cX4_out 14 = .ok (.invokevirtual 64, 3) := by decide +kernel
theorem dX4_out_17 : decode cX4_out 17 = .ok (.ireturn, 1) := by decide +kernel
theorem dX4_out_18 : decode cX4_out 18 = .ok (.bipush 20, 2) := by decide +kernel
theorem dX4_out_20 : decode cX4_out 20 = .ok (.aload_n 0, 1) := by decide +kernel
theorem dX4_out_21 : decode cX4_out 21 = .ok (.getfield 12, 3) := by decide +kernel
theorem dX4_out_24 : decode cX4_out 24 = .ok (.invokevirtual 130, 3) := by decide +kernel
theorem dX4_out_27 : decode cX4_out 27 = .ok (.invokestatic 133, 3) := by decide +kernel
theorem dX4_out_30 : decode cX4_out 30 = .ok (.istore_n 3, 1) := by decide +kernel
theorem dX4_out_31 : decode cX4_out 31 = .ok (.aload_n 0, 1) := by decide +kernel
theorem dX4_out_32 : decode cX4_out 32 = .ok (.getfield 32, 3) := by decide +kernel
theorem dX4_out_35 : decode cX4_out 35 = .ok (.invokevirtual 138, 3) := by decide +kernel
theorem dX4_out_38 : decode cX4_out 38 = .ok (.iconst 0, 1) := by decide +kernel
theorem dX4_out_39 : decode cX4_out 39 = .ok (.istore 4, 2) := by decide +kernel
theorem dX4_out_41 : decode cX4_out 41 = .ok (.iload 4, 2) := by decide +kernel
theorem dX4_out_43 : decode cX4_out 43 = .ok (.iload_n 3, 1) := by decide +kernel
theorem dX4_out_44 : decode cX4_out 44 = .ok (.if_icmp .gt 49, 3) := by decide +kernel
theorem dX4_out_47 : decode cX4_out 47 = .ok (.aload_n 0, 1) := by decide +kernel
theorem dX4_out_48 : decode cX4_out 48 = .ok (.invokevirtual 124, 3) := by decide +kernel
theorem dX4_out_51 : decode cX4_out 51 = .ok (.aload_n 0, 1) := by decide +kernel
theorem dX4_out_52 : decode cX4_out 52 = .ok (.getfield 19, 3) := by decide +kernel
theorem dX4_out_55 : decode cX4_out 55 = .ok (.iload 4, 2) := by decide +kernel
theorem dX4_out_57 : decode cX4_out 57 = .ok (.invokevirtual 139, 3) := by decide +kernel
theorem dX4_out_60 : decode cX4_out 60 = .ok (.aload_n 0, 1) := by decide +kernel
theorem dX4_out_61 : decode cX4_out 61 = .ok (.getfield 32, 3) := by decide +kernel
theorem dX4_out_64 : decode cX4_out 64 = .ok (.iload 4, 2) := by decide +kernel
theorem dX4_out_66 : decode cX4_out 66 = .ok (.aload_n 0, 1) := by decide +kernel
theorem dX4_out_67 : decode cX4_out 67 = .ok (.iload_n 1, 1) := by decide +kernel
theorem dX4_out_68 : decode cX4_out 68 = .ok (.invokevirtual 127, 3) := by decide +kernel
theorem dX4_out_71 : decode cX4_out 71 = .ok (.iload 4, 2) := by decide +kernel
theorem dX4_out_73 : decode cX4_out 73 = .ok (.aload_n 0, 1) := by decide +kernel
theorem dX4_out_74 : decode cX4_out 74 = .ok (.getfield 12, 3) := by decide +kernel
theorem dX4_out_77 : decode cX4_out 77 = .ok (.getfield 103, 3) := by decide +kernel
theorem dX4_out_80 : decode cX4_out 80 = .ok (.iconst 3, 1) := by decide +kernel
theorem dX4_out_81 : decode cX4_out 81 = .ok (.iaload, 1) := by decide +kernel
theorem dX4_out_82 : decode cX4_out 82 = .ok (.imul, 1) := by decide +kernel
theorem dX4_out_83 : decode cX4_out 83 = .ok (.isub, 1) := by decide +kernel
theorem dX4_out_84 : decode cX4_out 84 = .ok (.invokevirtual 143, 3) := by decide +kernel
theorem dX4_out_87 : decode cX4_out 87 = .ok (.iinc 4 1, 3) := by decide +kernel
theorem dX4_out_90 : decode cX4_out 90 = .ok (.goto (-49), 3) := by decide +kernel
theorem dX4_out_93 : decode cX4_out 93 = .ok (.aload_n 0, 1) := by decide +kernel
theorem dX4_out_94 : decode cX4_out 94 = .ok (.getfield 32, 3) := by decide +kernel
theorem dX4_out_97 : decode cX4_out 97 = .ok (.getfield 147, 3) := by decide +kernel
theorem dX4_out_100 : decode cX4_out 100 = .ok (.ireturn, 1) := by decide +kernel
theorem dX4_less_0 : decode cX4_less 0 = .ok (.iload_n 1, 1) := by decide +kernel
theorem dX4_less_1 : decode cX4_less 1 = .ok (.iconst 0, 1) := by decide +kernel
theorem dX4_less_2 : decode cX4_less 2 = .ok (.bipush 28, 2) := by decide +kernel
theorem dX4_less_4 : decode cX4_less 4 = .ok (.invokestatic 56, 3) := by decide +kernel
theorem dX4_less_7 : decode cX4_less 7 = .ok (.istore_n 2, 1) := by decide +kernel
theorem dX4_less_8 : decode cX4_less 8 = .ok (.iload_n 2, 1) := by decide +kernel
theorem dX4_less_9 : decode cX4_less 9 = .ok (.ifCond .eq 9, 3) := by decide +kernel
theorem dX4_less_12 : decode cX4_less 12 = .ok (.aload_n 0, 1) := by decide +kernel
theorem dX4_less_13 : decode cX4_less 13 = .ok (.iload_n 2, 1) := by decide +kernel
theorem dX4_less_14 : decode cX4_less 14 = .ok (.invokevirtual 64, 3) := by decide +kernel
theorem dX4_less_17 : decode cX4_less 17 = .ok (.ireturn, 1) := by decide +kernel
theorem dX4_less_18 : decode cX4_less 18 = .ok (.aload_n 0, 1) := by decide +kernel
theorem dX4_less_19 : decode cX4_less 19 = .ok (.getfield 12, 3) := by decide +kernel
theorem dX4_less_22 : decode cX4_less 22 = .ok (.invokevirtual 150, 3) := by decide +kernel
theorem dX4_less_25 : decode cX4_less 25 = .ok (.ifCond .ne 6, 3) := by decide +kernel
theorem dX4_less_28 : decode cX4_less 28 = .ok (.bipush (-9), 2) := by decide +kernel
theorem dX4_less_30 : decode cX4_less 30 = .ok (.ireturn, 1) := by decide +kernel
theorem dX4_less_31 : decode cX4_less 31 = .ok (.aload_n 0, 1) := by decide +kernel
theorem dX4_less_32 : decode cX4_less 32 = .ok (.getfield 32, 3) := by decide +kernel
theorem dX4_less_35 : decode cX4_less 35 = .ok (.invokevirtual 138, 3) := by decide +kernel
theorem dX4_less_38 : decode cX4_less 38 = .ok (.iconst 0, 1) := by decide +kernel
theorem dX4_less_39 : decode cX4_less 39 = .ok (.istore_n 3, 1) := by decide +kernel
theorem dX4_less_40 : decode cX4_less 40 = .ok (.iload_n 3, 1) := by decide +kernel
theorem dX4_less_41 : decode cX4_less 41 = .ok (.aload_n 0, 1) := by decide +kernel
theorem dX4_less_42 : decode cX4_less 42 = .ok (.getfield 12, 3) := by decide +kernel
theorem dX4_less_45 : decode cX4_less 45 = .ok (.getfield 103, 3) := by decide +kernel
theorem dX4_less_48 : decode cX4_less 48 = .ok (.iconst 0, 1) := by decide +kernel
theorem dX4_less_49 : decode cX4_less 49 = .ok (.iaload, 1) := by decide +kernel
theorem dX4_less_50 : decode cX4_less 50 = .ok (.if_icmp .gt 34, 3) := by decide +kernel
theorem dX4_less_53 : decode cX4_less 53 = .ok (.aload_n 0, 1) := by decide +kernel
theorem dX4_less_54 : decode cX4_less 54 = .ok (.invokevirtual 124, 3) := by decide +kernel
theorem dX4_less_57 : decode cX4_less 57 = .ok (.aload_n 0, 1) := by decide +kernel
theorem dX4_less_58 : decode cX4_less 58 = .ok (.getfield 19, 3) := by decide +kernel
theorem dX4_less_61 : decode cX4_less 61 = .ok (.iload_n 3, 1) := by decide +kernel
theorem dX4_less_62 : decode cX4_less 62 = .ok (.putfield 153, 3) := by decide +kernel
theorem dX4_less_65 : decode cX4_less 65 = .ok (.aload_n 0, 1) := by decide +kernel
theorem dX4_less_66 : decode cX4_less 66 = .ok (.getfield 32, 3) := by decide +kernel
theorem dX4_less_69 : decode cX4_less 69 = .ok (.iload_n 3, 1) := by decide +kernel
theorem dX4_less_70 : decode cX4_less 70 = .ok (.aload_n 0, 1) := by decide +kernel
theorem dX4_less_71 : decode cX4_less 71 = .ok (.iload_n 1, 1) := by decide +kernel
theorem dX4_less_72 : decode cX4_less 72 = .ok (.invokevirtual 127, 3) := by decide +kernel
theorem dX4_less_75 : decode cX4_less 75 = .ok (.invokevirtual 143, 3) := by decide +kernel
theorem dX4_less_78 : decode cX4_less 78 = .ok (.iinc 3 1, 3) := by decide +kernel
theorem dX4_less_81 : decode cX4_less 81 = .ok (.goto (-41), 3) := by decide +kernel
theorem dX4_less_84 : decode cX4_less 84 = .ok (.aload_n 0, 1) := by decide +kernel
theorem dX4_less_85 : decode cX4_less 85 = .ok (.getfield 32, 3) := by decide +kernel
theorem dX4_less_88 : decode cX4_less 88 = .ok (.getfield 147, 3) := by decide +kernel
theorem dX4_less_91 : decode cX4_less 91 = .ok (.ireturn, 1) := by decide +kernel
theorem dX4_best_0 : decode cX4_best 0 = .ok (.iload_n 1, 1) := by decide +kernel
theorem dX4_best_1 : decode cX4_best 1 = .ok (.iconst 0, 1) := by decide +kernel
theorem dX4_best_2 : decode cX4_best 2 = .ok (.bipush 28, 2) := by decide +kernel
theorem dX4_best_4 : decode cX4_best 4 = .ok (.invokestatic 56, 3) := by decide +kernel
theorem dX4_best_7 : decode cX4_best 7 = .ok (.istore_n 2, 1) := by decide +kernel
theorem dX4_best_8 : decode cX4_best 8 = .ok (.iload_n 2, 1) := by decide +kernel
theorem dX4_best_9 : decode cX4_best 9 = .ok (.ifCond .eq 11, 3) := by decide +kernel
theorem dX4_best_12 : decode cX4_best 12 = .ok (.aload_n 0, 1) := by decide +kernel
theorem dX4_best_13 : decode cX4_best 13 = .ok (.iload_n 2, 1) := by decide +kernel
theorem dX4_best_14 : decode cX4_best 14 = .ok (.invokevirtual 64, 3) := by decide +kernel
theorem dX4_best_17 : decode cX4_best 17 = .ok (.goto 9, 3) := by decide +kernel
theorem dX4_best_20 : decode cX4_best 20 = .ok (.aload_n 0, 1) := by decide +kernel
theorem dX4_best_21 : decode cX4_best 21 = .ok (.iconst 5, 1) := by decide +kernel
theorem dX4_best_22 : decode cX4_best 22 = .ok (.iload_n 1, 1) := by decide +kernel
theorem dX4_best_23 : decode cX4_best 23 = .ok (.invokevirtual 156, 3) := by decide +kernel
theorem dX4_best_26 : decode cX4_best 26 = .ok (.ireturn, 1) := by decide +kernel
theorem dX4_buying_0 : decode cX4_buying 0 = .ok (.iload_n 1, 1) := by decide +kernel
theorem dX4_buying_1 : decode cX4_buying 1 = .ok (.iconst 0, 1) := by decide +kernel
theorem dX4_buying_2 : decode cX4_buying 2 = .ok (.bipush 28, 2) := by decide +kernel
theorem dX4_buying_4 : decode cX4_buying 4 = .ok (.invokestatic 56, 3) := by decide +kernel
theorem dX4_buying_7 : decode cX4_buying 7 = .ok (.istore_n 2, 1) := by decide +kernel
theorem dX4_buying_8 : decode cX4_buying 8 = .ok (.iload_n 2, 1) := by decide +kernel
theorem dX4_buying_9 : decode cX4_buying 9 = .ok (.ifCond .eq 11, 3) := by decide +kernel
theorem dX4_buying_12 : decode cX4_buying 12 = .ok (.aload_n 0, 1) := by decide +kernel
theorem dX4_buying_13 : decode cX4_buying 13 = .ok (.iload_n 2, 1) := by decide +kernel
theorem dX4_buying_14 : decode cX4_buying 14 = .ok (.invokevirtual 64, 3) := by decide +kernel
theorem dX4_buying_17 : decode cX4_buying 17 = .ok (.goto 9, 3) := by decide +kernel
theorem dX4_buying_20 : decode cX4_buying 20 = .ok (.aload_n 0, 1) := by decide +kernel
theorem dX4_buying_21 : decode cX4_buying 21 = .ok (.iconst 0, 1) := by decide +kernel
theorem dX4_buying_22 : decode cX4_buying 22 = .ok (.iload_n 1, 1) := by decide +kernel
theorem dX4_buying_23 : decode cX4_buying 23 = .ok (.invokevirtual 156, 3) := by decide +kernel
theorem dX4_buying_26 : decode cX4_buying 26 = .ok (.ireturn, 1) := by decide +kernel
theorem dX4_close_0 : decode cX4_close 0 = .ok (.aload_n 0, 1) := by decide +kernel
theorem dX4_close_1 : decode cX4_close 1 = .ok (.getfield 32, 3) := by decide +kernel
theorem dX4_close_4 : decode cX4_close 4 = .ok (.invokevirtual 138, 3) := by decide +kernel
theorem dX4_close_7 : decode cX4_close 7 = .ok (.iconst 0, 1) := by decide +kernel
theorem dX4_close_8 : decode cX4_close 8 = .ok (.istore_n 1, 1) := by decide +kernel
theorem dX4_close_9 : decode cX4_close 9 = .ok (.iload_n 1, 1) := by decide +kernel
theorem dX4_close_10 : decode cX4_close 10 = .ok (.bipush 7, 2) := by decide +kernel
theorem dX4_close_12 : decode cX4_close 12 = .ok (.if_icmp .ge 50, 3) := by decide +kernel
theorem dX4_close_15 : decode cX4_close 15 = .ok (.aload_n 0, 1) := by decide +kernel
theorem dX4_close_16 : decode cX4_close 16 = .ok (.getfield 12, 3) := by decide +kernel
theorem dX4_close_19 : decode cX4_close 19 = .ok (.getfield 97, 3) := by decide +kernel
theorem dX4_close_22 : decode cX4_close 22 = .ok (.iload_n 1, 1) := by decide +kernel
theorem dX4_close_23 : decode cX4_close 23 = .ok (.iaload, 1) := by decide +kernel
theorem dX4_close_24 : decode cX4_close 24 = .ok (.iconst 1, 1) := by decide +kernel
theorem dX4_close_25 : decode cX4_close 25 = .ok (.if_icmp .ne 31, 3) := by decide +kernel
theorem dX4_close_28 : decode cX4_close 28 = .ok (.aload_n 0, 1) := by decide +kernel
theorem dX4_close_29 : decode cX4_close 29 = .ok (.invokevirtual 124, 3) := by decide +kernel
theorem dX4_close_32 : decode cX4_close 32 = .ok (.aload_n 0, 1) := by decide +kernel
theorem dX4_close_33 : decode cX4_close 33 = .ok (.getfield 19, 3) := by decide +kernel
theorem dX4_close_36 : decode cX4_close 36 = .ok (.getfield 97, 3) := by decide +kernel
theorem dX4_close_39 : decode cX4_close 39 = .ok (.iload_n 1, 1) := by decide +kernel
theorem dX4_close_40 : decode cX4_close 40 = .ok (.iconst 0, 1) := by decide +kernel
theorem dX4_close_41 : decode cX4_close 41 = .ok (.iastore, 1) := by decide +kernel
theorem dX4_close_42 : decode cX4_close 42 = .ok (.aload_n 0, 1) := by decide +kernel
theorem dX4_close_43 : decode cX4_close 43 = .ok (.getfield 32, 3) := by decide +kernel
theorem dX4_close_46 : decode cX4_close 46 = .ok (.iload_n 1, 1) := by decide +kernel
theorem dX4_close_47 : decode cX4_close 47 = .ok (.aload_n 0, 1) := by decide +kernel
theorem dX4_close_48 : decode cX4_close 48 = .ok (.bipush 14, 2) := by decide +kernel
theorem dX4_close_50 : decode cX4_close 50 = .ok (.invokevirtual 127, 3) := by decide +kernel
theorem dX4_close_53 : decode cX4_close 53 = .ok (.invokevirtual 143, 3) := by decide +kernel
theorem dX4_close_56 : decode cX4_close 56 = .ok (.iinc 1 1, 3) := by decide +kernel
theorem dX4_close_59 : decode cX4_close 59 = .ok (.goto (-50), 3) := by decide +kernel
theorem dX4_close_62 : decode cX4_close 62 = .ok (.aload_n 0, 1) := by decide +kernel
theorem dX4_close_63 : decode cX4_close 63 = .ok (.getfield 32, 3) := by decide +kernel
theorem dX4_close_66 : decode cX4_close 66 = .ok (.getfield 147, 3) := by decide +kernel
theorem dX4_close_69 : decode cX4_close 69 = .ok (.ireturn, 1) := by decide +kernel
theorem dX4_half_0 : decode cX4_half 0 = .ok (.iload_n 1, 1) := by decide +kernel
theorem dX4_half_1 : decode cX4_half 1 = .ok (.iconst 0, 1) := by decide +kernel
theorem dX4_half_2 : decode cX4_half 2 = .ok (.bipush 28, 2) := by decide +kernel
theorem dX4_half_4 : decode cX4_half 4 = .ok (.invokestatic 56, 3) := by decide +kernel
theorem dX4_half_7 : decode cX4_half 7 = .ok (.istore_n 2, 1) := by decide +kernel
theorem dX4_half_8 : decode cX4_half 8 = .ok (.iload_n 2, 1) := by decide +kernel
theorem dX4_half_9 : decode cX4_half 9 = .ok (.ifCond .eq 11, 3) := by decide +kernel
theorem dX4_half_12 : decode cX4_half 12 = .ok (.aload_n 0, 1) := by decide +kernel
theorem dX4_half_13 : decode cX4_half 13 = .ok (.iload_n 2, 1) := by decide +kernel
theorem dX4_half_14 : decode cX4_half 14 = .ok (.invokevirtual 64, 3) := by decide +kernel
theorem dX4_half_17 : decode cX4_half 17 = .ok (.goto 9, 3) := by decide +kernel
theorem dX4_half_20 : decode cX4_half 20 = .ok (.aload_n 0, 1) := by decide +kernel
theorem dX4_half_21 : decode cX4_half 21 = .ok (.iconst 1, 1) := by decide +kernel
theorem dX4_half_22 : decode cX4_half 22 = .ok (.iload_n 1, 1) := by decide +kernel
theorem dX4_half_23 : decode cX4_half 23 = .ok (.invokevirtual 156, 3) := by decide +kernel
theorem dX4_half_26 : decode cX4_half 26 = .ok (.ireturn, 1) := by decide +kernel
theorem dX4_pays_0 : decode cX4_pays 0 = .ok (.iload_n 1, 1) := by decide +kernel
theorem dX4_pays_1 : decode cX4_pays 1 = .ok (.iconst 0, 1) := by decide +kernel
theorem dX4_pays_2 : decode cX4_pays 2 = .ok (.bipush 28, 2) := by decide +kernel
theorem dX4_pays_4 : decode cX4_pays 4 = .ok (.invokestatic 56, 3) := by decide +kernel
theorem dX4_pays_7 : decode cX4_pays 7 = .ok (.istore_n 2, 1) := by decide +kernel
theorem dX4_pays_8 : decode cX4_pays 8 = .ok (.iload_n 2, 1) := by decide +kernel
theorem dX4_pays_9 : decode cX4_pays 9 = .ok (.ifCond .eq 12, 3) := by decide +kernel
theorem dX4_pays_12 : decode cX4_pays 12 = .ok (.ldc 113, 2) := by decide +kernel
theorem dX4_pays_14 : decode cX4_pays 14 = .ok (.aload_n 0, 1) := by decide +kernel
theorem dX4_pays_15 : decode cX4_pays 15 = .ok (.iload_n 2, 1) := by decide +kernel
theorem dX4_pays_16 : decode cX4_pays 16 = .ok (.invokevirtual 64, 3) := by decide +kernel
theorem dX4_pays_19 : decode cX4_pays 19 = .ok (.isub, 1) := by decide +kernel
theorem dX4_pays_20 : decode cX4_pays 20 = .ok (.ireturn, 1) := by decide +kernel
theorem dX4_pays_21 : decode cX4_pays 21 = .ok (.aload_n 0, 1) := by decide +kernel
theorem dX4_pays_22 : decode cX4_pays 22 = .ok (.iconst 1, 1) := by decide +kernel
theorem dX4_pays_23 : decode cX4_pays 23 = .ok (.iload_n 1, 1) := by decide +kernel
theorem dX4_pays_24 : decode cX4_pays 24 = .ok (.invokevirtual 156, 3) := by decide +kernel
theorem dX4_pays_27 : decode cX4_pays 27 = .ok (.pop, 1) := by decide +kernel
theorem dX4_pays_28 : decode cX4_pays 28 = .ok (.aload_n 0, 1) := by decide +kernel
theorem dX4_pays_29 : decode cX4_pays 29 = .ok (.invokevirtual 124, 3) := by decide +kernel
theorem dX4_pays_32 : decode cX4_pays 32 = .ok (.aload_n 0, 1) := by decide +kernel
theorem dX4_pays_33 : decode cX4_pays 33 = .ok (.getfield 19, 3) := by decide +kernel
theorem dX4_pays_36 : decode cX4_pays 36 = .ok (.getfield 103, 3) := by decide +kernel
theorem dX4_pays_39 : decode cX4_pays 39 = .ok (.iconst 1, 1) := by decide +kernel
theorem dX4_pays_40 : decode cX4_pays 40 = .ok (.iconst 0, 1) := by decide +kernel
theorem dX4_pays_41 : decode cX4_pays 41 = .ok (.iastore, 1) := by decide +kernel
theorem dX4_pays_42 : decode cX4_pays 42 = .ok (.aload_n 0, 1) := by decide +kernel
theorem dX4_pays_43 : decode cX4_pays 43 = .ok (.getfield 32, 3) := by decide +kernel
theorem dX4_pays_46 : decode cX4_pays 46 = .ok (.getfield 159, 3) := by decide +kernel
theorem dX4_pays_49 : decode cX4_pays 49 = .ok (.aload_n 0, 1) := by decide +kernel
theorem dX4_pays_50 : decode cX4_pays 50 = .ok (.iload_n 1, 1) := by decide +kernel
theorem dX4_pays_51 : decode cX4_pays 51 = .ok (.invokevirtual 127, 3) := by decide +kernel
theorem dX4_pays_54 : decode cX4_pays 54 = .ok (.isub, 1) := by decide +kernel
theorem dX4_pays_55 : decode cX4_pays 55 = .ok (.ireturn, 1) := by decide +kernel
theorem dX4_mean_0 : decode cX4_mean 0 = .ok (.iload_n 1, 1) := by decide +kernel
theorem dX4_mean_1 : decode cX4_mean 1 = .ok (.iconst 0, 1) := by decide +kernel
theorem dX4_mean_2 : decode cX4_mean 2 = .ok (.iconst 1, 1) := by decide +kernel
theorem dX4_mean_3 : decode cX4_mean 3 = .ok (.invokestatic 83, 3) := by decide +kernel
theorem dX4_mean_6 : decode cX4_mean 6 = .ok (.ifCond .ne 15, 3) := by decide +kernel
theorem dX4_mean_9 : decode cX4_mean 9 = .ok (.ldc2_w 162, 3) := by decide +kernel
theorem dX4_mean_12 : decode cX4_mean 12 = .ok (.aload_n 0, 1) := by decide +kernel
theorem dX4_mean_13 : decode cX4_mean 13 = .ok (.bipush (-2), 2) := by decide +kernel
theorem dX4_mean_15 : decode cX4_mean 15 = .ok (.invokevirtual 64, 3) := by decide +kernel
theorem dX4_mean_18 : decode cX4_mean 18 = .ok (.i2l, 1) := by decide +kernel
theorem dX4_mean_19 : decode cX4_mean 19 = .ok (.lsub, 1) := by decide +kernel
theorem dX4_mean_20 : decode cX4_mean 20 = .ok (.lreturn, 1) := by decide +kernel
theorem dX4_mean_21 : decode cX4_mean 21 = .ok (.lconst 1, 1) := by decide +kernel
theorem dX4_mean_22 : decode cX4_mean 22 = .ok (.lstore_n 2, 1) := by decide +kernel
theorem dX4_mean_23 : decode cX4_mean 23 = .ok (.iconst 0, 1) := by decide +kernel
theorem dX4_mean_24 : decode cX4_mean 24 = .ok (.istore 4, 2) := by decide +kernel
theorem dX4_mean_26 : decode cX4_mean 26 = .ok (.iload 4, 2) := by decide +kernel
theorem dX4_mean_28 : decode cX4_mean 28 = .ok (.aload_n 0, 1) := by decide +kernel
theorem dX4_mean_29 : decode cX4_mean 29 = .ok (.getfield 12, 3) := by decide +kernel
theorem dX4_mean_32 : decode cX4_mean 32 = .ok (.getfield 164, 3) := by decide +kernel
theorem dX4_mean_35 : decode cX4_mean 35 = .ok (.if_icmp .ge 15, 3) := by decide +kernel
theorem dX4_mean_38 : decode cX4_mean 38 = .ok (.lload_n 2, 1) := by decide +kernel
theorem dX4_mean_39 : decode cX4_mean 39 = .ok (.ldc2_w 167, 3) := by decide +kernel
theorem dX4_mean_42 : decode cX4_mean 42 = .ok (.lmul, 1) := by decide +kernel
theorem dX4_mean_43 : decode cX4_mean 43 = .ok (.lstore_n 2, 1) := by decide +kernel
theorem dX4_mean_44 : decode cX4_mean 44 = .ok (.iinc 4 1, 3) := by decide +kernel
theorem dX4_mean_47 : decode cX4_mean 47 = .ok (.goto (-21), 3) := by decide +kernel
theorem dX4_mean_50 : decode cX4_mean 50 = .ok (.lconst 0, 1) := by decide +kernel
theorem dX4_mean_51 : decode cX4_mean 51 = .ok (.lstore 4, 2) := by decide +kernel
theorem dX4_mean_53 : decode cX4_mean 53 = .ok (.iconst 0, 1) := by decide +kernel
theorem dX4_mean_54 : decode cX4_mean 54 = .ok (.istore 6, 2) := by decide +kernel
theorem dX4_mean_56 : decode cX4_mean 56 = .ok (.iload 6, 2) := by decide +kernel
theorem dX4_mean_58 : decode cX4_mean 58 = .ok (.iconst 1, 1) := by decide +kernel
theorem dX4_mean_59 : decode cX4_mean 59 = .ok (.aload_n 0, 1) := by decide +kernel
theorem dX4_mean_60 : decode cX4_mean 60 = .ok (.getfield 12, 3) := by decide +kernel
theorem dX4_mean_63 : decode cX4_mean 63 = .ok (.getfield 164, 3) := by decide +kernel
theorem dX4_mean_66 : decode cX4_mean 66 = .ok (.ishl, 1) := by decide +kernel
theorem dX4_mean_67 : decode cX4_mean 67 = .ok (.if_icmp .ge 28, 3) := by decide +kernel
theorem dX4_mean_70 : decode cX4_mean 70 = .ok (.lload 4, 2) := by decide +kernel
theorem dX4_mean_72 : decode cX4_mean 72 = .ok (.aload_n 0, 1) := by decide +kernel
theorem dX4_mean_73 : decode cX4_mean 73 = .ok (.iload 6, 2) := by decide +kernel
theorem dX4_mean_75 : decode cX4_mean 75 = .ok (.invokevirtual 169, 3) := by decide +kernel
theorem dX4_mean_78 : decode cX4_mean 78 = .ok (.aload_n 0, 1) := by decide +kernel
theorem dX4_mean_79 : decode cX4_mean 79 = .ok (.iload 6, 2) := by decide +kernel
theorem dX4_mean_81 : decode cX4_mean 81 = .ok (.invokevirtual 173, 3) := by decide +kernel
theorem dX4_mean_84 : decode cX4_mean 84 = .ok (.i2l, 1) := by decide +kernel
theorem dX4_mean_85 : decode cX4_mean 85 = .ok (.lmul, 1) := by decide +kernel
theorem dX4_mean_86 : decode cX4_mean 86 = .ok (.ladd, 1) := by decide +kernel
theorem dX4_mean_87 : decode cX4_mean 87 = .ok (.lstore 4, 2) := by decide +kernel
theorem dX4_mean_89 : decode cX4_mean 89 = .ok (.iinc 6 1, 3) := by decide +kernel
theorem dX4_mean_92 : decode cX4_mean 92 = .ok (.goto (-36), 3) := by decide +kernel
theorem dX4_mean_95 : decode cX4_mean 95 = .ok (.lload_n 2, 1) := by decide +kernel
theorem dX4_mean_96 : decode cX4_mean 96 = .ok (.lload 4, 2) := by decide +kernel
theorem dX4_mean_98 : decode cX4_mean 98 = .ok (.invokestatic 176, 3) := by decide +kernel
theorem dX4_mean_101 : decode cX4_mean 101 = .ok (.invokestatic 180, 3) := by decide +kernel
theorem dX4_mean_104 : decode cX4_mean 104 = .ok (.lstore 6, 2) := by decide +kernel
theorem dX4_mean_106 : decode cX4_mean 106 = .ok (.iload_n 1, 1) := by decide +kernel
theorem dX4_mean_107 : decode cX4_mean 107 = .ok (.ifCond .ne 8, 3) := by decide +kernel
theorem dX4_mean_110 : decode cX4_mean 110 = .ok (.lload 4, 2) := by decide +kernel
theorem dX4_mean_112 : decode cX4_mean 112 = .ok (.goto 4, 3) := by decide +kernel
theorem dX4_mean_115 : decode cX4_mean 115 = .ok (.lload_n 2, 1) := by decide +kernel
theorem dX4_mean_116 : decode cX4_mean 116 = .ok (.lload 6, 2) := by decide +kernel
theorem dX4_mean_118 : decode cX4_mean 118 = .ok (.ldiv, 1) := by decide +kernel
theorem dX4_mean_119 : decode cX4_mean 119 = .ok (.lreturn, 1) := by decide +kernel
theorem dX4_likes_0 : decode cX4_likes 0 = .ok (.aload_n 0, 1) := by decide +kernel
theorem dX4_likes_1 : decode cX4_likes 1 = .ok (.getfield 12, 3) := by decide +kernel
theorem dX4_likes_4 : decode cX4_likes 4 = .ok (.iload_n 1, 1) := by decide +kernel
theorem dX4_likes_5 : decode cX4_likes 5 = .ok (.invokevirtual 79, 3) := by decide +kernel
theorem dX4_likes_8 : decode cX4_likes 8 = .ok (.ifCond .ne 9, 3) := by decide +kernel
theorem dX4_likes_11 : decode cX4_likes 11 = .ok (.aload_n 0, 1) := by decide +kernel
theorem dX4_likes_12 : decode cX4_likes 12 = .ok (.iconst (-1), 1) := by decide +kernel
theorem dX4_likes_13 : decode cX4_likes 13 = .ok (.invokevirtual 64, 3) := by decide +kernel
theorem dX4_likes_16 : decode cX4_likes 16 = .ok (.ireturn, 1) := by decide +kernel
theorem dX4_likes_17 : decode cX4_likes 17 = .ok (.aload_n 0, 1) := by decide +kernel
theorem dX4_likes_18 : decode cX4_likes 18 = .ok (.getfield 32, 3) := by decide +kernel
theorem dX4_likes_21 : decode cX4_likes 21 = .ok (.invokevirtual 138, 3) := by decide +kernel
theorem dX4_likes_24 : decode cX4_likes 24 = .ok (.iconst 0, 1) := by decide +kernel
theorem dX4_likes_25 : decode cX4_likes 25 = .ok (.istore_n 2, 1) := by decide +kernel
theorem dX4_likes_26 : decode cX4_likes 26 = .ok (.iload_n 2, 1) := by decide +kernel
theorem dX4_likes_27 : decode cX4_likes 27 = .ok (.iconst 5, 1) := by decide +kernel
theorem dX4_likes_28 : decode cX4_likes 28 = .ok (.if_icmp .ge 33, 3) := by decide +kernel
theorem dX4_likes_31 : decode cX4_likes 31 = .ok (.aload_n 0, 1) := by decide +kernel
theorem dX4_likes_32 : decode cX4_likes 32 = .ok (.getfield 12, 3) := by decide +kernel
theorem dX4_likes_35 : decode cX4_likes 35 = .ok (.iload_n 1, 1) := by decide +kernel
theorem dX4_likes_36 : decode cX4_likes 36 = .ok (.iload_n 2, 1) := by decide +kernel
theorem dX4_likes_37 : decode cX4_likes 37 = .ok (.invokevirtual 106, 3) := by decide +kernel
theorem dX4_likes_40 : decode cX4_likes 40 = .ok (.istore_n 3, 1) := by decide +kernel
theorem dX4_likes_41 : decode cX4_likes 41 = .ok (.iload_n 3, 1) := by decide +kernel
theorem dX4_likes_42 : decode cX4_likes 42 = .ok (.iconst (-1), 1) := by decide +kernel
theorem dX4_likes_43 : decode cX4_likes 43 = .ok (.if_icmp .eq 12, 3) := by decide +kernel
theorem dX4_likes_46 : decode cX4_likes 46 = .ok (.aload_n 0, 1) := by decide +kernel
theorem dX4_likes_47 : decode cX4_likes 47 = .ok (.getfield 32, 3) := by decide +kernel
theorem dX4_likes_50 : decode cX4_likes 50 = .ok (.iload_n 2, 1) := by decide +kernel
theorem dX4_likes_51 : decode cX4_likes 51 = .ok (.iload_n 3, 1) := by decide +kernel
theorem dX4_likes_52 : decode cX4_likes 52 = .ok (.invokevirtual 143, 3) := by decide +kernel
theorem dX4_likes_55 : decode cX4_likes 55 = .ok (.iinc 2 1, 3) := by decide +kernel
theorem dX4_likes_58 : decode cX4_likes 58 = .ok (.goto (-32), 3) := by decide +kernel
theorem dX4_likes_61 : decode cX4_likes 61 = .ok (.aload_n 0, 1) := by decide +kernel
theorem dX4_likes_62 : decode cX4_likes 62 = .ok (.getfield 32, 3) := by decide +kernel
theorem dX4_likes_65 : decode cX4_likes 65 = .ok (.getfield 147, 3) := by decide +kernel
theorem dX4_likes_68 : decode cX4_likes 68 = .ok (.ireturn, 1) := by decide +kernel
theorem dX4_whose_0 : decode cX4_whose 0 = .ok (.iload_n 1, 1) := by decide +kernel
theorem dX4_whose_1 : decode cX4_whose 1 = .ok (.invokestatic 91, 3) := by decide +kernel
theorem dX4_whose_4 : decode cX4_whose 4 = .ok (.ifCond .ne 9, 3) := by decide +kernel
theorem dX4_whose_7 : decode cX4_whose 7 = .ok (.aload_n 0, 1) := by decide +kernel
theorem dX4_whose_8 : decode cX4_whose 8 = .ok (.iconst (-1), 1) := by decide +kernel
theorem dX4_whose_9 : decode cX4_whose 9 = .ok (.invokevirtual 64, 3) := by decide +kernel
theorem dX4_whose_12 : decode cX4_whose 12 = .ok (.ireturn, 1) := by decide +kernel
theorem dX4_whose_13 : decode cX4_whose 13 = .ok (.aload_n 0, 1) := by decide +kernel
theorem dX4_whose_14 : decode cX4_whose 14 = .ok (.getfield 32, 3) := by decide +kernel
theorem dX4_whose_17 : decode cX4_whose 17 = .ok (.invokevirtual 138, 3) := by decide +kernel
theorem dX4_whose_20 : decode cX4_whose 20 = .ok (.iconst 0, 1) := by decide +kernel
theorem dX4_whose_21 : decode cX4_whose 21 = .ok (.istore_n 2, 1) := by decide +kernel
theorem dX4_whose_22 : decode cX4_whose 22 = .ok (.iload_n 2, 1) := by decide +kernel
theorem dX4_whose_23 : decode cX4_whose 23 = .ok (.aload_n 0, 1) := by decide +kernel
theorem dX4_whose_24 : decode cX4_whose 24 = .ok (.getfield 12, 3) := by decide +kernel
theorem dX4_whose_27 : decode cX4_whose 27 = .ok (.getfield 164, 3) := by decide +kernel
theorem dX4_whose_30 : decode cX4_whose 30 = .ok (.if_icmp .ge 33, 3) := by decide +kernel
theorem dX4_whose_33 : decode cX4_whose 33 = .ok (.aload_n 0, 1) := by decide +kernel
theorem dX4_whose_34 : decode cX4_whose 34 = .ok (.getfield 12, 3) := by decide +kernel
theorem dX4_whose_37 : decode cX4_whose 37 = .ok (.iload_n 2, 1) := by decide +kernel
theorem dX4_whose_38 : decode cX4_whose 38 = .ok (.iload_n 1, 1) := by decide +kernel
theorem dX4_whose_39 : decode cX4_whose 39 = .ok (.invokevirtual 106, 3) := by decide +kernel
theorem dX4_whose_42 : decode cX4_whose 42 = .ok (.istore_n 3, 1) := by decide +kernel
theorem dX4_whose_43 : decode cX4_whose 43 = .ok (.iload_n 3, 1) := by decide +kernel
theorem dX4_whose_44 : decode cX4_whose 44 = .ok (.iconst (-1), 1) := by decide +kernel
theorem dX4_whose_45 : decode cX4_whose 45 = .ok (.if_icmp .eq 12, 3) := by decide +kernel
theorem dX4_whose_48 : decode cX4_whose 48 = .ok (.aload_n 0, 1) := by decide +kernel
theorem dX4_whose_49 : decode cX4_whose 49 = .ok (.getfield 32, 3) := by decide +kernel
theorem dX4_whose_52 : decode cX4_whose 52 = .ok (.iload_n 2, 1) := by decide +kernel
theorem dX4_whose_53 : decode cX4_whose 53 = .ok (.iload_n 3, 1) := by decide +kernel
theorem dX4_whose_54 : decode cX4_whose 54 = .ok (.invokevirtual 143, 3) := by decide +kernel
theorem dX4_whose_57 : decode cX4_whose 57 = .ok (.iinc 2 1, 3) := by decide +kernel
theorem dX4_whose_60 : decode cX4_whose 60 = .ok (.goto (-38), 3) := by decide +kernel
theorem dX4_whose_63 : decode cX4_whose 63 = .ok (.aload_n 0, 1) := by decide +kernel
theorem dX4_whose_64 : decode cX4_whose 64 = .ok (.getfield 32, 3) := by decide +kernel
theorem dX4_whose_67 : decode cX4_whose 67 = .ok (.getfield 147, 3) := by decide +kernel
theorem dX4_whose_70 : decode cX4_whose 70 = .ok (.ireturn, 1) := by decide +kernel
theorem dX4_share_0 : decode cX4_share 0 = .ok (.aload_n 0, 1) := by decide +kernel
theorem dX4_share_1 : decode cX4_share 1 = .ok (.getfield 50, 3) := by decide +kernel
theorem dX4_share_4 : decode cX4_share 4 = .ok (.iconst (-1), 1) := by decide +kernel
theorem dX4_share_5 : decode cX4_share 5 = .ok (.invokestatic 184, 3) := by decide +kernel
theorem dX4_share_8 : decode cX4_share 8 = .ok (.aload_n 0, 1) := by decide +kernel
theorem dX4_share_9 : decode cX4_share 9 = .ok (.getfield 50, 3) := by decide +kernel
theorem dX4_share_12 : decode cX4_share 12 = .ok (.iconst 0, 1) := by decide +kernel
theorem dX4_share_13 : decode cX4_share 13 = .ok (.iconst 0, 1) := by decide +kernel
theorem dX4_share_14 : decode cX4_share 14 = .ok (.iastore, 1) := by decide +kernel
theorem dX4_share_15 : decode cX4_share 15 = .ok (.bipush 6, 2) := by decide +kernel
theorem dX4_share_17 : decode cX4_share 17 = .ok (.istore_n 1, 1) := by decide +kernel
theorem dX4_share_18 : decode cX4_share 18 = .ok (.iconst 0, 1) := by decide +kernel
theorem dX4_share_19 : decode cX4_share 19 = .ok (.istore_n 2, 1) := by decide +kernel
theorem dX4_share_20 : decode cX4_share 20 = .ok (.iload_n 2, 1) := by decide +kernel
theorem dX4_share_21 : decode cX4_share 21 = .ok (.iconst 5, 1) := by decide +kernel
theorem dX4_share_22 : decode cX4_share 22 = .ok (.if_icmp .ge 47, 3) := by decide +kernel
theorem dX4_share_25 : decode cX4_share 25 = .ok (.iload_n 1, 1) := by decide +kernel
theorem dX4_share_26 : decode cX4_share 26 = .ok (.aload_n 0, 1) := by decide +kernel
theorem dX4_share_27 : decode cX4_share 27 = .ok (.getfield 12, 3) := by decide +kernel
theorem dX4_share_30 : decode cX4_share 30 = .ok (.getfield 94, 3) := by decide +kernel
theorem dX4_share_33 : decode cX4_share 33 = .ok (.iload_n 2, 1) := by decide +kernel
theorem dX4_share_34 : decode cX4_share 34 = .ok (.iaload, 1) := by decide +kernel
theorem dX4_share_35 : decode cX4_share 35 = .ok (.invokestatic 133, 3) := by decide +kernel
theorem dX4_share_38 : decode cX4_share 38 = .ok (.istore_n 3, 1) := by decide +kernel
theorem dX4_share_39 : decode cX4_share 39 = .ok (.iconst 0, 1) := by decide +kernel
theorem dX4_share_40 : decode cX4_share 40 = .ok (.istore 4, 2) := by decide +kernel
theorem dX4_share_42 : decode cX4_share 42 = .ok (.iload 4, 2) := by decide +kernel
theorem dX4_share_44 : decode cX4_share 44 = .ok (.iload_n 3, 1) := by decide +kernel
theorem dX4_share_45 : decode cX4_share 45 = .ok (.if_icmp .ge 14, 3) := by decide +kernel
theorem dX4_share_48 : decode cX4_share 48 = .ok (.aload_n 0, 1) := by decide +kernel
theorem dX4_share_49 : decode cX4_share 49 = .ok (.iload_n 2, 1) := by decide +kernel
theorem dX4_share_50 : decode cX4_share 50 = .ok (.invokevirtual 190, 3) := by decide +kernel
theorem dX4_share_53 : decode cX4_share 53 = .ok (.iinc 4 1, 3) := by decide +kernel
theorem dX4_share_56 : decode cX4_share 56 = .ok (.goto (-14), 3) := by decide +kernel
theorem dX4_share_59 : decode cX4_share 59 = .ok (.iload_n 1, 1) := by decide +kernel
theorem dX4_share_60 : decode cX4_share 60 = .ok (.iload_n 3, 1) := by decide +kernel
theorem dX4_share_61 : decode cX4_share 61 = .ok (.isub, 1) := by decide +kernel
theorem dX4_share_62 : decode cX4_share 62 = .ok (.istore_n 1, 1) := by decide +kernel
theorem dX4_share_63 : decode cX4_share 63 = .ok (.iinc 2 1, 3) := by decide +kernel
theorem dX4_share_66 : decode cX4_share 66 = .ok (.goto (-46), 3) := by decide +kernel
theorem dX4_share_69 : decode cX4_share 69 = .ok (.aload_n 0, 1) := by decide +kernel
theorem dX4_share_70 : decode cX4_share 70 = .ok (.getfield 50, 3) := by decide +kernel
theorem dX4_share_73 : decode cX4_share 73 = .ok (.invokestatic 193, 3) := by decide +kernel
theorem dX4_share_76 : decode cX4_share 76 = .ok (.ireturn, 1) := by decide +kernel
theorem dX4_bottles_0 : decode cX4_bottles 0 = .ok (.iload_n 1, 1) := by decide +kernel
theorem dX4_bottles_1 : decode cX4_bottles 1 = .ok (.iconst 1, 1) := by decide +kernel
theorem dX4_bottles_2 : decode cX4_bottles 2 = .ok (.bipush 6, 2) := by decide +kernel
theorem dX4_bottles_4 : decode cX4_bottles 4 = .ok (.invokestatic 56, 3) := by decide +kernel
theorem dX4_bottles_7 : decode cX4_bottles 7 = .ok (.istore_n 2, 1) := by decide +kernel
theorem dX4_bottles_8 : decode cX4_bottles 8 = .ok (.iload_n 2, 1) := by decide +kernel
theorem dX4_bottles_9 : decode cX4_bottles 9 = .ok (.ifCond .ne 24, 3) := by decide +kernel
theorem dX4_bottles_12 : decode cX4_bottles 12 = .ok (.aload_n 0, 1) := by decide +kernel
theorem dX4_bottles_13 : decode cX4_bottles 13 = .ok (.getfield 197, 3) := by decide +kernel
theorem dX4_bottles_16 : decode cX4_bottles 16 = .ok (.iconst 3, 1) := by decide +kernel
theorem dX4_bottles_17 : decode cX4_bottles 17 = .ok (.irem, 1) := by decide +kernel
theorem dX4_bottles_18 : decode cX4_bottles 18 = .ok (.ifCond .ne 12, 3) := by decide +kernel
theorem dX4_bottles_21 : decode cX4_bottles 21 = .ok (.aload_n 0, 1) := by decide +kernel
theorem dX4_bottles_22 : decode cX4_bottles 22 = .ok (.getfield 197, 3) := by decide +kernel
theorem dX4_bottles_25 : decode cX4_bottles 25 = .ok (.bipush 18, 2) := by decide +kernel
theorem dX4_bottles_27 : decode cX4_bottles 27 = .ok (.if_icmp .le 6, 3) := by decide +kernel
theorem dX4_bottles_30 : decode cX4_bottles 30 = .ok (.bipush (-3), 2) := by decide +kernel
theorem dX4_bottles_32 : decode cX4_bottles 32 = .ok (.istore_n 2, 1) := by decide +kernel
theorem dX4_bottles_33 : decode cX4_bottles 33 = .ok (.iload_n 2, 1) := by decide +kernel
theorem dX4_bottles_34 : decode cX4_bottles 34 = .ok (.ifCond .eq 9, 3) := by decide +kernel
theorem dX4_bottles_37 : decode cX4_bottles 37 = .ok (.aload_n 0, 1) := by decide +kernel
theorem dX4_bottles_38 : decode cX4_bottles 38 = .ok (.iload_n 2, 1) := by decide +kernel
theorem dX4_bottles_39 : decode cX4_bottles 39 = .ok (.invokevirtual 64, 3) := by decide +kernel
theorem dX4_bottles_42 : decode cX4_bottles 42 = .ok (.ireturn, 1) := by decide +kernel
theorem dX4_bottles_43 : decode cX4_bottles 43 = .ok (.aload_n 0, 1) := by decide +kernel
theorem dX4_bottles_44 : decode cX4_bottles 44 = .ok (.getfield 53, 3) := by decide +kernel
theorem dX4_bottles_47 : decode cX4_bottles 47 = .ok (.iconst (-1), 1) := by decide +kernel
theorem dX4_bottles_48 : decode cX4_bottles 48 = .ok (.invokestatic 184, 3) := by decide +kernel
theorem dX4_bottles_51 : decode cX4_bottles 51 = .ok (.aload_n 0, 1) := by decide +kernel
theorem dX4_bottles_52 : decode cX4_bottles 52 = .ok (.getfield 53, 3) := by decide +kernel
theorem dX4_bottles_55 : decode cX4_bottles 55 = .ok (.iconst 0, 1) := by decide +kernel
theorem dX4_bottles_56 : decode cX4_bottles 56 = .ok (.iconst 0, 1) := by decide +kernel
theorem dX4_bottles_57 : decode cX4_bottles 57 = .ok (.iastore, 1) := by decide +kernel
theorem dX4_bottles_58 : decode cX4_bottles 58 = .ok (.iconst 0, 1) := by decide +kernel
theorem dX4_bottles_59 : decode cX4_bottles 59 = .ok (.istore_n 3, 1) := by decide +kernel
theorem dX4_bottles_60 : decode cX4_bottles 60 = .ok (.iload_n 3, 1) := by decide +kernel
theorem dX4_bottles_61 : decode cX4_bottles 61 = .ok (.iconst 2, 1) := by decide +kernel
theorem dX4_bottles_62 : decode cX4_bottles 62 = .ok (.iadd, 1) := by decide +kernel
theorem dX4_bottles_63 : decode cX4_bottles 63 = .ok (.aload_n 0, 1) := by decide +kernel
theorem dX4_bottles_64 : decode cX4_bottles 64 = .ok (.getfield 197, 3) := by decide +kernel
theorem dX4_bottles_67 : decode cX4_bottles 67 = .ok (.if_icmp .ge 41, 3) := by decide +kernel
theorem dX4_bottles_70 : decode cX4_bottles 70 = .ok (.aload_n 0, 1) := by decide +kernel
theorem dX4_bottles_71 : decode cX4_bottles 71 = .ok (.aload_n 0, 1) := by decide +kernel
theorem dX4_bottles_72 : decode cX4_bottles 72 = .ok (.getfield 43, 3) := by decide +kernel
theorem dX4_bottles_75 : decode cX4_bottles 75 = .ok (.iload_n 3, 1) := by decide +kernel
theorem dX4_bottles_76 : decode cX4_bottles 76 = .ok (.iaload, 1) := by decide +kernel
theorem dX4_bottles_77 : decode cX4_bottles 77 = .ok (.aload_n 0, 1) := by decide +kernel
theorem dX4_bottles_78 : decode cX4_bottles 78 = .ok (.getfield 43, 3) := by decide +kernel
theorem dX4_bottles_81 : decode cX4_bottles 81 = .ok (.iload_n 3, 1) := by decide +kernel
theorem dX4_bottles_82 : decode cX4_bottles 82 = .ok (.iconst 1, 1) := by decide +kernel
theorem dX4_bottles_83 : decode cX4_bottles 83 = .ok (.iadd, 1) := by decide +kernel
theorem dX4_bottles_84 : decode cX4_bottles 84 = .ok (.iaload, 1) := by decide +kernel
theorem dX4_bottles_85 : decode cX4_bottles 85 = .ok (.iload_n 1, 1) := by decide +kernel
theorem dX4_bottles_86 : decode cX4_bottles 86 = .ok (.iconst 1, 1) := by decide +kernel
theorem dX4_bottles_87 : decode cX4_bottles 87 = .ok (.isub, 1) := by decide +kernel
theorem dX4_bottles_88 : decode cX4_bottles 88 = .ok (.invokestatic 133, 3) := by decide +kernel
theorem dX4_bottles_91 : decode cX4_bottles 91 = .ok (.aload_n 0, 1) := by decide +kernel
theorem dX4_bottles_92 : decode cX4_bottles 92 = .ok (.getfield 43, 3) := by decide +kernel
theorem dX4_bottles_95 : decode cX4_bottles 95 = .ok (.iload_n 3, 1) := by decide +kernel
theorem dX4_bottles_96 : decode cX4_bottles 96 = .ok (.iconst 2, 1) := by decide +kernel
theorem dX4_bottles_97 : decode cX4_bottles 97 = .ok (.iadd, 1) := by decide +kernel
theorem dX4_bottles_98 : decode cX4_bottles 98 = .ok (.iaload, 1) := by decide +kernel
theorem dX4_bottles_99 : decode cX4_bottles 99 = .ok (.invokevirtual 200, 3) := by decide +kernel
theorem dX4_bottles_102 : decode cX4_bottles 102 = .ok (.iinc 3 3, 3) := by decide +kernel
theorem dX4_bottles_105 : decode cX4_bottles 105 = .ok (.goto (-45), 3) := by decide +kernel
theorem dX4_bottles_108 : decode cX4_bottles 108 = .ok (.aload_n 0, 1) := by decide +kernel
theorem dX4_bottles_109 : decode cX4_bottles 109 = .ok (.getfield 53, 3) := by decide +kernel
theorem dX4_bottles_112 : decode cX4_bottles 112 = .ok (.invokestatic 193, 3) := by decide +kernel
theorem dX4_bottles_115 : decode cX4_bottles 115 = .ok (.ireturn, 1) := by decide +kernel
theorem dX4_row_0 : decode cX4_row 0 = .ok (.iload_n 1, 1) := by decide +kernel
theorem dX4_row_1 : decode cX4_row 1 = .ok (.iconst 0, 1) := by decide +kernel
theorem dX4_row_2 : decode cX4_row 2 = .ok (.bipush 99, 2) := by decide +kernel
theorem dX4_row_4 : decode cX4_row 4 = .ok (.invokestatic 56, 3) := by decide +kernel
theorem dX4_row_7 : decode cX4_row 7 = .ok (.istore_n 2, 1) := by decide +kernel
theorem dX4_row_8 : decode cX4_row 8 = .ok (.iload_n 2, 1) := by decide +kernel
theorem dX4_row_9 : decode cX4_row 9 = .ok (.ifCond .ne 15, 3) := by decide +kernel
theorem dX4_row_12 : decode cX4_row 12 = .ok (.aload_n 0, 1) := by decide +kernel
theorem dX4_row_13 : decode cX4_row 13 = .ok (.getfield 197, 3) := by decide +kernel
theorem dX4_row_16 : decode cX4_row 16 = .ok (.bipush 20, 2) := by decide +kernel
theorem dX4_row_18 : decode cX4_row 18 = .ok (.if_icmp .lt 6, 3) := by decide +kernel
theorem dX4_row_21 : decode cX4_row 21 = .ok (.bipush (-6), 2) := by decide +kernel
theorem dX4_row_23 : decode cX4_row 23 = .ok (.istore_n 2, 1) := by decide +kernel
theorem dX4_row_24 : decode cX4_row 24 = .ok (.iload_n 2, 1) := by decide +kernel
theorem dX4_row_25 : decode cX4_row 25 = .ok (.ifCond .eq 9, 3) := by decide +kernel
theorem dX4_row_28 : decode cX4_row 28 = .ok (.aload_n 0, 1) := by decide +kernel
theorem dX4_row_29 : decode cX4_row 29 = .ok (.iload_n 2, 1) := by decide +kernel
theorem dX4_row_30 : decode cX4_row 30 = .ok (.invokevirtual 64, 3) := by decide +kernel
theorem dX4_row_33 : decode cX4_row 33 = .ok (.ireturn, 1) := by decide +kernel
theorem dX4_row_34 : decode cX4_row 34 = .ok (.aload_n 0, 1) := by decide +kernel
theorem dX4_row_35 : decode cX4_row 35 = .ok (.getfield 43, 3) := by decide +kernel
theorem dX4_row_38 : decode cX4_row 38 = .ok (.aload_n 0, 1) := by decide +kernel
theorem dX4_row_39 : decode cX4_row 39 = .ok (.getfield 197, 3) := by decide +kernel
theorem dX4_row_42 : decode cX4_row 42 = .ok (.iload_n 1, 1) := by decide +kernel
theorem dX4_row_43 : decode cX4_row 43 = .ok (.iastore, 1) := by decide +kernel
theorem dX4_row_44 : decode cX4_row 44 = .ok (.aload_n 0, 1) := by decide +kernel
theorem dX4_row_45 : decode cX4_row 45 = .ok (.dup, 1) := by decide +kernel
theorem dX4_row_46 : decode cX4_row 46 = .ok (.getfield 197, 3) := by decide +kernel
theorem dX4_row_49 : decode cX4_row 49 = .ok (.iconst 1, 1) := by decide +kernel
theorem dX4_row_50 : decode cX4_row 50 = .ok (.iadd, 1) := by decide +kernel
theorem dX4_row_51 : decode cX4_row 51 = .ok (.putfield 197, 3) := by decide +kernel
theorem dX4_row_54 : decode cX4_row 54 = .ok (.aload_n 0, 1) := by decide +kernel
theorem dX4_row_55 : decode cX4_row 55 = .ok (.getfield 197, 3) := by decide +kernel
theorem dX4_row_58 : decode cX4_row 58 = .ok (.ireturn, 1) := by decide +kernel
theorem dX4_fits_0 : decode cX4_fits 0 = .ok (.iconst 0, 1) := by decide +kernel
theorem dX4_fits_1 : decode cX4_fits 1 = .ok (.istore_n 1, 1) := by decide +kernel
theorem dX4_fits_2 : decode cX4_fits 2 = .ok (.iconst 0, 1) := by decide +kernel
theorem dX4_fits_3 : decode cX4_fits 3 = .ok (.istore_n 2, 1) := by decide +kernel
theorem dX4_fits_4 : decode cX4_fits 4 = .ok (.iload_n 2, 1) := by decide +kernel
theorem dX4_fits_5 : decode cX4_fits 5 = .ok (.getstatic 100, 3) := by decide +kernel
theorem dX4_fits_8 : decode cX4_fits 8 = .ok (.iconst 5, 1) := by decide +kernel
theorem dX4_fits_9 : decode cX4_fits 9 = .ok (.iaload, 1) := by decide +kernel
theorem dX4_fits_10 : decode cX4_fits 10 = .ok (.if_icmp .gt 23, 3) := by decide +kernel
theorem dX4_fits_13 : decode cX4_fits 13 = .ok (.aload_n 0, 1) := by decide +kernel
theorem dX4_fits_14 : decode cX4_fits 14 = .ok (.iload_n 2, 1) := by decide +kernel
theorem dX4_fits_15 : decode cX4_fits 15 = .ok (.invokevirtual 204, 3) := by decide +kernel
theorem dX4_fits_18 : decode cX4_fits 18 = .ok (.ifCond .eq 9, 3) := by decide +kernel
theorem dX4_fits_21 : decode cX4_fits 21 = .ok (.iload_n 1, 1) := by decide +kernel
theorem dX4_fits_22 : decode cX4_fits 22 = .ok (.iconst 1, 1) := by decide +kernel
theorem dX4_fits_23 : decode cX4_fits 23 = .ok (.iload_n 2, 1) := by decide +kernel
theorem dX4_fits_24 : decode cX4_fits 24 = .ok (.ishl, 1) := by decide +kernel
theorem dX4_fits_25 : decode cX4_fits 25 = .ok (.ior, 1) := by decide +kernel
theorem dX4_fits_26 : decode cX4_fits 26 = .ok (.istore_n 1, 1) := by decide +kernel
theorem dX4_fits_27 : decode cX4_fits 27 = .ok (.iinc 2 1, 3) := by decide +kernel
theorem dX4_fits_30 : decode cX4_fits 30 = .ok (.goto (-26), 3) := by decide +kernel
theorem dX4_fits_33 : decode cX4_fits 33 = .ok (.iload_n 1, 1) := by decide +kernel
theorem dX4_fits_34 : decode cX4_fits 34 = .ok (.ireturn, 1) := by decide +kernel
theorem dX4_judge_0 : decode cX4_judge 0 = .ok (.aload_n 0, 1) := by decide +kernel
theorem dX4_judge_1 : decode cX4_judge 1 = .ok (.invokevirtual 207, 3) := by decide +kernel
theorem dX4_judge_4 : decode cX4_judge 4 = .ok (.istore_n 1, 1) := by decide +kernel
theorem dX4_judge_5 : decode cX4_judge 5 = .ok (.aload_n 0, 1) := by decide +kernel
theorem dX4_judge_6 : decode cX4_judge 6 = .ok (.iconst 0, 1) := by decide +kernel
theorem dX4_judge_7 : decode cX4_judge 7 = .ok (.putfield 197, 3) := by decide +kernel
theorem dX4_judge_10 : decode cX4_judge 10 = .ok (.iload_n 1, 1) := by decide +kernel
theorem dX4_judge_11 : decode cX4_judge 11 = .ok (.ireturn, 1) := by decide +kernel
theorem dX4_lots_0 : decode cX4_lots 0 = .ok (.iload_n 1, 1) := by decide +kernel
theorem dX4_lots_1 : decode cX4_lots 1 = .ok (.iconst 1, 1) := by decide +kernel
theorem dX4_lots_2 : decode cX4_lots 2 = .ok (.bipush 20, 2) := by decide +kernel
theorem dX4_lots_4 : decode cX4_lots 4 = .ok (.invokestatic 56, 3) := by decide +kernel
theorem dX4_lots_7 : decode cX4_lots 7 = .ok (.istore_n 3, 1) := by decide +kernel
theorem dX4_lots_8 : decode cX4_lots 8 = .ok (.iload_n 3, 1) := by decide +kernel
theorem dX4_lots_9 : decode cX4_lots 9 = .ok (.ifCond .eq 9, 3) := by decide +kernel
theorem dX4_lots_12 : decode cX4_lots 12 = .ok (.aload_n 0, 1) := by decide +kernel
theorem dX4_lots_13 : decode cX4_lots 13 = .ok (.iload_n 3, 1) := by decide +kernel
theorem dX4_lots_14 : decode cX4_lots 14 = .ok (.invokevirtual 64, 3) := by decide +kernel
theorem dX4_lots_17 : decode cX4_lots 17 = .ok (.ireturn, 1) := by decide +kernel
theorem dX4_lots_18 : decode cX4_lots 18 = .ok (.iload_n 2, 1) := by decide +kernel
theorem dX4_lots_19 : decode cX4_lots 19 = .ok (.istore 4, 2) := by decide +kernel
theorem dX4_lots_21 : decode cX4_lots 21 = .ok (.iconst 0, 1) := by decide +kernel
theorem dX4_lots_22 : decode cX4_lots 22 = .ok (.istore 5, 2) := by decide +kernel
theorem dX4_lots_24 : decode cX4_lots 24 = .ok (.iconst 0, 1) := by decide +kernel
theorem dX4_lots_25 : decode cX4_lots 25 = .ok (.istore 6, 2) := by decide +kernel
theorem dX4_lots_27 : decode cX4_lots 27 = .ok (.iload 6, 2) := by decide +kernel
theorem dX4_lots_29 : decode cX4_lots 29 = .ok (.iload_n 1, 1) := by decide +kernel
theorem dX4_lots_30 : decode cX4_lots 30 = .ok (.if_icmp .ge 111, 3) := by decide +kernel
theorem dX4_lots_33 : decode cX4_lots 33 = .ok (.aload_n 0, 1) := by decide +kernel
theorem dX4_lots_34 : decode cX4_lots 34 = .ok (.invokevirtual 124, 3) := by decide +kernel
theorem dX4_lots_37 : decode cX4_lots 37 = .ok (.iconst 0, 1) := by decide +kernel
theorem dX4_lots_38 : decode cX4_lots 38 = .ok (.istore 7, 2) := by decide +kernel
theorem dX4_lots_40 : decode cX4_lots 40 = .ok (.iload 7, 2) := by decide +kernel
theorem dX4_lots_42 : decode cX4_lots 42 = .ok (.bipush 28, 2) := by decide +kernel
theorem dX4_lots_44 : decode cX4_lots 44 = .ok (.if_icmp .ge 91, 3) := by decide +kernel
theorem dX4_lots_47 : decode cX4_lots 47 = .ok (.iconst 0, 1) := by decide +kernel
theorem dX4_lots_48 : decode cX4_lots 48 = .ok (.istore 8, 2) := by decide +kernel
theorem dX4_lots_50 : decode cX4_lots 50 = .ok (.iload 8, 2) := by decide +kernel
theorem dX4_lots_52 : decode cX4_lots 52 = .ok (.aload_n 0, 1) := by decide +kernel
theorem dX4_lots_53 : decode cX4_lots 53 = .ok (.getfield 12, 3) := by decide +kernel
theorem dX4_lots_56 : decode cX4_lots 56 = .ok (.getfield 164, 3) := by decide +kernel
theorem dX4_lots_59 : decode cX4_lots 59 = .ok (.if_icmp .ge 50, 3) := by decide +kernel
theorem dX4_lots_62 : decode cX4_lots 62 = .ok (.iload 4, 2) := by decide +kernel
theorem dX4_lots_64 : decode cX4_lots 64 = .ok (.ldc 210, 2) := by decide +kernel
theorem dX4_lots_66 : decode cX4_lots 66 = .ok (.imul, 1) := by decide +kernel
theorem dX4_lots_67 : decode cX4_lots 67 = .ok (.ldc 211, 2) := by decide +kernel
theorem dX4_lots_69 : decode cX4_lots 69 = .ok (.iadd, 1) := by decide +kernel
theorem dX4_lots_70 : decode cX4_lots 70 = .ok (.istore 4, 2) := by decide +kernel
theorem dX4_lots_72 : decode cX4_lots 72 = .ok (.aload_n 0, 1) := by decide +kernel
theorem dX4_lots_73 : decode cX4_lots 73 = .ok (.getfield 19, 3) := by decide +kernel
theorem dX4_lots_76 : decode cX4_lots 76 = .ok (.getfield 87, 3) := by decide +kernel
theorem dX4_lots_79 : decode cX4_lots 79 = .ok (.iload 8, 2) := by decide +kernel
theorem dX4_lots_81 : decode cX4_lots 81 = .ok (.aaload, 1) := by decide +kernel
theorem dX4_lots_82 : decode cX4_lots 82 = .ok (.iconst 1, 1) := by decide +kernel
theorem dX4_lots_83 : decode cX4_lots 83 = .ok (.iload 4, 2) := by decide +kernel
theorem dX4_lots_85 : decode cX4_lots 85 = .ok (.aload_n 0, 1) := by decide +kernel
theorem dX4_lots_86 : decode cX4_lots 86 = .ok (.getfield 12, 3) := by decide +kernel
theorem dX4_lots_89 : decode cX4_lots 89 = .ok (.getfield 87, 3) := by decide +kernel
theorem dX4_lots_92 : decode cX4_lots 92 = .ok (.iload 8, 2) := by decide +kernel
theorem dX4_lots_94 : decode cX4_lots 94 = .ok (.aaload, 1) := by decide +kernel
theorem dX4_lots_95 : decode cX4_lots 95 = .ok (.iconst 1, 1) := by decide +kernel
theorem dX4_lots_96 : decode cX4_lots 96 = .ok (.iaload, 1) := by decide +kernel
theorem dX4_lots_97 : decode cX4_lots 97 = .ok (.iconst 3, 1) := by decide +kernel
theorem dX4_lots_98 : decode cX4_lots 98 = .ok (.iadd, 1) := by decide +kernel
theorem dX4_lots_99 : decode cX4_lots 99 = .ok (.invokestatic 212, 3) := by decide +kernel
theorem dX4_lots_102 : decode cX4_lots 102 = .ok (.iastore, 1) := by decide +kernel
theorem dX4_lots_103 : decode cX4_lots 103 = .ok (.iinc 8 1, 3) := by decide +kernel
theorem dX4_lots_106 : decode cX4_lots 106 = .ok (.goto (-56), 3) := by decide +kernel
theorem dX4_lots_109 : decode cX4_lots 109 = .ok (.aload_n 0, 1) := by decide +kernel
theorem dX4_lots_110 : decode cX4_lots 110 = .ok (.iconst 1, 1) := by decide +kernel
theorem dX4_lots_111 : decode cX4_lots 111 = .ok (.invokevirtual 127, 3) := by decide +kernel
theorem dX4_lots_114 : decode cX4_lots 114 = .ok (.pop, 1) := by decide +kernel
theorem dX4_lots_115 : decode cX4_lots 115 = .ok (.iload 5, 2) := by decide +kernel
theorem dX4_lots_117 : decode cX4_lots 117 = .ok (.aload_n 0, 1) := by decide +kernel
theorem dX4_lots_118 : decode cX4_lots 118 = .ok (.getfield 25, 3) := by decide +kernel
theorem dX4_lots_121 : decode cX4_lots 121 = .ok (.getfield 121, 3) := by decide +kernel
theorem dX4_lots_124 : decode cX4_lots 124 = .ok (.iconst 3, 1) := by decide +kernel
theorem dX4_lots_125 : decode cX4_lots 125 = .ok (.iaload, 1) := by decide +kernel
theorem dX4_lots_126 : decode cX4_lots 126 = .ok (.iadd, 1) := by decide +kernel
theorem dX4_lots_127 : decode cX4_lots 127 = .ok (.istore 5, 2) := by decide +kernel
theorem dX4_lots_129 : decode cX4_lots 129 = .ok (.iinc 7 1, 3) := by decide +kernel
theorem dX4_lots_132 : decode cX4_lots 132 = .ok (.goto (-92), 3) := by decide +kernel
theorem dX4_lots_135 : decode cX4_lots 135 = .ok (.iinc 6 1, 3) := by decide +kernel
theorem dX4_lots_138 : decode cX4_lots 138 = .ok (.goto (-111), 3) := by decide +kernel
theorem dX4_lots_141 : decode cX4_lots 141 = .ok (.iload 5, 2) := by decide +kernel
theorem dX4_lots_143 : decode cX4_lots 143 = .ok (.ireturn, 1) := by decide +kernel
theorem dX4_image_0 : decode cX4_image 0 = .ok (.aload_n 0, 1) := by decide +kernel
theorem dX4_image_1 : decode cX4_image 1 = .ok (.getfield 16, 3) := by decide +kernel
theorem dX4_image_4 : decode cX4_image 4 = .ok (.aload_n 0, 1) := by decide +kernel
theorem dX4_image_5 : decode cX4_image 5 = .ok (.getfield 12, 3) := by decide +kernel
theorem dX4_image_8 : decode cX4_image 8 = .ok (.invokevirtual 215, 3) := by decide +kernel
theorem dX4_image_11 : decode cX4_image 11 = .ok (.aload_n 0, 1) := by decide +kernel
theorem dX4_image_12 : decode cX4_image 12 = .ok (.iconst 1, 1) := by decide +kernel
theorem dX4_image_13 : decode cX4_image 13 = .ok (.putfield 219, 3) := by decide +kernel
theorem dX4_image_16 : decode cX4_image 16 = .ok (.aload_n 0, 1) := by decide +kernel
theorem dX4_image_17 : decode cX4_image 17 = .ok (.getfield 12, 3) := by decide +kernel
theorem dX4_image_20 : decode cX4_image 20 = .ok (.getfield 110, 3) := by decide +kernel
theorem dX4_image_23 : decode cX4_image 23 = .ok (.ireturn, 1) := by decide +kernel
theorem dX4_on_0 : decode cX4_on 0 = .ok (.aload_n 0, 1) := by decide +kernel
theorem dX4_on_1 : decode cX4_on 1 = .ok (.getfield 219, 3) := by decide +kernel
theorem dX4_on_4 : decode cX4_on 4 = .ok (.ifCond .ne 10, 3) := by decide +kernel
theorem dX4_on_7 : decode cX4_on 7 = .ok (.aload_n 0, 1) := by decide +kernel
theorem dX4_on_8 : decode cX4_on 8 = .ok (.bipush (-3), 2) := by decide +kernel
theorem dX4_on_10 : decode cX4_on 10 = .ok (.invokevirtual 64, 3) := by decide +kernel
theorem dX4_on_13 : decode cX4_on 13 = .ok (.ireturn, 1) := by decide +kernel
theorem dX4_on_14 : decode cX4_on 14 = .ok (.aload_n 0, 1) := by decide +kernel
theorem dX4_on_15 : decode cX4_on 15 = .ok (.getfield 12, 3) := by decide +kernel
theorem dX4_on_18 : decode cX4_on 18 = .ok (.aload_n 0, 1) := by decide +kernel
theorem dX4_on_19 : decode cX4_on 19 = .ok (.getfield 16, 3) := by decide +kernel
theorem dX4_on_22 : decode cX4_on 22 = .ok (.invokevirtual 215, 3) := by decide +kernel
theorem dX4_on_25 : decode cX4_on 25 = .ok (.aload_n 0, 1) := by decide +kernel
theorem dX4_on_26 : decode cX4_on 26 = .ok (.getfield 12, 3) := by decide +kernel
theorem dX4_on_29 : decode cX4_on 29 = .ok (.getfield 110, 3) := by decide +kernel
theorem dX4_on_32 : decode cX4_on 32 = .ok (.ireturn, 1) := by decide +kernel
theorem dX4_count_0 : decode cX4_count 0 = .ok (.iload_n 1, 1) := by decide +kernel
theorem dX4_count_1 : decode cX4_count 1 = .ok (.bipush 11, 2) := by decide +kernel
theorem dX4_count_3 : decode cX4_count 3 = .ok (.bipush 16, 2) := by decide +kernel
theorem dX4_count_5 : decode cX4_count 5 = .ok (.invokestatic 83, 3) := by decide +kernel
theorem dX4_count_8 : decode cX4_count 8 = .ok (.ifCond .eq 13, 3) := by decide +kernel
theorem dX4_count_11 : decode cX4_count 11 = .ok (.aload_n 0, 1) := by decide +kernel
theorem dX4_count_12 : decode cX4_count 12 = .ok (.getfield 47, 3) := by decide +kernel
theorem dX4_count_15 : decode cX4_count 15 = .ok (.iload_n 1, 1) := by decide +kernel
theorem dX4_count_16 : decode cX4_count 16 = .ok (.bipush 10, 2) := by decide +kernel
theorem dX4_count_18 : decode cX4_count 18 = .ok (.isub, 1) := by decide +kernel
theorem dX4_count_19 : decode cX4_count 19 = .ok (.iaload, 1) := by decide +kernel
theorem dX4_count_20 : decode cX4_count 20 = .ok (.ireturn, 1) := by decide +kernel
theorem dX4_count_21 : decode cX4_count 21 = .ok (.iload_n 1, 1) := by decide +kernel
theorem dX4_count_22 : decode cX4_count 22 = .ok (.tableswitch 123 0 8 #[50, 58, 66, 74, 84, 92, 102, 110, 115], 50) := by decide +kernel
theorem dX4_count_72 : decode cX4_count 72 = .ok (.aload_n 0, 1) := by decide +kernel
theorem dX4_count_73 : decode cX4_count 73 = .ok (.getfield 12, 3) := by decide +kernel
theorem dX4_count_76 : decode cX4_count 76 = .ok (.getfield 164, 3) := by decide +kernel
theorem dX4_count_79 : decode cX4_count 79 = .ok (.ireturn, 1) := by decide +kernel
theorem dX4_count_80 : decode cX4_count 80 = .ok (.aload_n 0, 1) := by decide +kernel
theorem dX4_count_81 : decode cX4_count 81 = .ok (.getfield 12, 3) := by decide +kernel
theorem dX4_count_84 : decode cX4_count 84 = .ok (.getfield 110, 3) := by decide +kernel
theorem dX4_count_87 : decode cX4_count 87 = .ok (.ireturn, 1) := by decide +kernel
theorem dX4_count_88 : decode cX4_count 88 = .ok (.aload_n 0, 1) := by decide +kernel
theorem dX4_count_89 : decode cX4_count 89 = .ok (.getfield 12, 3) := by decide +kernel
theorem dX4_count_92 : decode cX4_count 92 = .ok (.invokevirtual 130, 3) := by decide +kernel
theorem dX4_count_95 : decode cX4_count 95 = .ok (.ireturn, 1) := by decide +kernel
theorem dX4_count_96 : decode cX4_count 96 = .ok (.aload_n 0, 1) := by decide +kernel
theorem dX4_count_97 : decode cX4_count 97 = .ok (.getfield 12, 3) := by decide +kernel
theorem dX4_count_100 : decode cX4_count 100 = .ok (.getfield 103, 3) := by decide +kernel
theorem dX4_count_103 : decode cX4_count 103 = .ok (.iconst 0, 1) := by decide +kernel
theorem dX4_count_104 : decode cX4_count 104 = .ok (.iaload, 1) := by decide +kernel
theorem dX4_count_105 : decode cX4_count 105 = .ok (.ireturn, 1) := by decide +kernel
theorem dX4_count_106 : decode cX4_count 106 = .ok (.aload_n 0, 1) := by decide +kernel
theorem dX4_count_107 : decode cX4_count 107 = .ok (.getfield 12, 3) := by decide +kernel
theorem dX4_count_110 : decode cX4_count 110 = .ok (.invokevirtual 150, 3) := by decide +kernel
theorem dX4_count_113 : decode cX4_count 113 = .ok (.ireturn, 1) := by decide +kernel
theorem dX4_count_114 : decode cX4_count 114 = .ok (.aload_n 0, 1) := by decide +kernel
theorem dX4_count_115 : decode cX4_count 115 = .ok (.getfield 12, 3) := by decide +kernel
theorem dX4_count_118 : decode cX4_count 118 = .ok (.getfield 103, 3) := by decide +kernel
theorem dX4_count_121 : decode cX4_count 121 = .ok (.iconst 5, 1) := by decide +kernel
theorem dX4_count_122 : decode cX4_count 122 = .ok (.iaload, 1) := by decide +kernel
theorem dX4_count_123 : decode cX4_count 123 = .ok (.ireturn, 1) := by decide +kernel
theorem dX4_count_124 : decode cX4_count 124 = .ok (.aload_n 0, 1) := by decide +kernel
theorem dX4_count_125 : decode cX4_count 125 = .ok (.getfield 12, 3) := by decide +kernel
theorem dX4_count_128 : decode cX4_count 128 = .ok (.invokevirtual 223, 3) := by decide +kernel
theorem dX4_count_131 : decode cX4_count 131 = .ok (.ireturn, 1) := by decide +kernel
theorem dX4_count_132 : decode cX4_count 132 = .ok (.aload_n 0, 1) := by decide +kernel
theorem dX4_count_133 : decode cX4_count 133 = .ok (.getfield 197, 3) := by decide +kernel
theorem dX4_count_136 : decode cX4_count 136 = .ok (.ireturn, 1) := by decide +kernel
theorem dX4_count_137 : decode cX4_count 137 = .ok (.aload_n 0, 1) := by decide +kernel
theorem dX4_count_138 : decode cX4_count 138 = .ok (.getfield 39, 3) := by decide +kernel
theorem dX4_count_141 : decode cX4_count 141 = .ok (.getfield 60, 3) := by decide +kernel
theorem dX4_count_144 : decode cX4_count 144 = .ok (.ireturn, 1) := by decide +kernel
theorem dX4_count_145 : decode cX4_count 145 = .ok (.bipush (-9), 2) := by decide +kernel
theorem dX4_count_147 : decode cX4_count 147 = .ok (.ireturn, 1) := by decide +kernel
theorem dX4_within_0 : decode cX4_within 0 = .ok (.iload_n 0, 1) := by decide +kernel
theorem dX4_within_1 : decode cX4_within 1 = .ok (.iload_n 1, 1) := by decide +kernel
theorem dX4_within_2 : decode cX4_within 2 = .ok (.if_icmp .lt 12, 3) := by decide +kernel
theorem dX4_within_5 : decode cX4_within 5 = .ok (.iload_n 0, 1) := by decide +kernel
theorem dX4_within_6 : decode cX4_within 6 = .ok (.iload_n 2, 1) := by decide +kernel
theorem dX4_within_7 : decode cX4_within 7 = .ok (.if_icmp .gt 7, 3) := by decide +kernel
theorem dX4_within_10 : decode cX4_within 10 = .ok (.iconst 1, 1) := by decide +kernel
theorem dX4_within_11 : decode cX4_within 11 = .ok (.goto 4, 3) := by decide +kernel
theorem dX4_within_14 : decode cX4_within 14 = .ok (.iconst 0, 1) := by decide +kernel
theorem dX4_within_15 : decode cX4_within 15 = .ok (.ireturn, 1) := by decide +kernel
theorem dX4_isAge_0 : decode cX4_isAge 0 = .ok (.iload_n 0, 1) := by decide +kernel
theorem dX4_isAge_1 : decode cX4_isAge 1 = .ok (.ifCond .lt 12, 3) := by decide +kernel
theorem dX4_isAge_4 : decode cX4_isAge 4 = .ok (.iload_n 0, 1) := by decide +kernel
theorem dX4_isAge_5 : decode cX4_isAge 5 = .ok (.iconst 5, 1) := by decide +kernel
theorem dX4_isAge_6 : decode cX4_isAge 6 = .ok (.if_icmp .ge 7, 3) := by decide +kernel
theorem dX4_isAge_9 : decode cX4_isAge 9 = .ok (.iconst 1, 1) := by decide +kernel
theorem dX4_isAge_10 : decode cX4_isAge 10 = .ok (.goto 4, 3) := by decide +kernel
theorem dX4_isAge_13 : decode cX4_isAge 13 = .ok (.iconst 0, 1) := by decide +kernel
theorem dX4_isAge_14 : decode cX4_isAge 14 = .ok (.ireturn, 1) := by decide +kernel
theorem dX4_outside_0 : decode cX4_outside 0 = .ok (.iload_n 0, 1) := by decide +kernel
theorem dX4_outside_1 : decode cX4_outside 1 = .ok (.iload_n 1, 1) := by decide +kernel
theorem dX4_outside_2 : decode cX4_outside 2 = .ok (.if_icmp .ge 6, 3) := by decide +kernel
theorem dX4_outside_5 : decode cX4_outside 5 = .ok (.bipush (-4), 2) := by decide +kernel
theorem dX4_outside_7 : decode cX4_outside 7 = .ok (.ireturn, 1) := by decide +kernel
theorem dX4_outside_8 : decode cX4_outside 8 = .ok (.iload_n 0, 1) := by decide +kernel
theorem dX4_outside_9 : decode cX4_outside 9 = .ok (.iload_n 2, 1) := by decide +kernel
theorem dX4_outside_10 : decode cX4_outside 10 = .ok (.if_icmp .le 8, 3) := by decide +kernel
theorem dX4_outside_13 : decode cX4_outside 13 = .ok (.bipush (-6), 2) := by decide +kernel
theorem dX4_outside_15 : decode cX4_outside 15 = .ok (.goto 4, 3) := by decide +kernel
theorem dX4_outside_18 : decode cX4_outside 18 = .ok (.iconst 0, 1) := by decide +kernel
theorem dX4_outside_19 : decode cX4_outside 19 = .ok (.ireturn, 1) := by decide +kernel
theorem dX4_refuse_0 : decode cX4_refuse 0 = .ok (.iload_n 1, 1) := by decide +kernel
theorem dX4_refuse_1 : decode cX4_refuse 1 = .ok (.ineg, 1) := by decide +kernel
theorem dX4_refuse_2 : decode cX4_refuse 2 = .ok (.iconst 1, 1) := by decide +kernel
theorem dX4_refuse_3 : decode cX4_refuse 3 = .ok (.bipush 6, 2) := by decide +kernel
theorem dX4_refuse_5 : decode cX4_refuse 5 = .ok (.invokestatic 83, 3) := by decide +kernel
theorem dX4_refuse_8 : decode cX4_refuse 8 = .ok (.ifCond .eq 14, 3) := by decide +kernel
theorem dX4_refuse_11 : decode cX4_refuse 11 = .ok (.aload_n 0, 1) := by decide +kernel
theorem dX4_refuse_12 : decode cX4_refuse 12 = .ok (.getfield 47, 3) := by decide +kernel
theorem dX4_refuse_15 : decode cX4_refuse 15 = .ok (.iload_n 1, 1) := by decide +kernel
theorem dX4_refuse_16 : decode cX4_refuse 16 = .ok (.ineg, 1) := by decide +kernel
theorem dX4_refuse_17 : decode cX4_refuse 17 = .ok (.dup2, 1) := by decide +kernel
theorem dX4_refuse_18 : decode cX4_refuse 18 = .ok (.iaload, 1) := by decide +kernel
theorem dX4_refuse_19 : decode cX4_refuse 19 = .ok (.iconst 1, 1) := by decide +kernel
theorem dX4_refuse_20 : decode cX4_refuse 20 = .ok (.iadd, 1) := by decide +kernel
theorem dX4_refuse_21 : decode cX4_refuse 21 = .ok (.iastore, 1) := by decide +kernel
theorem dX4_refuse_22 : decode cX4_refuse 22 = .ok (.iload_n 1, 1) := by decide +kernel
theorem dX4_refuse_23 : decode cX4_refuse 23 = .ok (.ireturn, 1) := by decide +kernel
theorem dX4_becomeHouse_0 : decode cX4_becomeHouse 0 = .ok (.aload_n 0, 1) := by decide +kernel
theorem dX4_becomeHouse_1 : decode cX4_becomeHouse 1 = .ok (.invokevirtual 124, 3) := by decide +kernel
theorem dX4_becomeHouse_4 : decode cX4_becomeHouse 4 = .ok (.iconst 0, 1) := by decide +kernel
theorem dX4_becomeHouse_5 : decode cX4_becomeHouse 5 = .ok (.istore_n 1, 1) := by decide +kernel
theorem dX4_becomeHouse_6 : decode cX4_becomeHouse 6 = .ok (.iconst 0, 1) := by decide +kernel
theorem dX4_becomeHouse_7 : decode cX4_becomeHouse 7 = .ok (.istore_n 2, 1) := by decide +kernel
theorem dX4_becomeHouse_8 : decode cX4_becomeHouse 8 = .ok (.iconst 0, 1) := by decide +kernel
theorem dX4_becomeHouse_9 : decode cX4_becomeHouse 9 = .ok (.istore_n 3, 1) := by decide +kernel
theorem dX4_becomeHouse_10 : decode cX4_becomeHouse 10 = .ok (.iload_n 3, 1) := by decide +kernel
theorem dX4_becomeHouse_11 : decode cX4_becomeHouse 11 = .ok (.bipush 96, 2) := by decide +kernel
theorem dX4_becomeHouse_13 : decode cX4_becomeHouse 13 = .ok (.if_icmp .ge 57, 3) := by decide +kernel
theorem dX4_becomeHouse_16 : decode cX4_becomeHouse 16 = .ok (.iload_n 2, 1) := by decide +kernel
theorem dX4_becomeHouse_17 : decode cX4_becomeHouse 17 = .ok (.aload_n 0, 1) := by decide +kernel
theorem dX4_becomeHouse_18 : decode cX4_becomeHouse 18 = .ok (.getfield 39, 3) := by decide +kernel
theorem dX4_becomeHouse_21 : decode cX4_becomeHouse 21 = .ok (.getfield 60, 3) := by decide +kernel
theorem dX4_becomeHouse_24 : decode cX4_becomeHouse 24 = .ok (.if_icmp .ge 46, 3) := by decide +kernel
theorem dX4_becomeHouse_27 : decode cX4_becomeHouse 27 = .ok (.aload_n 0, 1) := by decide +kernel
theorem dX4_becomeHouse_28 : decode cX4_becomeHouse 28 = .ok (.getfield 39, 3) := by decide +kernel
theorem dX4_becomeHouse_31 : decode cX4_becomeHouse 31 = .ok (.iload_n 2, 1) := by decide +kernel
theorem dX4_becomeHouse_32 : decode cX4_becomeHouse 32 = .ok (.aload_n 0, 1) := by decide +kernel
theorem dX4_becomeHouse_33 : decode cX4_becomeHouse 33 = .ok (.getfield 19, 3) := by decide +kernel
theorem dX4_becomeHouse_36 : decode cX4_becomeHouse 36 = .ok (.aload_n 0, 1) := by decide +kernel
theorem dX4_becomeHouse_37 : decode cX4_becomeHouse 37 = .ok (.getfield 25, 3) := by decide +kernel
theorem dX4_becomeHouse_40 : decode cX4_becomeHouse 40 = .ok (.invokevirtual 226, 3) := by decide +kernel
theorem dX4_becomeHouse_43 : decode cX4_becomeHouse 43 = .ok (.ifCond .ne 9, 3) := by decide +kernel
theorem dX4_becomeHouse_46 : decode cX4_becomeHouse 46 = .ok (.sipush (-2000), 3) := by decide +kernel
theorem dX4_becomeHouse_49 : decode cX4_becomeHouse 49 = .ok (.iload_n 2, 1) := by decide +kernel
theorem dX4_becomeHouse_50 : decode cX4_becomeHouse 50 = .ok (.isub, 1) := by decide +kernel
theorem dX4_becomeHouse_51 : decode cX4_becomeHouse 51 = .ok (.ireturn, 1) := by decide +kernel
theorem dX4_becomeHouse_52 : decode cX4_becomeHouse 52 = .ok (.iinc 1 1, 3) := by decide +kernel
theorem dX4_becomeHouse_55 : decode cX4_becomeHouse 55 = .ok (.aload_n 0, 1) := by decide +kernel
theorem dX4_becomeHouse_56 : decode cX4_becomeHouse 56 = .ok (.getfield 39, 3) := by decide +kernel
theorem dX4_becomeHouse_59 : decode cX4_becomeHouse 59 = .ok (.iload_n 2, 1) := by decide +kernel
theorem dX4_becomeHouse_60 : decode cX4_becomeHouse 60 = .ok (.invokevirtual 230, 3) := by decide +kernel
theorem dX4_becomeHouse_63 : decode cX4_becomeHouse 63 = .ok (.istore_n 2, 1) := by decide +kernel
theorem dX4_becomeHouse_64 : decode cX4_becomeHouse 64 = .ok (.iinc 3 1, 3) := by decide +kernel
theorem dX4_becomeHouse_67 : decode cX4_becomeHouse 67 = .ok (.goto (-57), 3) := by decide +kernel
theorem dX4_becomeHouse_70 : decode cX4_becomeHouse 70 = .ok (.aload_n 0, 1) := by decide +kernel
theorem dX4_becomeHouse_71 : decode cX4_becomeHouse 71 = .ok (.getfield 12, 3) := by decide +kernel
theorem dX4_becomeHouse_74 : decode cX4_becomeHouse 74 = .ok (.aload_n 0, 1) := by decide +kernel
theorem dX4_becomeHouse_75 : decode cX4_becomeHouse 75 = .ok (.getfield 19, 3) := by decide +kernel
theorem dX4_becomeHouse_78 : decode cX4_becomeHouse 78 = .ok (.invokevirtual 215, 3) := by decide +kernel
theorem dX4_becomeHouse_81 : decode cX4_becomeHouse 81 = .ok (.iload_n 1, 1) := by decide +kernel
theorem dX4_becomeHouse_82 : decode cX4_becomeHouse 82 = .ok (.ireturn, 1) := by decide +kernel
theorem dX4_think_0 : decode cX4_think 0 = .ok (.aload_n 0, 1) := by decide +kernel
theorem dX4_think_1 : decode cX4_think 1 = .ok (.getfield 19, 3) := by decide +kernel
theorem dX4_think_4 : decode cX4_think 4 = .ok (.aload_n 0, 1) := by decide +kernel
theorem dX4_think_5 : decode cX4_think 5 = .ok (.getfield 12, 3) := by decide +kernel
theorem dX4_think_8 : decode cX4_think 8 = .ok (.invokevirtual 215, 3) := by decide +kernel
theorem dX4_think_11 : decode cX4_think 11 = .ok (.return_, 1) := by decide +kernel
theorem dX4_passInMind_0 : decode cX4_passInMind 0 = .ok (.aload_n 0, 1) := by decide +kernel
theorem dX4_passInMind_1 : decode cX4_passInMind 1 = .ok (.getfield 25, 3) := by decide +kernel
theorem dX4_passInMind_4 : decode cX4_passInMind 4 = .ok (.invokevirtual 114, 3) := by decide +kernel
theorem dX4_passInMind_7 : decode cX4_passInMind 7 = .ok (.iconst 0, 1) := by decide +kernel
theorem dX4_passInMind_8 : decode cX4_passInMind 8 = .ok (.istore_n 2, 1) := by decide +kernel
theorem dX4_passInMind_9 : decode cX4_passInMind 9 = .ok (.iload_n 2, 1) := by decide +kernel
theorem dX4_passInMind_10 : decode cX4_passInMind 10 = .ok (.iload_n 1, 1) := by decide +kernel
theorem dX4_passInMind_11 : decode cX4_passInMind 11 = .ok (.if_icmp .ge 20, 3) := by decide +kernel
theorem dX4_passInMind_14 : decode cX4_passInMind 14 = .ok (.aload_n 0, 1) := by decide +kernel
theorem dX4_passInMind_15 : decode cX4_passInMind 15 = .ok (.getfield 19, 3) := by decide +kernel
theorem dX4_passInMind_18 : decode cX4_passInMind 18 = .ok (.aload_n 0, 1) := by decide +kernel
theorem dX4_passInMind_19 : decode cX4_passInMind 19 = .ok (.getfield 25, 3) := by decide +kernel
theorem dX4_passInMind_22 : decode cX4_passInMind 22 = .ok (.invokevirtual 117, 3) := by decide +kernel
theorem dX4_passInMind_25 : decode cX4_passInMind 25 = .ok (.iinc 2 1, 3) := by decide +kernel
theorem dX4_passInMind_28 : decode cX4_passInMind 28 = .ok (.goto (-19), 3) := by decide +kernel
theorem dX4_passInMind_31 : decode cX4_passInMind 31 = .ok (.aload_n 0, 1) := by decide +kernel
theorem dX4_passInMind_32 : decode cX4_passInMind 32 = .ok (.getfield 25, 3) := by decide +kernel
theorem dX4_passInMind_35 : decode cX4_passInMind 35 = .ok (.getfield 121, 3) := by decide +kernel
theorem dX4_passInMind_38 : decode cX4_passInMind 38 = .ok (.iconst 0, 1) := by decide +kernel
theorem dX4_passInMind_39 : decode cX4_passInMind 39 = .ok (.iaload, 1) := by decide +kernel
theorem dX4_passInMind_40 : decode cX4_passInMind 40 = .ok (.ireturn, 1) := by decide +kernel
theorem dX4_bestOfSetting_0 : decode cX4_bestOfSetting 0 = .ok (.aload_n 0, 1) := by decide +kernel
theorem dX4_bestOfSetting_1 : decode cX4_bestOfSetting 1 = .ok (.getfield 32, 3) := by decide +kernel
theorem dX4_bestOfSetting_4 : decode cX4_bestOfSetting 4 = .ok (.invokevirtual 138, 3) := by decide +kernel
theorem dX4_bestOfSetting_7 : decode cX4_bestOfSetting 7 = .ok (.iconst 0, 1) := by decide +kernel
theorem dX4_bestOfSetting_8 : decode cX4_bestOfSetting 8 = .ok (.istore_n 3, 1) := by decide +kernel
theorem dX4_bestOfSetting_9 : decode cX4_bestOfSetting 9 = .ok (.iload_n 3, 1) := by decide +kernel
theorem dX4_bestOfSetting_10 : decode cX4_bestOfSetting 10 = .ok (.getstatic 100, 3) := by decide +kernel
theorem dX4_bestOfSetting_13 : decode cX4_bestOfSetting 13 = .ok (.iload_n 1, 1) := by decide +kernel
theorem dX4_bestOfSetting_14 : decode cX4_bestOfSetting 14 = .ok (.iaload, 1) := by decide +kernel
theorem dX4_bestOfSetting_15 : decode cX4_bestOfSetting 15 = .ok (.if_icmp .gt 36, 3) := by decide +kernel
theorem dX4_bestOfSetting_18 : decode cX4_bestOfSetting 18 = .ok (.aload_n 0, 1) := by decide +kernel
theorem dX4_bestOfSetting_19 : decode cX4_bestOfSetting 19 = .ok (.invokevirtual 124, 3) := by decide +kernel
theorem dX4_bestOfSetting_22 : decode cX4_bestOfSetting 22 = .ok (.aload_n 0, 1) := by decide +kernel
theorem dX4_bestOfSetting_23 : decode cX4_bestOfSetting 23 = .ok (.getfield 19, 3) := by decide +kernel
theorem dX4_bestOfSetting_26 : decode cX4_bestOfSetting 26 = .ok (.getfield 103, 3) := by decide +kernel
theorem dX4_bestOfSetting_29 : decode cX4_bestOfSetting 29 = .ok (.iload_n 1, 1) := by decide +kernel
theorem dX4_bestOfSetting_30 : decode cX4_bestOfSetting 30 = .ok (.iload_n 3, 1) := by decide +kernel
theorem dX4_bestOfSetting_31 : decode cX4_bestOfSetting 31 = .ok (.iastore, 1) := by decide +kernel
theorem dX4_bestOfSetting_32 : decode cX4_bestOfSetting 32 = .ok (.aload_n 0, 1) := by decide +kernel
theorem dX4_bestOfSetting_33 : decode cX4_bestOfSetting 33 = .ok (.getfield 32, 3) := by decide +kernel
theorem dX4_bestOfSetting_36 : decode cX4_bestOfSetting 36 = .ok (.iload_n 3, 1) := by decide +kernel
theorem dX4_bestOfSetting_37 : decode cX4_bestOfSetting 37 = .ok (.aload_n 0, 1) := by decide +kernel
theorem dX4_bestOfSetting_38 : decode cX4_bestOfSetting 38 = .ok (.iload_n 2, 1) := by decide +kernel
theorem dX4_bestOfSetting_39 : decode cX4_bestOfSetting 39 = .ok (.invokevirtual 127, 3) := by decide +kernel
theorem dX4_bestOfSetting_42 : decode cX4_bestOfSetting 42 = .ok (.invokevirtual 143, 3) := by decide +kernel
theorem dX4_bestOfSetting_45 : decode cX4_bestOfSetting 45 = .ok (.iinc 3 1, 3) := by decide +kernel
theorem dX4_bestOfSetting_48 : decode cX4_bestOfSetting 48 = .ok (.goto (-39), 3) := by decide +kernel
theorem dX4_bestOfSetting_51 : decode cX4_bestOfSetting 51 = .ok (.aload_n 0, 1) := by decide +kernel
theorem dX4_bestOfSetting_52 : decode cX4_bestOfSetting 52 = .ok (.getfield 32, 3) := by decide +kernel
theorem dX4_bestOfSetting_55 : decode cX4_bestOfSetting 55 = .ok (.getfield 147, 3) := by decide +kernel
theorem dX4_bestOfSetting_58 : decode cX4_bestOfSetting 58 = .ok (.ireturn, 1) := by decide +kernel
theorem dX4_chanceOf_0 : decode cX4_chanceOf 0 = .ok (.lconst 1, 1) := by decide +kernel
theorem dX4_chanceOf_1 : decode cX4_chanceOf 1 = .ok (.lstore_n 2, 1) := by decide +kernel
theorem dX4_chanceOf_2 : decode cX4_chanceOf 2 = .ok (.iconst 0, 1) := by decide +kernel
theorem dX4_chanceOf_3 : decode cX4_chanceOf 3 = .ok (.istore 4, 2) := by decide +kernel
theorem dX4_chanceOf_5 : decode cX4_chanceOf 5 = .ok (.iload 4, 2) := by decide +kernel
theorem dX4_chanceOf_7 : decode cX4_chanceOf 7 = .ok (.aload_n 0, 1) := by decide +kernel
theorem dX4_chanceOf_8 : decode cX4_chanceOf 8 = .ok (.getfield 12, 3) := by decide +kernel
theorem dX4_chanceOf_11 : decode cX4_chanceOf 11 = .ok (.getfield 164, 3) := by decide +kernel
theorem dX4_chanceOf_14 : decode cX4_chanceOf 14 = .ok (.if_icmp .ge 48, 3) := by decide +kernel
theorem dX4_chanceOf_17 : decode cX4_chanceOf 17 = .ok (.aload_n 0, 1) := by decide +kernel
theorem dX4_chanceOf_18 : decode cX4_chanceOf 18 = .ok (.getfield 12, 3) := by decide +kernel
theorem dX4_chanceOf_21 : decode cX4_chanceOf 21 = .ok (.getfield 87, 3) := by decide +kernel
theorem dX4_chanceOf_24 : decode cX4_chanceOf 24 = .ok (.iload 4, 2) := by decide +kernel
theorem dX4_chanceOf_26 : decode cX4_chanceOf 26 = .ok (.aaload, 1) := by decide +kernel
theorem dX4_chanceOf_27 : decode cX4_chanceOf 27 = .ok (.iconst 3, 1) := by decide +kernel
theorem dX4_chanceOf_28 : decode cX4_chanceOf 28 = .ok (.iaload, 1) := by decide +kernel
theorem dX4_chanceOf_29 : decode cX4_chanceOf 29 = .ok (.istore 5, 2) := by decide +kernel
theorem dX4_chanceOf_31 : decode cX4_chanceOf 31 = .ok (.lload_n 2, 1) := by decide +kernel
theorem dX4_chanceOf_32 : decode cX4_chanceOf 32 = .ok (.iload_n 1, 1) := by decide +kernel
theorem dX4_chanceOf_33 : decode cX4_chanceOf 33 = .ok (.iload 4, 2) := by decide +kernel
theorem dX4_chanceOf_35 : decode cX4_chanceOf 35 = .ok (.ishr, 1) := by decide +kernel
theorem dX4_chanceOf_36 : decode cX4_chanceOf 36 = .ok (.iconst 1, 1) := by decide +kernel
theorem dX4_chanceOf_37 : decode cX4_chanceOf 37 = .ok (.iand, 1) := by decide +kernel
theorem dX4_chanceOf_38 : decode cX4_chanceOf 38 = .ok (.iconst 1, 1) := by decide +kernel
theorem dX4_chanceOf_39 : decode cX4_chanceOf 39 = .ok (.if_icmp .ne 9, 3) := by decide +kernel
theorem dX4_chanceOf_42 : decode cX4_chanceOf 42 = .ok (.iload 5, 2) := by decide +kernel
theorem dX4_chanceOf_44 : decode cX4_chanceOf 44 = .ok (.i2l, 1) := by decide +kernel
theorem dX4_chanceOf_45 : decode cX4_chanceOf 45 = .ok (.goto 9, 3) := by decide +kernel
theorem dX4_chanceOf_48 : decode cX4_chanceOf 48 = .ok (.bipush 10, 2) := by decide +kernel
theorem dX4_chanceOf_50 : decode cX4_chanceOf 50 = .ok (.iload 5, 2) := by decide +kernel
theorem dX4_chanceOf_52 : decode cX4_chanceOf 52 = .ok (.isub, 1) := by decide +kernel
theorem dX4_chanceOf_53 : decode cX4_chanceOf 53 = .ok (.i2l, 1) := by decide +kernel
theorem dX4_chanceOf_54 : decode cX4_chanceOf 54 = .ok (.lmul, 1) := by decide +kernel
theorem dX4_chanceOf_55 : decode cX4_chanceOf 55 = .ok (.lstore_n 2, 1) := by decide +kernel
theorem dX4_chanceOf_56 : decode cX4_chanceOf 56 = .ok (.iinc 4 1, 3) := by decide +kernel
theorem dX4_chanceOf_59 : decode cX4_chanceOf 59 = .ok (.goto (-54), 3) := by decide +kernel
theorem dX4_chanceOf_62 : decode cX4_chanceOf 62 = .ok (.lload_n 2, 1) := by decide +kernel
theorem dX4_chanceOf_63 : decode cX4_chanceOf 63 = .ok (.lreturn, 1) := by decide +kernel
theorem dX4_valueIfThereCome_0 : decode cX4_valueIfThereCome 0 = .ok (.aload_n 0, 1) := by decide +kernel
theorem dX4_valueIfThereCome_1 : decode cX4_valueIfThereCome 1 = .ok (.invokevirtual 124, 3) := by decide +kernel
theorem dX4_valueIfThereCome_4 : decode cX4_valueIfThereCome 4 = .ok (.iconst 0, 1) := by decide +kernel
theorem dX4_valueIfThereCome_5 : decode cX4_valueIfThereCome 5 = .ok (.istore_n 2, 1) := by decide +kernel
theorem dX4_valueIfThereCome_6 : decode cX4_valueIfThereCome 6 = .ok (.iload_n 2, 1) := by decide +kernel
theorem dX4_valueIfThereCome_7 : decode cX4_valueIfThereCome 7 = .ok (.aload_n 0, 1) := by decide +kernel
theorem dX4_valueIfThereCome_8 : decode cX4_valueIfThereCome 8 = .ok (.getfield 12, 3) := by decide +kernel
theorem dX4_valueIfThereCome_11 : decode cX4_valueIfThereCome 11 = .ok (.getfield 164, 3) := by decide +kernel
theorem dX4_valueIfThereCome_14 : decode cX4_valueIfThereCome 14 = .ok (.if_icmp .ge 29, 3) := by decide +kernel
theorem dX4_valueIfThereCome_17 : decode cX4_valueIfThereCome 17 = .ok (.iload_n 1, 1) := by decide +kernel
theorem dX4_valueIfThereCome_18 : decode cX4_valueIfThereCome 18 = .ok (.iload_n 2, 1) := by decide +kernel
theorem dX4_valueIfThereCome_19 : decode cX4_valueIfThereCome 19 = .ok (.ishr, 1) := by decide +kernel
theorem dX4_valueIfThereCome_20 : decode cX4_valueIfThereCome 20 = .ok (.iconst 1, 1) := by decide +kernel
theorem dX4_valueIfThereCome_21 : decode cX4_valueIfThereCome 21 = .ok (.iand, 1) := by decide +kernel
theorem dX4_valueIfThereCome_22 : decode cX4_valueIfThereCome 22 = .ok (.ifCond .ne 15, 3) := by decide +kernel
theorem dX4_valueIfThereCome_25 : decode cX4_valueIfThereCome 25 = .ok (.aload_n 0, 1) := by decide +kernel
theorem dX4_valueIfThereCome_26 : decode cX4_valueIfThereCome 26 = .ok (.getfield 19, 3) := by decide +kernel
theorem dX4_valueIfThereCome_29 : decode cX4_valueIfThereCome 29 = .ok (.getfield 87, 3) := by decide +kernel
theorem dX4_valueIfThereCome_32 : decode cX4_valueIfThereCome 32 = .ok (.iload_n 2, 1) := by decide +kernel
theorem dX4_valueIfThereCome_33 : decode cX4_valueIfThereCome 33 = .ok (.aaload, 1) := by decide +kernel
theorem dX4_valueIfThereCome_34 : decode cX4_valueIfThereCome 34 = .ok (.iconst 1, 1) := by decide +kernel
theorem dX4_valueIfThereCome_35 : decode cX4_valueIfThereCome 35 = .ok (.iconst 0, 1) := by decide +kernel
theorem dX4_valueIfThereCome_36 : decode cX4_valueIfThereCome 36 = .ok (.iastore, 1) := by decide +kernel
theorem dX4_valueIfThereCome_37 : decode cX4_valueIfThereCome 37 = .ok (.iinc 2 1, 3) := by decide +kernel
theorem dX4_valueIfThereCome_40 : decode cX4_valueIfThereCome 40 = .ok (.goto (-34), 3) := by decide +kernel
theorem dX4_valueIfThereCome_43 : decode cX4_valueIfThereCome 43 = .ok (.aload_n 0, 1) := by decide +kernel
theorem dX4_valueIfThereCome_44 : decode cX4_valueIfThereCome 44 = .ok (.iconst 1, 1) := by decide +kernel
theorem dX4_valueIfThereCome_45 : decode cX4_valueIfThereCome 45 = .ok (.invokevirtual 127, 3) := by decide +kernel
theorem dX4_valueIfThereCome_48 : decode cX4_valueIfThereCome 48 = .ok (.ireturn, 1) := by decide +kernel
theorem dX4_greatestDivisor_0 : decode cX4_greatestDivisor 0 = .ok (.lload_n 0, 1) := by decide +kernel
theorem dX4_greatestDivisor_1 : decode cX4_greatestDivisor 1 = .ok (.lstore 4, 2) := by decide +kernel
theorem dX4_greatestDivisor_3 : decode cX4_greatestDivisor 3 = .ok (.lload_n 2, 1) := by decide +kernel
theorem dX4_greatestDivisor_4 : decode cX4_greatestDivisor 4 = .ok (.lstore 6, 2) := by decide +kernel
theorem dX4_greatestDivisor_6 : decode cX4_greatestDivisor 6 = .ok (.iconst 0, 1) := by decide +kernel
theorem dX4_greatestDivisor_7 : decode cX4_greatestDivisor 7 = .ok (.istore 8, 2) := by decide +kernel
theorem dX4_greatestDivisor_9 : decode cX4_greatestDivisor 9 = .ok (.iload 8, 2) := by decide +kernel
theorem dX4_greatestDivisor_11 : decode cX4_greatestDivisor 11 = .ok (.sipush 1000, 3) := by decide +kernel
theorem dX4_greatestDivisor_14 : decode cX4_greatestDivisor 14 = .ok (.if_icmp .ge 31, 3) := by decide +kernel
theorem dX4_greatestDivisor_17 : decode cX4_greatestDivisor 17 = .ok (.lload 6, 2) := by decide +kernel
theorem dX4_greatestDivisor_19 : decode cX4_greatestDivisor 19 = .ok (.lconst 0, 1) := by decide +kernel
theorem dX4_greatestDivisor_20 : decode cX4_greatestDivisor 20 = .ok (.lcmp, 1) := by decide +kernel
theorem dX4_greatestDivisor_21 : decode cX4_greatestDivisor 21 = .ok (.ifCond .eq 24, 3) := by decide +kernel
theorem dX4_greatestDivisor_24 : decode cX4_greatestDivisor 24 = .ok (.lload 4, 2) := by decide +kernel
theorem dX4_greatestDivisor_26 : decode cX4_greatestDivisor 26 = .ok (.lload 6, 2) := by decide +kernel
theorem dX4_greatestDivisor_28 : decode cX4_greatestDivisor 28 = .ok (.lrem, 1) := by decide +kernel
theorem dX4_greatestDivisor_29 : decode cX4_greatestDivisor 29 = .ok (.lstore 9, 2) := by decide +kernel
theorem dX4_greatestDivisor_31 : decode cX4_greatestDivisor 31 = .ok (.lload 6, 2) := by decide +kernel
theorem dX4_greatestDivisor_33 : decode cX4_greatestDivisor 33 = .ok (.lstore 4, 2) := by decide +kernel
theorem dX4_greatestDivisor_35 : decode cX4_greatestDivisor 35 = .ok (.lload 9, 2) := by decide +kernel
theorem dX4_greatestDivisor_37 : decode cX4_greatestDivisor 37 = .ok (.lstore 6, 2) := by decide +kernel
theorem dX4_greatestDivisor_39 : decode cX4_greatestDivisor 39 = .ok (.iinc 8 1, 3) := by decide +kernel
theorem dX4_greatestDivisor_42 : decode cX4_greatestDivisor 42 = .ok (.goto (-33), 3) := by decide +kernel
theorem dX4_greatestDivisor_45 : decode cX4_greatestDivisor 45 = .ok (.lconst 1, 1) := by decide +kernel
theorem dX4_greatestDivisor_46 : decode cX4_greatestDivisor 46 = .ok (.lload 4, 2) := by decide +kernel
theorem dX4_greatestDivisor_48 : decode cX4_greatestDivisor 48 = .ok (.invokestatic 233, 3) := by decide +kernel
theorem dX4_greatestDivisor_51 : decode cX4_greatestDivisor 51 = .ok (.lreturn, 1) := by decide +kernel
theorem dX4_shareOne_0 : decode cX4_shareOne 0 = .ok (.bipush 80, 2) := by decide +kernel
theorem dX4_shareOne_2 : decode cX4_shareOne 2 = .ok (.istore_n 2, 1) := by decide +kernel
theorem dX4_shareOne_3 : decode cX4_shareOne 3 = .ok (.iload_n 2, 1) := by decide +kernel
theorem dX4_shareOne_4 : decode cX4_shareOne 4 = .ok (.ifCond .le 121, 3) := by decide +kernel
theorem dX4_shareOne_7 : decode cX4_shareOne 7 = .ok (.iconst 0, 1) := by decide +kernel
theorem dX4_shareOne_8 : decode cX4_shareOne 8 = .ok (.istore_n 3, 1) := by decide +kernel
theorem dX4_shareOne_9 : decode cX4_shareOne 9 = .ok (.iload_n 3, 1) := by decide +kernel
theorem dX4_shareOne_10 : decode cX4_shareOne 10 = .ok (.aload_n 0, 1) := by decide +kernel
theorem dX4_shareOne_11 : decode cX4_shareOne 11 = .ok (.getfield 12, 3) := by decide +kernel
theorem dX4_shareOne_14 : decode cX4_shareOne 14 = .ok (.getfield 164, 3) := by decide +kernel
theorem dX4_shareOne_17 : decode cX4_shareOne 17 = .ok (.if_icmp .ge 102, 3) := by decide +kernel
theorem dX4_shareOne_20 : decode cX4_shareOne 20 = .ok (.iload_n 2, 1) := by decide +kernel
theorem dX4_shareOne_21 : decode cX4_shareOne 21 = .ok (.getstatic 236, 3) := by decide +kernel
theorem dX4_shareOne_24 : decode cX4_shareOne 24 = .ok (.iload_n 3, 1) := by decide +kernel
theorem dX4_shareOne_25 : decode cX4_shareOne 25 = .ok (.iaload, 1) := by decide +kernel
theorem dX4_shareOne_26 : decode cX4_shareOne 26 = .ok (.idiv, 1) := by decide +kernel
theorem dX4_shareOne_27 : decode cX4_shareOne 27 = .ok (.iconst 3, 1) := by decide +kernel
theorem dX4_shareOne_28 : decode cX4_shareOne 28 = .ok (.irem, 1) := by decide +kernel
theorem dX4_shareOne_29 : decode cX4_shareOne 29 = .ok (.ifCond .le 7, 3) := by decide +kernel
theorem dX4_shareOne_32 : decode cX4_shareOne 32 = .ok (.iconst 1, 1) := by decide +kernel
theorem dX4_shareOne_33 : decode cX4_shareOne 33 = .ok (.goto 4, 3) := by decide +kernel
theorem dX4_shareOne_36 : decode cX4_shareOne 36 = .ok (.iconst 0, 1) := by decide +kernel
theorem dX4_shareOne_37 : decode cX4_shareOne 37 = .ok (.istore 4, 2) := by decide +kernel
theorem dX4_shareOne_39 : decode cX4_shareOne 39 = .ok (.iload 4, 2) := by decide +kernel
theorem dX4_shareOne_41 : decode cX4_shareOne 41 = .ok (.ifCond .eq 18, 3) := by decide +kernel
theorem dX4_shareOne_44 : decode cX4_shareOne 44 = .ok (.aload_n 0, 1) := by decide +kernel
theorem dX4_shareOne_45 : decode cX4_shareOne 45 = .ok (.getfield 50, 3) := by decide +kernel
theorem dX4_shareOne_48 : decode cX4_shareOne 48 = .ok (.iload_n 2, 1) := by decide +kernel
theorem dX4_shareOne_49 : decode cX4_shareOne 49 = .ok (.getstatic 236, 3) := by decide +kernel
theorem dX4_shareOne_52 : decode cX4_shareOne 52 = .ok (.iload_n 3, 1) := by decide +kernel
theorem dX4_shareOne_53 : decode cX4_shareOne 53 = .ok (.iaload, 1) := by decide +kernel
theorem dX4_shareOne_54 : decode cX4_shareOne 54 = .ok (.isub, 1) := by decide +kernel
theorem dX4_shareOne_55 : decode cX4_shareOne 55 = .ok (.iaload, 1) := by decide +kernel
theorem dX4_shareOne_56 : decode cX4_shareOne 56 = .ok (.goto 4, 3) := by decide +kernel
theorem dX4_shareOne_59 : decode cX4_shareOne 59 = .ok (.iconst (-1), 1) := by decide +kernel
theorem dX4_shareOne_60 : decode cX4_shareOne 60 = .ok (.istore 5, 2) := by decide +kernel
theorem dX4_shareOne_62 : decode cX4_shareOne 62 = .ok (.iload 5, 2) := by decide +kernel
theorem dX4_shareOne_64 : decode cX4_shareOne 64 = .ok (.iconst (-1), 1) := by decide +kernel
theorem dX4_shareOne_65 : decode cX4_shareOne 65 = .ok (.if_icmp .ne 6, 3) := by decide +kernel
theorem dX4_shareOne_68 : decode cX4_shareOne 68 = .ok (.goto 45, 3) := by decide +kernel
theorem dX4_shareOne_71 : decode cX4_shareOne 71 = .ok (.aload_n 0, 1) := by decide +kernel
theorem dX4_shareOne_72 : decode cX4_shareOne 72 = .ok (.getfield 12, 3) := by decide +kernel
theorem dX4_shareOne_75 : decode cX4_shareOne 75 = .ok (.iload_n 3, 1) := by decide +kernel
theorem dX4_shareOne_76 : decode cX4_shareOne 76 = .ok (.iload_n 1, 1) := by decide +kernel
theorem dX4_shareOne_77 : decode cX4_shareOne 77 = .ok (.invokevirtual 106, 3) := by decide +kernel
theorem dX4_shareOne_80 : decode cX4_shareOne 80 = .ok (.istore 6, 2) := by decide +kernel
theorem dX4_shareOne_82 : decode cX4_shareOne 82 = .ok (.iload 6, 2) := by decide +kernel
theorem dX4_shareOne_84 : decode cX4_shareOne 84 = .ok (.iconst (-1), 1) := by decide +kernel
theorem dX4_shareOne_85 : decode cX4_shareOne 85 = .ok (.if_icmp .eq 28, 3) := by decide +kernel
theorem dX4_shareOne_88 : decode cX4_shareOne 88 = .ok (.iload 5, 2) := by decide +kernel
theorem dX4_shareOne_90 : decode cX4_shareOne 90 = .ok (.iload 6, 2) := by decide +kernel
theorem dX4_shareOne_92 : decode cX4_shareOne 92 = .ok (.iadd, 1) := by decide +kernel
theorem dX4_shareOne_93 : decode cX4_shareOne 93 = .ok (.aload_n 0, 1) := by decide +kernel
theorem dX4_shareOne_94 : decode cX4_shareOne 94 = .ok (.getfield 50, 3) := by decide +kernel
theorem dX4_shareOne_97 : decode cX4_shareOne 97 = .ok (.iload_n 2, 1) := by decide +kernel
theorem dX4_shareOne_98 : decode cX4_shareOne 98 = .ok (.iaload, 1) := by decide +kernel
theorem dX4_shareOne_99 : decode cX4_shareOne 99 = .ok (.if_icmp .le 14, 3) := by decide +kernel
theorem dX4_shareOne_102 : decode cX4_shareOne 102 = .ok (.aload_n 0, 1) := by decide +kernel
theorem dX4_shareOne_103 : decode cX4_shareOne 103 = .ok (.getfield 50, 3) := by decide +kernel
theorem dX4_shareOne_106 : decode cX4_shareOne 106 = .ok (.iload_n 2, 1) := by decide +kernel
theorem dX4_shareOne_107 : decode cX4_shareOne 107 = .ok (.iload 5, 2) := by decide +kernel
theorem dX4_shareOne_109 : decode cX4_shareOne 109 = .ok (.iload 6, 2) := by decide +kernel
theorem dX4_shareOne_111 : decode cX4_shareOne 111 = .ok (.iadd, 1) := by decide +kernel
theorem dX4_shareOne_112 : decode cX4_shareOne 112 = .ok (.iastore, 1) := by decide +kernel
theorem dX4_shareOne_113 : decode cX4_shareOne 113 = .ok (.iinc 3 1, 3) := by decide +kernel
theorem dX4_shareOne_116 : decode cX4_shareOne 116 = .ok (.goto (-107), 3) := by decide +kernel
theorem dX4_shareOne_119 : decode cX4_shareOne 119 = .ok (.iinc 2 (-1), 3) := by decide +kernel
theorem dX4_shareOne_122 : decode cX4_shareOne 122 = .ok (.goto (-119), 3) := by decide +kernel
theorem dX4_shareOne_125 : decode cX4_shareOne 125 = .ok (.return_, 1) := by decide +kernel
theorem dX4_openBottle_0 : decode cX4_openBottle 0 = .ok (.bipush 63, 2) := by decide +kernel
theorem dX4_openBottle_2 : decode cX4_openBottle 2 = .ok (.istore 4, 2) := by decide +kernel
theorem dX4_openBottle_4 : decode cX4_openBottle 4 = .ok (.iload 4, 2) := by decide +kernel
theorem dX4_openBottle_6 : decode cX4_openBottle 6 = .ok (.ifCond .le 96, 3) := by decide +kernel
theorem dX4_openBottle_9 : decode cX4_openBottle 9 = .ok (.iload_n 1, 1) := by decide +kernel
theorem dX4_openBottle_10 : decode cX4_openBottle 10 = .ok (.istore 5, 2) := by decide +kernel
theorem dX4_openBottle_12 : decode cX4_openBottle 12 = .ok (.iload 5, 2) := by decide +kernel
theorem dX4_openBottle_14 : decode cX4_openBottle 14 = .ok (.iload_n 2, 1) := by decide +kernel
theorem dX4_openBottle_15 : decode cX4_openBottle 15 = .ok (.if_icmp .gt 81, 3) := by decide +kernel
theorem dX4_openBottle_18 : decode cX4_openBottle 18 = .ok (.iload 4, 2) := by decide +kernel
theorem dX4_openBottle_20 : decode cX4_openBottle 20 = .ok (.iload 5, 2) := by decide +kernel
theorem dX4_openBottle_22 : decode cX4_openBottle 22 = .ok (.ishr, 1) := by decide +kernel
theorem dX4_openBottle_23 : decode cX4_openBottle 23 = .ok (.iconst 1, 1) := by decide +kernel
theorem dX4_openBottle_24 : decode cX4_openBottle 24 = .ok (.iand, 1) := by decide +kernel
theorem dX4_openBottle_25 : decode cX4_openBottle 25 = .ok (.iconst 1, 1) := by decide +kernel
theorem dX4_openBottle_26 : decode cX4_openBottle 26 = .ok (.if_icmp .ne 7, 3) := by decide +kernel
theorem dX4_openBottle_29 : decode cX4_openBottle 29 = .ok (.iconst 1, 1) := by decide +kernel
theorem dX4_openBottle_30 : decode cX4_openBottle 30 = .ok (.goto 4, 3) := by decide +kernel
theorem dX4_openBottle_33 : decode cX4_openBottle 33 = .ok (.iconst 0, 1) := by decide +kernel
theorem dX4_openBottle_34 : decode cX4_openBottle 34 = .ok (.istore 6, 2) := by decide +kernel
theorem dX4_openBottle_36 : decode cX4_openBottle 36 = .ok (.iload 6, 2) := by decide +kernel
theorem dX4_openBottle_38 : decode cX4_openBottle 38 = .ok (.ifCond .eq 18, 3) := by decide +kernel
theorem dX4_openBottle_41 : decode cX4_openBottle 41 = .ok (.aload_n 0, 1) := by decide +kernel
theorem dX4_openBottle_42 : decode cX4_openBottle 42 = .ok (.getfield 53, 3) := by decide +kernel
theorem dX4_openBottle_45 : decode cX4_openBottle 45 = .ok (.iload 4, 2) := by decide +kernel
theorem dX4_openBottle_47 : decode cX4_openBottle 47 = .ok (.iconst 1, 1) := by decide +kernel
theorem dX4_openBottle_48 : decode cX4_openBottle 48 = .ok (.iload 5, 2) := by decide +kernel
theorem dX4_openBottle_50 : decode cX4_openBottle 50 = .ok (.ishl, 1) := by decide +kernel
theorem dX4_openBottle_51 : decode cX4_openBottle 51 = .ok (.isub, 1) := by decide +kernel
theorem dX4_openBottle_52 : decode cX4_openBottle 52 = .ok (.iaload, 1) := by decide +kernel
theorem dX4_openBottle_53 : decode cX4_openBottle 53 = .ok (.goto 4, 3) := by decide +kernel
theorem dX4_openBottle_56 : decode cX4_openBottle 56 = .ok (.iconst (-1), 1) := by decide +kernel
theorem dX4_openBottle_57 : decode cX4_openBottle 57 = .ok (.istore 7, 2) := by decide +kernel
theorem dX4_openBottle_59 : decode cX4_openBottle 59 = .ok (.iload 7, 2) := by decide +kernel
theorem dX4_openBottle_61 : decode cX4_openBottle 61 = .ok (.iconst (-1), 1) := by decide +kernel
theorem dX4_openBottle_62 : decode cX4_openBottle 62 = .ok (.if_icmp .eq 28, 3) := by decide +kernel
theorem dX4_openBottle_65 : decode cX4_openBottle 65 = .ok (.iload 7, 2) := by decide +kernel
theorem dX4_openBottle_67 : decode cX4_openBottle 67 = .ok (.iload_n 3, 1) := by decide +kernel
theorem dX4_openBottle_68 : decode cX4_openBottle 68 = .ok (.iadd, 1) := by decide +kernel
theorem dX4_openBottle_69 : decode cX4_openBottle 69 = .ok (.aload_n 0, 1) := by decide +kernel
theorem dX4_openBottle_70 : decode cX4_openBottle 70 = .ok (.getfield 53, 3) := by decide +kernel
theorem dX4_openBottle_73 : decode cX4_openBottle 73 = .ok (.iload 4, 2) := by decide +kernel
theorem dX4_openBottle_75 : decode cX4_openBottle 75 = .ok (.iaload, 1) := by decide +kernel
theorem dX4_openBottle_76 : decode cX4_openBottle 76 = .ok (.if_icmp .le 14, 3) := by decide +kernel
theorem dX4_openBottle_79 : decode cX4_openBottle 79 = .ok (.aload_n 0, 1) := by decide +kernel
theorem dX4_openBottle_80 : decode cX4_openBottle 80 = .ok (.getfield 53, 3) := by decide +kernel
theorem dX4_openBottle_83 : decode cX4_openBottle 83 = .ok (.iload 4, 2) := by decide +kernel
theorem dX4_openBottle_85 : decode cX4_openBottle 85 = .ok (.iload 7, 2) := by decide +kernel
theorem dX4_openBottle_87 : decode cX4_openBottle 87 = .ok (.iload_n 3, 1) := by decide +kernel
theorem dX4_openBottle_88 : decode cX4_openBottle 88 = .ok (.iadd, 1) := by decide +kernel
theorem dX4_openBottle_89 : decode cX4_openBottle 89 = .ok (.iastore, 1) := by decide +kernel
theorem dX4_openBottle_90 : decode cX4_openBottle 90 = .ok (.iinc 5 1, 3) := by decide +kernel
theorem dX4_openBottle_93 : decode cX4_openBottle 93 = .ok (.goto (-81), 3) := by decide +kernel
theorem dX4_openBottle_96 : decode cX4_openBottle 96 = .ok (.iinc 4 (-1), 3) := by decide +kernel
theorem dX4_openBottle_99 : decode cX4_openBottle 99 = .ok (.goto (-95), 3) := by decide +kernel
theorem dX4_openBottle_102 : decode cX4_openBottle 102 = .ok (.return_, 1) := by decide +kernel
theorem dX4_greatest_0 : decode cX4_greatest 0 = .ok (.iconst 0, 1) := by decide +kernel
theorem dX4_greatest_1 : decode cX4_greatest 1 = .ok (.istore_n 1, 1) := by decide +kernel
theorem dX4_greatest_2 : decode cX4_greatest 2 = .ok (.iconst 0, 1) := by decide +kernel
theorem dX4_greatest_3 : decode cX4_greatest 3 = .ok (.istore_n 2, 1) := by decide +kernel
theorem dX4_greatest_4 : decode cX4_greatest 4 = .ok (.iload_n 2, 1) := by decide +kernel
theorem dX4_greatest_5 : decode cX4_greatest 5 = .ok (.aload_n 0, 1) := by decide +kernel
theorem dX4_greatest_6 : decode cX4_greatest 6 = .ok (.arraylength, 1) := by decide +kernel
theorem dX4_greatest_7 : decode cX4_greatest 7 = .ok (.if_icmp .ge 17, 3) := by decide +kernel
theorem dX4_greatest_10 : decode cX4_greatest 10 = .ok (.iload_n 1, 1) := by decide +kernel
theorem dX4_greatest_11 : decode cX4_greatest 11 = .ok (.aload_n 0, 1) := by decide +kernel
theorem dX4_greatest_12 : decode cX4_greatest 12 = .ok (.iload_n 2, 1) := by decide +kernel
theorem dX4_greatest_13 : decode cX4_greatest 13 = .ok (.iaload, 1) := by decide +kernel
theorem dX4_greatest_14 : decode cX4_greatest 14 = .ok (.invokestatic 239, 3) := by decide +kernel
theorem dX4_greatest_17 : decode cX4_greatest 17 = .ok (.istore_n 1, 1) := by decide +kernel
theorem dX4_greatest_18 : decode cX4_greatest 18 = .ok (.iinc 2 1, 3) := by decide +kernel
theorem dX4_greatest_21 : decode cX4_greatest 21 = .ok (.goto (-17), 3) := by decide +kernel
theorem dX4_greatest_24 : decode cX4_greatest 24 = .ok (.iload_n 1, 1) := by decide +kernel
theorem dX4_greatest_25 : decode cX4_greatest 25 = .ok (.ireturn, 1) := by decide +kernel
theorem dX4_throwsAsInRow_0 : decode cX4_throwsAsInRow 0 = .ok (.aload_n 0, 1) := by decide +kernel
theorem dX4_throwsAsInRow_1 : decode cX4_throwsAsInRow 1 = .ok (.invokevirtual 124, 3) := by decide +kernel
theorem dX4_throwsAsInRow_4 : decode cX4_throwsAsInRow 4 = .ok (.aload_n 0, 1) := by decide +kernel
theorem dX4_throwsAsInRow_5 : decode cX4_throwsAsInRow 5 = .ok (.getfield 19, 3) := by decide +kernel
theorem dX4_throwsAsInRow_8 : decode cX4_throwsAsInRow 8 = .ok (.getfield 103, 3) := by decide +kernel
theorem dX4_throwsAsInRow_11 : decode cX4_throwsAsInRow 11 = .ok (.iconst 5, 1) := by decide +kernel
theorem dX4_throwsAsInRow_12 : decode cX4_throwsAsInRow 12 = .ok (.iload_n 1, 1) := by decide +kernel
theorem dX4_throwsAsInRow_13 : decode cX4_throwsAsInRow 13 = .ok (.iastore, 1) := by decide +kernel
theorem dX4_throwsAsInRow_14 : decode cX4_throwsAsInRow 14 = .ok (.iconst 0, 1) := by decide +kernel
theorem dX4_throwsAsInRow_15 : decode cX4_throwsAsInRow 15 = .ok (.istore_n 2, 1) := by decide +kernel
theorem dX4_throwsAsInRow_16 : decode cX4_throwsAsInRow 16 = .ok (.iload_n 2, 1) := by decide +kernel
theorem dX4_throwsAsInRow_17 : decode cX4_throwsAsInRow 17 = .ok (.aload_n 0, 1) := by decide +kernel
theorem dX4_throwsAsInRow_18 : decode cX4_throwsAsInRow 18 = .ok (.getfield 197, 3) := by decide +kernel
theorem dX4_throwsAsInRow_21 : decode cX4_throwsAsInRow 21 = .ok (.if_icmp .ge 35, 3) := by decide +kernel
theorem dX4_throwsAsInRow_24 : decode cX4_throwsAsInRow 24 = .ok (.aload_n 0, 1) := by decide +kernel
theorem dX4_throwsAsInRow_25 : decode cX4_throwsAsInRow 25 = .ok (.iconst 1, 1) := by decide +kernel
theorem dX4_throwsAsInRow_26 : decode cX4_throwsAsInRow 26 = .ok (.invokevirtual 127, 3) := by decide +kernel
theorem dX4_throwsAsInRow_29 : decode cX4_throwsAsInRow 29 = .ok (.pop, 1) := by decide +kernel
theorem dX4_throwsAsInRow_30 : decode cX4_throwsAsInRow 30 = .ok (.aload_n 0, 1) := by decide +kernel
theorem dX4_throwsAsInRow_31 : decode cX4_throwsAsInRow 31 = .ok (.getfield 25, 3) := by decide +kernel
theorem dX4_throwsAsInRow_34 : decode cX4_throwsAsInRow 34 = .ok (.getfield 121, 3) := by decide +kernel
theorem dX4_throwsAsInRow_37 : decode cX4_throwsAsInRow 37 = .ok (.iconst 3, 1) := by decide +kernel
theorem dX4_throwsAsInRow_38 : decode cX4_throwsAsInRow 38 = .ok (.iaload, 1) := by decide +kernel
theorem dX4_throwsAsInRow_39 : decode cX4_throwsAsInRow 39 = .ok (.aload_n 0, 1) := by decide +kernel
theorem dX4_throwsAsInRow_40 : decode cX4_throwsAsInRow 40 = .ok (.getfield 43, 3) := by decide +kernel
theorem dX4_throwsAsInRow_43 : decode cX4_throwsAsInRow 43 = .ok (.iload_n 2, 1) := by decide +kernel
theorem dX4_throwsAsInRow_44 : decode cX4_throwsAsInRow 44 = .ok (.iaload, 1) := by decide +kernel
theorem dX4_throwsAsInRow_45 : decode cX4_throwsAsInRow 45 = .ok (.if_icmp .eq 5, 3) := by decide +kernel
theorem dX4_throwsAsInRow_48 : decode cX4_throwsAsInRow 48 = .ok (.iconst 0, 1) := by decide +kernel
theorem dX4_throwsAsInRow_49 : decode cX4_throwsAsInRow 49 = .ok (.ireturn, 1) := by decide +kernel
theorem dX4_throwsAsInRow_50 : decode cX4_throwsAsInRow 50 = .ok (.iinc 2 1, 3) := by decide +kernel
theorem dX4_throwsAsInRow_53 : decode cX4_throwsAsInRow 53 = .ok (.goto (-37), 3) := by decide +kernel
theorem dX4_throwsAsInRow_56 : decode cX4_throwsAsInRow 56 = .ok (.iconst 1, 1) := by decide +kernel
theorem dX4_throwsAsInRow_57 : decode cX4_throwsAsInRow 57 = .ok (.ireturn, 1) := by decide +kernel
theorem dX4_firstNotEatenToday_0 : decode cX4_firstNotEatenToday 0 = .ok (.aload_n 0, 1) := by decide +kernel
theorem dX4_firstNotEatenToday_1 : decode cX4_firstNotEatenToday 1 = .ok (.invokevirtual 124, 3) := by decide +kernel
theorem dX4_firstNotEatenToday_4 : decode cX4_firstNotEatenToday 4 = .ok (.aload_n 0, 1) := by decide +kernel
theorem dX4_firstNotEatenToday_5 : decode cX4_firstNotEatenToday 5 = .ok (.iconst 1, 1) := by decide +kernel
theorem dX4_firstNotEatenToday_6 : decode cX4_firstNotEatenToday 6 = .ok (.invokevirtual 127, 3) := by decide +kernel
theorem dX4_firstNotEatenToday_9 : decode cX4_firstNotEatenToday 9 = .ok (.pop, 1) := by decide +kernel
theorem dX4_firstNotEatenToday_10 : decode cX4_firstNotEatenToday 10 = .ok (.iconst 0, 1) := by decide +kernel
theorem dX4_firstNotEatenToday_11 : decode cX4_firstNotEatenToday 11 = .ok (.istore_n 1, 1) := by decide +kernel
theorem dX4_firstNotEatenToday_12 : decode cX4_firstNotEatenToday 12 = .ok (.iload_n 1, 1) := by decide +kernel
theorem dX4_firstNotEatenToday_13 : decode cX4_firstNotEatenToday 13 = .ok (.aload_n 0, 1) := by decide +kernel
theorem dX4_firstNotEatenToday_14 : decode cX4_firstNotEatenToday 14 = .ok (.getfield 197, 3) := by decide +kernel
theorem dX4_firstNotEatenToday_17 : decode cX4_firstNotEatenToday 17 = .ok (.if_icmp .ge 40, 3) := by decide +kernel
theorem dX4_firstNotEatenToday_20 : decode cX4_firstNotEatenToday 20 = .ok (.iload_n 1, 1) := by decide +kernel
theorem dX4_firstNotEatenToday_21 : decode cX4_firstNotEatenToday 21 = .ok (.aload_n 0, 1) := by decide +kernel
theorem dX4_firstNotEatenToday_22 : decode cX4_firstNotEatenToday 22 = .ok (.getfield 25, 3) := by decide +kernel
theorem dX4_firstNotEatenToday_25 : decode cX4_firstNotEatenToday 25 = .ok (.getfield 241, 3) := by decide +kernel
theorem dX4_firstNotEatenToday_28 : decode cX4_firstNotEatenToday 28 = .ok (.if_icmp .ge 21, 3) := by decide +kernel
theorem dX4_firstNotEatenToday_31 : decode cX4_firstNotEatenToday 31 = .ok (.aload_n 0, 1) := by decide +kernel
theorem dX4_firstNotEatenToday_32 : decode cX4_firstNotEatenToday 32 = .ok (.getfield 25, 3) := by decide +kernel
theorem dX4_firstNotEatenToday_35 : decode cX4_firstNotEatenToday 35 = .ok (.getfield 244, 3) := by decide +kernel
theorem dX4_firstNotEatenToday_38 : decode cX4_firstNotEatenToday 38 = .ok (.iload_n 1, 1) := by decide +kernel
theorem dX4_firstNotEatenToday_39 : decode cX4_firstNotEatenToday 39 = .ok (.iaload, 1) := by decide +kernel
theorem dX4_firstNotEatenToday_40 : decode cX4_firstNotEatenToday 40 = .ok (.aload_n 0, 1) := by decide +kernel
theorem dX4_firstNotEatenToday_41 : decode cX4_firstNotEatenToday 41 = .ok (.getfield 43, 3) := by decide +kernel
theorem dX4_firstNotEatenToday_44 : decode cX4_firstNotEatenToday 44 = .ok (.iload_n 1, 1) := by decide +kernel
theorem dX4_firstNotEatenToday_45 : decode cX4_firstNotEatenToday 45 = .ok (.iaload, 1) := by decide +kernel
theorem dX4_firstNotEatenToday_46 : decode cX4_firstNotEatenToday 46 = .ok (.if_icmp .eq 5, 3) := by decide +kernel
theorem dX4_firstNotEatenToday_49 : decode cX4_firstNotEatenToday 49 = .ok (.iload_n 1, 1) := by decide +kernel
theorem dX4_firstNotEatenToday_50 : decode cX4_firstNotEatenToday 50 = .ok (.ireturn, 1) := by decide +kernel
theorem dX4_firstNotEatenToday_51 : decode cX4_firstNotEatenToday 51 = .ok (.iinc 1 1, 3) := by decide +kernel
theorem dX4_firstNotEatenToday_54 : decode cX4_firstNotEatenToday 54 = .ok (.goto (-42), 3) := by decide +kernel
theorem dX4_firstNotEatenToday_57 : decode cX4_firstNotEatenToday 57 = .ok (.bipush (-9), 2) := by decide +kernel
theorem dX4_firstNotEatenToday_59 : decode cX4_firstNotEatenToday 59 = .ok (.ireturn, 1) := by decide +kernel
theorem dX4_draw_0 : decode cX4_draw 0 = .ok (.iload_n 1, 1) := by decide +kernel
theorem dX4_draw_1 : decode cX4_draw 1 = .ok (.iconst 1, 1) := by decide +kernel
theorem dX4_draw_2 : decode cX4_draw 2 = .ok (.if_icmp .ge 7, 3) := by decide +kernel
theorem dX4_draw_5 : decode cX4_draw 5 = .ok (.iconst 0, 1) := by decide +kernel
theorem dX4_draw_6 : decode cX4_draw 6 = .ok (.goto 13, 3) := by decide +kernel
theorem dX4_draw_9 : decode cX4_draw 9 = .ok (.iload_n 0, 1) := by decide +kernel
theorem dX4_draw_10 : decode cX4_draw 10 = .ok (.ldc 247, 2) := by decide +kernel
theorem dX4_draw_12 : decode cX4_draw 12 = .ok (.iand, 1) := by decide +kernel
theorem dX4_draw_13 : decode cX4_draw 13 = .ok (.sipush 256, 3) := by decide +kernel
theorem dX4_draw_16 : decode cX4_draw 16 = .ok (.idiv, 1) := by decide +kernel
theorem dX4_draw_17 : decode cX4_draw 17 = .ok (.iload_n 1, 1) := by decide +kernel
theorem dX4_draw_18 : decode cX4_draw 18 = .ok (.irem, 1) := by decide +kernel
theorem dX4_draw_19 : decode cX4_draw 19 = .ok (.ireturn, 1) := by decide +kernel
