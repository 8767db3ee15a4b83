theorem dX0_init_0 : decode cX0_init 0 = .ok (.aload_n 0, 1) := by decide +kernel
theorem dX0_init_1 : decode cX0_init 1 = .ok (.invokespecial 3, 3) := by decide +kernel
theorem dX0_init_4 : decode cX0_init 4 = .ok (.return_, 1) := by decide +kernel
theorem dX0_clear_0 : decode cX0_clear 0 = .ok (.aload_n 0, 1) := by decide +kernel
theorem dX0_clear_1 : decode cX0_clear 1 = .ok (.bipush (-9), 2) := by decide +kernel
theorem dX0_clear_3 : decode cX0_clear 3 = .ok (.putfield 9, 3) := by decide +kernel
theorem dX0_clear_6 : decode cX0_clear 6 = .ok (.aload_n 0, 1) := by decide +kernel
theorem dX0_clear_7 : decode cX0_clear 7 = .ok (.iconst 0, 1) := by decide +kernel
theorem dX0_clear_8 : decode cX0_clear 8 = .ok (.putfield 15, 3) := by decide +kernel
theorem dX0_clear_11 : decode cX0_clear 11 = .ok (.return_, 1) := by decide +kernel
theorem dX0_offer_0 : decode cX0_offer 0 = .ok (.aload_n 0, 1) := by decide +kernel
theorem dX0_offer_1 : decode cX0_offer 1 = .ok (.getfield 9, 3) := by decide +kernel
theorem dX0_offer_4 : decode cX0_offer 4 = .ok (.bipush (-9), 2) := by decide +kernel
theorem dX0_offer_6 : decode cX0_offer 6 = .ok (.if_icmp .eq 11, 3) := by decide +kernel
theorem dX0_offer_9 : decode cX0_offer 9 = .ok (.iload_n 2, 1) := by decide +kernel
theorem dX0_offer_10 : decode cX0_offer 10 = .ok (.aload_n 0, 1) := by decide +kernel
theorem dX0_offer_11 : decode cX0_offer 11 = .ok (.getfield 15, 3) := by decide +kernel
theorem dX0_offer_14 : decode cX0_offer 14 = .ok (.if_icmp .le 13, 3) := by decide +kernel
theorem dX0_offer_17 : decode cX0_offer 17 = .ok (.aload_n 0, 1) := by decide +kernel
theorem dX0_offer_18 : decode cX0_offer 18 = .ok (.iload_n 1, 1) := by decide +kernel
theorem dX0_offer_19 : decode cX0_offer 19 = .ok (.putfield 9, 3) := by decide +kernel
theorem dX0_offer_22 : decode cX0_offer 22 = .ok (.aload_n 0, 1) := by decide +kernel
theorem dX0_offer_23 : decode cX0_offer 23 = .ok (.iload_n 2, 1) := by decide +kernel
theorem dX0_offer_24 : decode cX0_offer 24 = .ok (.putfield 15, 3) := by decide +kernel
theorem dX0_offer_27 : decode cX0_offer 27 = .ok (.return_, 1) := by decide +kernel
theorem dX1_init_0 : decode cX1_init 0 = .ok (.aload_n 0, 1) := by decide +kernel
theorem dX1_init_1 : decode cX1_init 1 = .ok (.invokespecial 3, 3) := by decide +kernel
theorem dX1_init_4 : decode cX1_init 4 = .ok (.aload_n 0, 1) := by decide +kernel
theorem dX1_init_5 : decode cX1_init 5 = .ok (.iconst 5, 1) := by decide +kernel
theorem dX1_init_6 : decode cX1_init 6 = .ok (.newarray .int, 2) := by decide +kernel
theorem dX1_init_8 : decode cX1_init 8 = .ok (.putfield 9, 3) := by decide +kernel
theorem dX1_init_11 : decode cX1_init 11 = .ok (.aload_n 0, 1) := by decide +kernel
theorem dX1_init_12 : decode cX1_init 12 = .ok (.bipush 7, 2) := by decide +kernel
theorem dX1_init_14 : decode cX1_init 14 = .ok (.newarray .int, 2) := by decide +kernel
theorem dX1_init_16 : decode cX1_init 16 = .ok (.dup, 1) := by decide +kernel
theorem dX1_init_17 : decode cX1_init 17 = .ok (.iconst 0, 1) := by decide +kernel
theorem dX1_init_18 : decode cX1_init 18 = .ok (.iconst 1, 1) := by decide +kernel
theorem dX1_init_19 : decode cX1_init 19 = .ok (.iastore, 1) := by decide +kernel
theorem dX1_init_20 : decode cX1_init 20 = .ok (.dup, 1) := by decide +kernel
theorem dX1_init_21 : decode cX1_init 21 = .ok (.iconst 1, 1) := by decide +kernel
theorem dX1_init_22 : decode cX1_init 22 = .ok (.iconst 1, 1) := by decide +kernel
theorem dX1_init_23 : decode cX1_init 23 = .ok (.iastore, 1) := by decide +kernel
theorem dX1_init_24 : decode cX1_init 24 = .ok (.dup, 1) := by decide +kernel
theorem dX1_init_25 : decode cX1_init 25 = .ok (.iconst 2, 1) := by decide +kernel
theorem dX1_init_26 : decode cX1_init 26 = .ok (.iconst 1, 1) := by decide +kernel
theorem dX1_init_27 : decode cX1_init 27 = .ok (.iastore, 1) := by decide +kernel
theorem dX1_init_28 : decode cX1_init 28 = .ok (.dup, 1) := by decide +kernel
theorem dX1_init_29 : decode cX1_init 29 = .ok (.iconst 3, 1) := by decide +kernel
theorem dX1_init_30 : decode cX1_init 30 = .ok (.iconst 1, 1) := by decide +kernel
theorem dX1_init_31 : decode cX1_init 31 = .ok (.iastore, 1) := by decide +kernel
theorem dX1_init_32 : decode cX1_init 32 = .ok (.dup, 1) := by decide +kernel
theorem dX1_init_33 : decode cX1_init 33 = .ok (.iconst 4, 1) := by decide +kernel
theorem dX1_init_34 : decode cX1_init 34 = .ok (.iconst 1, 1) := by decide +kernel
theorem dX1_init_35 : decode cX1_init 35 = .ok (.iastore, 1) := by decide +kernel
theorem dX1_init_36 : decode cX1_init 36 = .ok (.dup, 1) := by decide +kernel
theorem dX1_init_37 : decode cX1_init 37 = .ok (.iconst 5, 1) := by decide +kernel
theorem dX1_init_38 : decode cX1_init 38 = .ok (.iconst 1, 1) := by decide +kernel
theorem dX1_init_39 : decode cX1_init 39 = .ok (.iastore, 1) := by decide +kernel
theorem dX1_init_40 : decode cX1_init 40 = .ok (.dup, 1) := by decide +kernel
theorem dX1_init_41 : decode cX1_init 41 = .ok (.bipush 6, 2) := by decide +kernel
theorem dX1_init_43 : decode cX1_init 43 = .ok (.iconst 1, 1) := by decide +kernel
theorem dX1_init_44 : decode cX1_init 44 = .ok (.iastore, 1) := by decide +kernel
theorem dX1_init_45 : decode cX1_init 45 = .ok (.putfield 15, 3) := by decide +kernel
theorem dX1_init_48 : decode cX1_init 48 = .ok (.aload_n 0, 1) := by decide +kernel
theorem dX1_init_49 : decode cX1_init 49 = .ok (.bipush 6, 2) := by decide +kernel
theorem dX1_init_51 : decode cX1_init 51 = .ok (.newarray .int, 2) := by decide +kernel
theorem dX1_init_53 : decode cX1_init 53 = .ok (.dup, 1) := by decide +kernel
theorem dX1_init_54 : decode cX1_init 54 = .ok (.iconst 0, 1) := by decide +kernel
theorem dX1_init_55 : decode cX1_init 55 = .ok (.bipush 6, 2) := by decide +kernel
theorem dX1_init_57 : decode cX1_init 57 = .ok (.iastore, 1) := by decide +kernel
theorem dX1_init_58 : decode cX1_init 58 = .ok (.dup, 1) := by decide +kernel
theorem dX1_init_59 : decode cX1_init 59 = .ok (.iconst 1, 1) := by decide +kernel
theorem dX1_init_60 : decode cX1_init 60 = .ok (.iconst 0, 1) := by decide +kernel
theorem dX1_init_61 : decode cX1_init 61 = .ok (.iastore, 1) := by decide +kernel
theorem dX1_init_62 : decode cX1_init 62 = .ok (.dup, 1) := by decide +kernel
theorem dX1_init_63 : decode cX1_init 63 = .ok (.iconst 2, 1) := by decide +kernel
theorem dX1_init_64 : decode cX1_init 64 = .ok (.iconst 2, 1) := by decide +kernel
theorem dX1_init_65 : decode cX1_init 65 = .ok (.iastore, 1) := by decide +kernel
theorem dX1_init_66 : decode cX1_init 66 = .ok (.dup, 1) := by decide +kernel
theorem dX1_init_67 : decode cX1_init 67 = .ok (.iconst 3, 1) := by decide +kernel
theorem dX1_init_68 : decode cX1_init 68 = .ok (.iconst 1, 1) := by decide +kernel
theorem dX1_init_69 : decode cX1_init 69 = .ok (.iastore, 1) := by decide +kernel
theorem dX1_init_70 : decode cX1_init 70 = .ok (.dup, 1) := by decide +kernel
theorem dX1_init_71 : decode cX1_init 71 = .ok (.iconst 4, 1) := by decide +kernel
theorem dX1_init_72 : decode cX1_init 72 = .ok (.iconst 3, 1) := by decide +kernel
theorem dX1_init_73 : decode cX1_init 73 = .ok (.iastore, 1) := by decide +kernel
theorem dX1_init_74 : decode cX1_init 74 = .ok (.dup, 1) := by decide +kernel
theorem dX1_init_75 : decode cX1_init 75 = .ok (.iconst 5, 1) := by decide +kernel
theorem dX1_init_76 : decode cX1_init 76 = .ok (.iconst 0, 1) := by decide +kernel
theorem dX1_init_77 : decode cX1_init 77 = .ok (.iastore, 1) := by decide +kernel
theorem dX1_init_78 : decode cX1_init 78 = .ok (.putfield 18, 3) := by decide +kernel
theorem dX1_init_81 : decode cX1_init 81 = .ok (.aload_n 0, 1) := by decide +kernel
theorem dX1_init_82 : decode cX1_init 82 = .ok (.iconst 4, 1) := by decide +kernel
theorem dX1_init_83 : decode cX1_init 83 = .ok (.iconst 4, 1) := by decide +kernel
theorem dX1_init_84 : decode cX1_init 84 = .ok (.multianewarray 21 2, 4) := by decide +kernel
theorem dX1_init_88 : decode cX1_init 88 = .ok (.putfield 23, 3) := by decide +kernel
theorem dX1_init_91 : decode cX1_init 91 = .ok (.return_, 1) := by decide +kernel
theorem dX1_become_0 : decode cX1_become 0 = .ok (.aload_n 1, 1) := by decide +kernel
theorem dX1_become_1 : decode cX1_become 1 = .ok (.getfield 9, 3) := by decide +kernel
theorem dX1_become_4 : decode cX1_become 4 = .ok (.iconst 0, 1) := by decide +kernel
theorem dX1_become_5 : decode cX1_become 5 = .ok (.aload_n 0, 1) := by decide +kernel
theorem dX1_become_6 : decode cX1_become 6 = .ok (.getfield 9, 3) := by decide +kernel
theorem dX1_become_9 : decode cX1_become 9 = .ok (.iconst 0, 1) := by decide +kernel
theorem dX1_become_10 : decode cX1_become 10 = .ok (.iconst 5, 1) := by decide +kernel
theorem dX1_become_11 : decode cX1_become 11 = .ok (.invokestatic 26, 3) := by decide +kernel
theorem dX1_become_14 : decode cX1_become 14 = .ok (.aload_n 1, 1) := by decide +kernel
theorem dX1_become_15 : decode cX1_become 15 = .ok (.getfield 15, 3) := by decide +kernel
theorem dX1_become_18 : decode cX1_become 18 = .ok (.iconst 0, 1) := by decide +kernel
theorem dX1_become_19 : decode cX1_become 19 = .ok (.aload_n 0, 1) := by decide +kernel
theorem dX1_become_20 : decode cX1_become 20 = .ok (.getfield 15, 3) := by decide +kernel
theorem dX1_become_23 : decode cX1_become 23 = .ok (.iconst 0, 1) := by decide +kernel
theorem dX1_become_24 : decode cX1_become 24 = .ok (.bipush 7, 2) := by decide +kernel
theorem dX1_become_26 : decode cX1_become 26 = .ok (.invokestatic 26, 3) := by decide +kernel
theorem dX1_become_29 : decode cX1_become 29 = .ok (.aload_n 1, 1) := by decide +kernel
theorem dX1_become_30 : decode cX1_become 30 = .ok (.getfield 18, 3) := by decide +kernel
theorem dX1_become_33 : decode cX1_become 33 = .ok (.iconst 0, 1) := by decide +kernel
theorem dX1_become_34 : decode cX1_become 34 = .ok (.aload_n 0, 1) := by decide +kernel
theorem dX1_become_35 : decode cX1_become 35 = .ok (.getfield 18, 3) := by decide +kernel
theorem dX1_become_38 : decode cX1_become 38 = .ok (.iconst 0, 1) := by decide +kernel
theorem dX1_become_39 : decode cX1_become 39 = .ok (.aload_n 0, 1) := by decide +kernel
theorem dX1_become_40 : decode cX1_become 40 = .ok (.getfield 18, 3) := by decide +kernel
theorem dX1_become_43 : decode cX1_become 43 = .ok (.arraylength, 1) := by decide +kernel
theorem dX1_become_44 : decode cX1_become 44 = .ok (.invokestatic 26, 3) := by decide +kernel
theorem dX1_become_47 : decode cX1_become 47 = .ok (.iconst 0, 1) := by decide +kernel
theorem dX1_become_48 : decode cX1_become 48 = .ok (.istore_n 2, 1) := by decide +kernel
theorem dX1_become_49 : decode cX1_become 49 = .ok (.iload_n 2, 1) := by decide +kernel
theorem dX1_become_50 : decode cX1_become 50 = .ok (.iconst 4, 1) := by decide +kernel
theorem dX1_become_51 : decode cX1_become 51 = .ok (.if_icmp .ge 27, 3) := by decide +kernel
theorem dX1_become_54 : decode cX1_become 54 = .ok (.aload_n 1, 1) := by decide +kernel
theorem dX1_become_55 : decode cX1_become 55 = .ok (.getfield 23, 3) := by decide +kernel
theorem dX1_become_58 : decode cX1_become 58 = .ok (.iload_n 2, 1) := by decide +kernel
theorem dX1_become_59 : decode cX1_become 59 = .ok (.aaload, 1) := by decide +kernel
theorem dX1_become_60 : decode cX1_become 60 = .ok (.iconst 0, 1) := by decide +kernel
theorem dX1_become_61 : decode cX1_become 61 = .ok (.aload_n 0, 1) := by decide +kernel
theorem dX1_become_62 : decode cX1_become 62 = .ok (.getfield 23, 3) := by decide +kernel
theorem dX1_become_65 : decode cX1_become 65 = .ok (.iload_n 2, 1) := by decide +kernel
theorem dX1_become_66 : decode cX1_become 66 = .ok (.aaload, 1) := by decide +kernel
theorem dX1_become_67 : decode cX1_become 67 = .ok (.iconst 0, 1) := by decide +kernel
theorem dX1_become_68 : decode cX1_become 68 = .ok (.iconst 4, 1) := by decide +kernel
theorem dX1_become_69 : decode cX1_become 69 = .ok (.invokestatic 26, 3) := by decide +kernel
theorem dX1_become_72 : decode cX1_become 72 = .ok (.iinc 2 1, 3) := by decide +kernel
theorem dX1_become_75 : decode cX1_become 75 = .ok (.goto (-26), 3) := by decide +kernel
theorem dX1_become_78 : decode cX1_become 78 = .ok (.aload_n 0, 1) := by decide +kernel
theorem dX1_become_79 : decode cX1_become 79 = .ok (.aload_n 1, 1) := by decide +kernel
theorem dX1_become_80 : decode cX1_become 80 = .ok (.getfield 32, 3) := by decide +kernel
theorem dX1_become_83 : decode cX1_become 83 = .ok (.putfield 32, 3) := by decide +kernel
theorem dX1_become_86 : decode cX1_become 86 = .ok (.aload_n 0, 1) := by decide +kernel
theorem dX1_become_87 : decode cX1_become 87 = .ok (.aload_n 1, 1) := by decide +kernel
theorem dX1_become_88 : decode cX1_become 88 = .ok (.getfield 36, 3) := by decide +kernel
theorem dX1_become_91 : decode cX1_become 91 = .ok (.putfield 36, 3) := by decide +kernel
theorem dX1_become_94 : decode cX1_become 94 = .ok (.aload_n 0, 1) := by decide +kernel
theorem dX1_become_95 : decode cX1_become 95 = .ok (.aload_n 1, 1) := by decide +kernel
theorem dX1_become_96 : decode cX1_become 96 = .ok (.getfield 39, 3) := by decide +kernel
theorem dX1_become_99 : decode cX1_become 99 = .ok (.putfield 39, 3) := by decide +kernel
theorem dX1_become_102 : decode cX1_become 102 = .ok (.return_, 1) := by decide +kernel
theorem dX1_has_0 : decode cX1_has 0 = .ok (.iload_n 1, 1) := by decide +kernel
theorem dX1_has_1 : decode cX1_has 1 = .ok (.ifCond .lt 15, 3) := by decide +kernel
theorem dX1_has_4 : decode cX1_has 4 = .ok (.iload_n 1, 1) := by decide +kernel
theorem dX1_has_5 : decode cX1_has 5 = .ok (.aload_n 0, 1) := by decide +kernel
theorem dX1_has_6 : decode cX1_has 6 = .ok (.getfield 32, 3) := by decide +kernel
theorem dX1_has_9 : decode cX1_has 9 = .ok (.if_icmp .ge 7, 3) := by decide +kernel
theorem dX1_has_12 : decode cX1_has 12 = .ok (.iconst 1, 1) := by decide +kernel
theorem dX1_has_13 : decode cX1_has 13 = .ok (.goto 4, 3) := by decide +kernel
theorem dX1_has_16 : decode cX1_has 16 = .ok (.iconst 0, 1) := by decide +kernel
theorem dX1_has_17 : decode cX1_has 17 = .ok (.ireturn, 1) := by decide +kernel
theorem dX1_allSlices_0 : decode cX1_allSlices 0 = .ok (.iconst 0, 1) := by decide +kernel
theorem dX1_allSlices_1 : decode cX1_allSlices 1 = .ok (.istore_n 1, 1) := by decide +kernel
theorem dX1_allSlices_2 : decode cX1_allSlices 2 = .ok (.iconst 0, 1) := by decide +kernel
theorem dX1_allSlices_3 : decode cX1_allSlices 3 = .ok (.istore_n 2, 1) := by decide +kernel
theorem dX1_allSlices_4 : decode cX1_allSlices 4 = .ok (.iload_n 2, 1) := by decide +kernel
theorem dX1_allSlices_5 : decode cX1_allSlices 5 = .ok (.iconst 5, 1) := by decide +kernel
theorem dX1_allSlices_6 : decode cX1_allSlices 6 = .ok (.if_icmp .ge 18, 3) := by decide +kernel
theorem dX1_allSlices_9 : decode cX1_allSlices 9 = .ok (.iload_n 1, 1) := by decide +kernel
theorem dX1_allSlices_10 : decode cX1_allSlices 10 = .ok (.aload_n 0, 1) := by decide +kernel
theorem dX1_allSlices_11 : decode cX1_allSlices 11 = .ok (.getfield 9, 3) := by decide +kernel
theorem dX1_allSlices_14 : decode cX1_allSlices 14 = .ok (.iload_n 2, 1) := by decide +kernel
theorem dX1_allSlices_15 : decode cX1_allSlices 15 = .ok (.iaload, 1) := by decide +kernel
theorem dX1_allSlices_16 : decode cX1_allSlices 16 = .ok (.iadd, 1) := by decide +kernel
theorem dX1_allSlices_17 : decode cX1_allSlices 17 = .ok (.istore_n 1, 1) := by decide +kernel
theorem dX1_allSlices_18 : decode cX1_allSlices 18 = .ok (.iinc 2 1, 3) := by decide +kernel
theorem dX1_allSlices_21 : decode cX1_allSlices 21 = .ok (.goto (-17), 3) := by decide +kernel
theorem dX1_allSlices_24 : decode cX1_allSlices 24 = .ok (.iload_n 1, 1) := by decide +kernel
theorem dX1_allSlices_25 : decode cX1_allSlices 25 = .ok (.ireturn, 1) := by decide +kernel
theorem dX1_openDays_0 : decode cX1_openDays 0 = .ok (.iconst 0, 1) := by decide +kernel
theorem dX1_openDays_1 : decode cX1_openDays 1 = .ok (.istore_n 1, 1) := by decide +kernel
theorem dX1_openDays_2 : decode cX1_openDays 2 = .ok (.iconst 0, 1) := by decide +kernel
theorem dX1_openDays_3 : decode cX1_openDays 3 = .ok (.istore_n 2, 1) := by decide +kernel
theorem dX1_openDays_4 : decode cX1_openDays 4 = .ok (.iload_n 2, 1) := by decide +kernel
theorem dX1_openDays_5 : decode cX1_openDays 5 = .ok (.bipush 7, 2) := by decide +kernel
theorem dX1_openDays_7 : decode cX1_openDays 7 = .ok (.if_icmp .ge 18, 3) := by decide +kernel
theorem dX1_openDays_10 : decode cX1_openDays 10 = .ok (.iload_n 1, 1) := by decide +kernel
theorem dX1_openDays_11 : decode cX1_openDays 11 = .ok (.aload_n 0, 1) := by decide +kernel
theorem dX1_openDays_12 : decode cX1_openDays 12 = .ok (.getfield 15, 3) := by decide +kernel
theorem dX1_openDays_15 : decode cX1_openDays 15 = .ok (.iload_n 2, 1) := by decide +kernel
theorem dX1_openDays_16 : decode cX1_openDays 16 = .ok (.iaload, 1) := by decide +kernel
theorem dX1_openDays_17 : decode cX1_openDays 17 = .ok (.iadd, 1) := by decide +kernel
theorem dX1_openDays_18 : decode cX1_openDays 18 = .ok (.istore_n 1, 1) := by decide +kernel
theorem dX1_openDays_19 : decode cX1_openDays 19 = .ok (.iinc 2 1, 3) := by decide +kernel
theorem dX1_openDays_22 : decode cX1_openDays 22 = .ok (.goto (-18), 3) := by decide +kernel
theorem dX1_openDays_25 : decode cX1_openDays 25 = .ok (.iload_n 1, 1) := by decide +kernel
theorem dX1_openDays_26 : decode cX1_openDays 26 = .ok (.ireturn, 1) := by decide +kernel
theorem dX1_allHunger_0 : decode cX1_allHunger 0 = .ok (.iconst 0, 1) := by decide +kernel
theorem dX1_allHunger_1 : decode cX1_allHunger 1 = .ok (.istore_n 1, 1) := by decide +kernel
theorem dX1_allHunger_2 : decode cX1_allHunger 2 = .ok (.iconst 0, 1) := by decide +kernel
theorem dX1_allHunger_3 : decode cX1_allHunger 3 = .ok (.istore_n 2, 1) := by decide +kernel
theorem dX1_allHunger_4 : decode cX1_allHunger 4 = .ok (.iload_n 2, 1) := by decide +kernel
theorem dX1_allHunger_5 : decode cX1_allHunger 5 = .ok (.aload_n 0, 1) := by decide +kernel
theorem dX1_allHunger_6 : decode cX1_allHunger 6 = .ok (.getfield 32, 3) := by decide +kernel
theorem dX1_allHunger_9 : decode cX1_allHunger 9 = .ok (.if_icmp .ge 20, 3) := by decide +kernel
theorem dX1_allHunger_12 : decode cX1_allHunger 12 = .ok (.iload_n 1, 1) := by decide +kernel
theorem dX1_allHunger_13 : decode cX1_allHunger 13 = .ok (.aload_n 0, 1) := by decide +kernel
theorem dX1_allHunger_14 : decode cX1_allHunger 14 = .ok (.getfield 23, 3) := by decide +kernel
theorem dX1_allHunger_17 : decode cX1_allHunger 17 = .ok (.iload_n 2, 1) := by decide +kernel
theorem dX1_allHunger_18 : decode cX1_allHunger 18 = .ok (.aaload, 1) := by decide +kernel
theorem dX1_allHunger_19 : decode cX1_allHunger 19 = .ok (.iconst 1, 1) := by decide +kernel
theorem dX1_allHunger_20 : decode cX1_allHunger 20 = .ok (.iaload, 1) := by decide +kernel
theorem dX1_allHunger_21 : decode cX1_allHunger 21 = .ok (.iadd, 1) := by decide +kernel
theorem dX1_allHunger_22 : decode cX1_allHunger 22 = .ok (.istore_n 1, 1) := by decide +kernel
theorem dX1_allHunger_23 : decode cX1_allHunger 23 = .ok (.iinc 2 1, 3) := by decide +kernel
theorem dX1_allHunger_26 : decode cX1_allHunger 26 = .ok (.goto (-22), 3) := by decide +kernel
theorem dX1_allHunger_29 : decode cX1_allHunger 29 = .ok (.iload_n 1, 1) := by decide +kernel
theorem dX1_allHunger_30 : decode cX1_allHunger 30 = .ok (.ireturn, 1) := by decide +kernel
theorem dX1_takeIn_0 : decode cX1_takeIn 0 = .ok (.aload_n 0, 1) := by decide +kernel
theorem dX1_takeIn_1 : decode cX1_takeIn 1 = .ok (.getfield 32, 3) := by decide +kernel
theorem dX1_takeIn_4 : decode cX1_takeIn 4 = .ok (.iconst 4, 1) := by decide +kernel
theorem dX1_takeIn_5 : decode cX1_takeIn 5 = .ok (.if_icmp .ge 14, 3) := by decide +kernel
theorem dX1_takeIn_8 : decode cX1_takeIn 8 = .ok (.iload 4, 2) := by decide +kernel
theorem dX1_takeIn_10 : decode cX1_takeIn 10 = .ok (.iconst 1, 1) := by decide +kernel
theorem dX1_takeIn_11 : decode cX1_takeIn 11 = .ok (.bipush 10, 2) := by decide +kernel
theorem dX1_takeIn_13 : decode cX1_takeIn 13 = .ok (.invokestatic 42, 3) := by decide +kernel
theorem dX1_takeIn_16 : decode cX1_takeIn 16 = .ok (.ifCond .ne 5, 3) := by decide +kernel
theorem dX1_takeIn_19 : decode cX1_takeIn 19 = .ok (.iconst 0, 1) := by decide +kernel
theorem dX1_takeIn_20 : decode cX1_takeIn 20 = .ok (.ireturn, 1) := by decide +kernel
theorem dX1_takeIn_21 : decode cX1_takeIn 21 = .ok (.aload_n 0, 1) := by decide +kernel
theorem dX1_takeIn_22 : decode cX1_takeIn 22 = .ok (.getfield 23, 3) := by decide +kernel
theorem dX1_takeIn_25 : decode cX1_takeIn 25 = .ok (.aload_n 0, 1) := by decide +kernel
theorem dX1_takeIn_26 : decode cX1_takeIn 26 = .ok (.getfield 32, 3) := by decide +kernel
theorem dX1_takeIn_29 : decode cX1_takeIn 29 = .ok (.aaload, 1) := by decide +kernel
theorem dX1_takeIn_30 : decode cX1_takeIn 30 = .ok (.astore 5, 2) := by decide +kernel
theorem dX1_takeIn_32 : decode cX1_takeIn 32 = .ok (.aload 5, 2) := by decide +kernel
theorem dX1_takeIn_34 : decode cX1_takeIn 34 = .ok (.iconst 0, 1) := by decide +kernel
theorem dX1_takeIn_35 : decode cX1_takeIn 35 = .ok (.iload_n 1, 1) := by decide +kernel
theorem dX1_takeIn_36 : decode cX1_takeIn 36 = .ok (.iastore, 1) := by decide +kernel
theorem dX1_takeIn_37 : decode cX1_takeIn 37 = .ok (.aload 5, 2) := by decide +kernel
theorem dX1_takeIn_39 : decode cX1_takeIn 39 = .ok (.iconst 1, 1) := by decide +kernel
theorem dX1_takeIn_40 : decode cX1_takeIn 40 = .ok (.iload_n 2, 1) := by decide +kernel
theorem dX1_takeIn_41 : decode cX1_takeIn 41 = .ok (.iastore, 1) := by decide +kernel
theorem dX1_takeIn_42 : decode cX1_takeIn 42 = .ok (.aload 5, 2) := by decide +kernel
theorem dX1_takeIn_44 : decode cX1_takeIn 44 = .ok (.iconst 2, 1) := by decide +kernel
theorem dX1_takeIn_45 : decode cX1_takeIn 45 = .ok (.iload_n 3, 1) := by decide +kernel
theorem dX1_takeIn_46 : decode cX1_takeIn 46 = .ok (.iastore, 1) := by decide +kernel
theorem dX1_takeIn_47 : decode cX1_takeIn 47 = .ok (.aload 5, 2) := by decide +kernel
theorem dX1_takeIn_49 : decode cX1_takeIn 49 = .ok (.iconst 3, 1) := by decide +kernel
theorem dX1_takeIn_50 : decode cX1_takeIn 50 = .ok (.iload 4, 2) := by decide +kernel
theorem dX1_takeIn_52 : decode cX1_takeIn 52 = .ok (.iastore, 1) := by decide +kernel
theorem dX1_takeIn_53 : decode cX1_takeIn 53 = .ok (.aload_n 0, 1) := by decide +kernel
theorem dX1_takeIn_54 : decode cX1_takeIn 54 = .ok (.dup, 1) := by decide +kernel
theorem dX1_takeIn_55 : decode cX1_takeIn 55 = .ok (.getfield 32, 3) := by decide +kernel
theorem dX1_takeIn_58 : decode cX1_takeIn 58 = .ok (.iconst 1, 1) := by decide +kernel
theorem dX1_takeIn_59 : decode cX1_takeIn 59 = .ok (.iadd, 1) := by decide +kernel
theorem dX1_takeIn_60 : decode cX1_takeIn 60 = .ok (.putfield 32, 3) := by decide +kernel
theorem dX1_takeIn_63 : decode cX1_takeIn 63 = .ok (.iconst 1, 1) := by decide +kernel
theorem dX1_takeIn_64 : decode cX1_takeIn 64 = .ok (.ireturn, 1) := by decide +kernel
theorem dX1_putSlices_0 : decode cX1_putSlices 0 = .ok (.iload_n 1, 1) := by decide +kernel
theorem dX1_putSlices_1 : decode cX1_putSlices 1 = .ok (.invokestatic 46, 3) := by decide +kernel
theorem dX1_putSlices_4 : decode cX1_putSlices 4 = .ok (.ifCond .eq 13, 3) := by decide +kernel
theorem dX1_putSlices_7 : decode cX1_putSlices 7 = .ok (.iload_n 2, 1) := by decide +kernel
theorem dX1_putSlices_8 : decode cX1_putSlices 8 = .ok (.iconst 0, 1) := by decide +kernel
theorem dX1_putSlices_9 : decode cX1_putSlices 9 = .ok (.bipush 60, 2) := by decide +kernel
theorem dX1_putSlices_11 : decode cX1_putSlices 11 = .ok (.invokestatic 42, 3) := by decide +kernel
theorem dX1_putSlices_14 : decode cX1_putSlices 14 = .ok (.ifCond .ne 5, 3) := by decide +kernel
theorem dX1_putSlices_17 : decode cX1_putSlices 17 = .ok (.iconst 0, 1) := by decide +kernel
theorem dX1_putSlices_18 : decode cX1_putSlices 18 = .ok (.ireturn, 1) := by decide +kernel
theorem dX1_putSlices_19 : decode cX1_putSlices 19 = .ok (.aload_n 0, 1) := by decide +kernel
theorem dX1_putSlices_20 : decode cX1_putSlices 20 = .ok (.getfield 9, 3) := by decide +kernel
theorem dX1_putSlices_23 : decode cX1_putSlices 23 = .ok (.iload_n 1, 1) := by decide +kernel
theorem dX1_putSlices_24 : decode cX1_putSlices 24 = .ok (.iload_n 2, 1) := by decide +kernel
theorem dX1_putSlices_25 : decode cX1_putSlices 25 = .ok (.iastore, 1) := by decide +kernel
theorem dX1_putSlices_26 : decode cX1_putSlices 26 = .ok (.iconst 1, 1) := by decide +kernel
theorem dX1_putSlices_27 : decode cX1_putSlices 27 = .ok (.ireturn, 1) := by decide +kernel
theorem dX1_change_0 : decode cX1_change 0 = .ok (.iload_n 2, 1) := by decide +kernel
theorem dX1_change_1 : decode cX1_change 1 = .ok (.iconst 0, 1) := by decide +kernel
theorem dX1_change_2 : decode cX1_change 2 = .ok (.getstatic 50, 3) := by decide +kernel
theorem dX1_change_5 : decode cX1_change 5 = .ok (.iload_n 1, 1) := by decide +kernel
theorem dX1_change_6 : decode cX1_change 6 = .ok (.iaload, 1) := by decide +kernel
theorem dX1_change_7 : decode cX1_change 7 = .ok (.invokestatic 42, 3) := by decide +kernel
theorem dX1_change_10 : decode cX1_change 10 = .ok (.ifCond .ne 5, 3) := by decide +kernel
theorem dX1_change_13 : decode cX1_change 13 = .ok (.iconst 0, 1) := by decide +kernel
theorem dX1_change_14 : decode cX1_change 14 = .ok (.ireturn, 1) := by decide +kernel
theorem dX1_change_15 : decode cX1_change 15 = .ok (.aload_n 0, 1) := by decide +kernel
theorem dX1_change_16 : decode cX1_change 16 = .ok (.getfield 18, 3) := by decide +kernel
theorem dX1_change_19 : decode cX1_change 19 = .ok (.iload_n 1, 1) := by decide +kernel
theorem dX1_change_20 : decode cX1_change 20 = .ok (.iload_n 2, 1) := by decide +kernel
theorem dX1_change_21 : decode cX1_change 21 = .ok (.iastore, 1) := by decide +kernel
theorem dX1_change_22 : decode cX1_change 22 = .ok (.iconst 1, 1) := by decide +kernel
theorem dX1_change_23 : decode cX1_change 23 = .ok (.ireturn, 1) := by decide +kernel
theorem dX1_loseOldest_0 : decode cX1_loseOldest 0 = .ok (.iload_n 1, 1) := by decide +kernel
theorem dX1_loseOldest_1 : decode cX1_loseOldest 1 = .ok (.istore_n 2, 1) := by decide +kernel
theorem dX1_loseOldest_2 : decode cX1_loseOldest 2 = .ok (.iconst 4, 1) := by decide +kernel
theorem dX1_loseOldest_3 : decode cX1_loseOldest 3 = .ok (.istore_n 3, 1) := by decide +kernel
theorem dX1_loseOldest_4 : decode cX1_loseOldest 4 = .ok (.iload_n 3, 1) := by decide +kernel
theorem dX1_loseOldest_5 : decode cX1_loseOldest 5 = .ok (.ifCond .lt 37, 3) := by decide +kernel
theorem dX1_loseOldest_8 : decode cX1_loseOldest 8 = .ok (.iload_n 2, 1) := by decide +kernel
theorem dX1_loseOldest_9 : decode cX1_loseOldest 9 = .ok (.aload_n 0, 1) := by decide +kernel
theorem dX1_loseOldest_10 : decode cX1_loseOldest 10 = .ok (.getfield 9, 3) := by decide +kernel
theorem dX1_loseOldest_13 : decode cX1_loseOldest 13 = .ok (.iload_n 3, 1) := by decide +kernel
theorem dX1_loseOldest_14 : decode cX1_loseOldest 14 = .ok (.iaload, 1) := by decide +kernel
theorem dX1_loseOldest_15 : decode cX1_loseOldest 15 = .ok (.invokestatic 53, 3) := by decide +kernel
theorem dX1_loseOldest_18 : decode cX1_loseOldest 18 = .ok (.istore 4, 2) := by decide +kernel
theorem dX1_loseOldest_20 : decode cX1_loseOldest 20 = .ok (.aload_n 0, 1) := by decide +kernel
theorem dX1_loseOldest_21 : decode cX1_loseOldest 21 = .ok (.getfield 9, 3) := by decide +kernel
theorem dX1_loseOldest_24 : decode cX1_loseOldest 24 = .ok (.iload_n 3, 1) := by decide +kernel
theorem dX1_loseOldest_25 : decode cX1_loseOldest 25 = .ok (.dup2, 1) := by decide +kernel
theorem dX1_loseOldest_26 : decode cX1_loseOldest 26 = .ok (.iaload, 1) := by decide +kernel
theorem dX1_loseOldest_27 : decode cX1_loseOldest 27 = .ok (.iload 4, 2) := by decide +kernel
theorem dX1_loseOldest_29 : decode cX1_loseOldest 29 = .ok (.isub, 1) := by decide +kernel
theorem dX1_loseOldest_30 : decode cX1_loseOldest 30 = .ok (.iastore, 1) := by decide +kernel
theorem dX1_loseOldest_31 : decode cX1_loseOldest 31 = .ok (.iload_n 2, 1) := by decide +kernel
theorem dX1_loseOldest_32 : decode cX1_loseOldest 32 = .ok (.iload 4, 2) := by decide +kernel
theorem dX1_loseOldest_34 : decode cX1_loseOldest 34 = .ok (.isub, 1) := by decide +kernel
theorem dX1_loseOldest_35 : decode cX1_loseOldest 35 = .ok (.istore_n 2, 1) := by decide +kernel
theorem dX1_loseOldest_36 : decode cX1_loseOldest 36 = .ok (.iinc 3 (-1), 3) := by decide +kernel
theorem dX1_loseOldest_39 : decode cX1_loseOldest 39 = .ok (.goto (-35), 3) := by decide +kernel
theorem dX1_loseOldest_42 : decode cX1_loseOldest 42 = .ok (.return_, 1) := by decide +kernel
theorem dX1_passDay_0 : decode cX1_passDay 0 = .ok (.aload_n 0, 1) := by decide +kernel
theorem dX1_passDay_1 : decode cX1_passDay 1 = .ok (.aload_n 1, 1) := by decide +kernel
theorem dX1_passDay_2 : decode cX1_passDay 2 = .ok (.invokevirtual 59, 3) := by decide +kernel
theorem dX1_passDay_5 : decode cX1_passDay 5 = .ok (.iconst 0, 1) := by decide +kernel
theorem dX1_passDay_6 : decode cX1_passDay 6 = .ok (.istore_n 2, 1) := by decide +kernel
theorem dX1_passDay_7 : decode cX1_passDay 7 = .ok (.iload_n 2, 1) := by decide +kernel
theorem dX1_passDay_8 : decode cX1_passDay 8 = .ok (.aload_n 0, 1) := by decide +kernel
theorem dX1_passDay_9 : decode cX1_passDay 9 = .ok (.getfield 32, 3) := by decide +kernel
theorem dX1_passDay_12 : decode cX1_passDay 12 = .ok (.if_icmp .ge 15, 3) := by decide +kernel
theorem dX1_passDay_15 : decode cX1_passDay 15 = .ok (.aload_n 0, 1) := by decide +kernel
theorem dX1_passDay_16 : decode cX1_passDay 16 = .ok (.iload_n 2, 1) := by decide +kernel
theorem dX1_passDay_17 : decode cX1_passDay 17 = .ok (.aload_n 1, 1) := by decide +kernel
theorem dX1_passDay_18 : decode cX1_passDay 18 = .ok (.invokevirtual 63, 3) := by decide +kernel
theorem dX1_passDay_21 : decode cX1_passDay 21 = .ok (.iinc 2 1, 3) := by decide +kernel
theorem dX1_passDay_24 : decode cX1_passDay 24 = .ok (.goto (-17), 3) := by decide +kernel
theorem dX1_passDay_27 : decode cX1_passDay 27 = .ok (.aload_n 1, 1) := by decide +kernel
theorem dX1_passDay_28 : decode cX1_passDay 28 = .ok (.aload_n 0, 1) := by decide +kernel
theorem dX1_passDay_29 : decode cX1_passDay 29 = .ok (.getfield 9, 3) := by decide +kernel
theorem dX1_passDay_32 : decode cX1_passDay 32 = .ok (.iconst 4, 1) := by decide +kernel
theorem dX1_passDay_33 : decode cX1_passDay 33 = .ok (.iaload, 1) := by decide +kernel
theorem dX1_passDay_34 : decode cX1_passDay 34 = .ok (.aload_n 0, 1) := by decide +kernel
theorem dX1_passDay_35 : decode cX1_passDay 35 = .ok (.getfield 18, 3) := by decide +kernel
theorem dX1_passDay_38 : decode cX1_passDay 38 = .ok (.iconst 3, 1) := by decide +kernel
theorem dX1_passDay_39 : decode cX1_passDay 39 = .ok (.iaload, 1) := by decide +kernel
theorem dX1_passDay_40 : decode cX1_passDay 40 = .ok (.invokevirtual 67, 3) := by decide +kernel
theorem dX1_passDay_43 : decode cX1_passDay 43 = .ok (.iconst 4, 1) := by decide +kernel
theorem dX1_passDay_44 : decode cX1_passDay 44 = .ok (.istore_n 2, 1) := by decide +kernel
theorem dX1_passDay_45 : decode cX1_passDay 45 = .ok (.iload_n 2, 1) := by decide +kernel
theorem dX1_passDay_46 : decode cX1_passDay 46 = .ok (.ifCond .le 23, 3) := by decide +kernel
theorem dX1_passDay_49 : decode cX1_passDay 49 = .ok (.aload_n 0, 1) := by decide +kernel
theorem dX1_passDay_50 : decode cX1_passDay 50 = .ok (.getfield 9, 3) := by decide +kernel
theorem dX1_passDay_53 : decode cX1_passDay 53 = .ok (.iload_n 2, 1) := by decide +kernel
theorem dX1_passDay_54 : decode cX1_passDay 54 = .ok (.aload_n 0, 1) := by decide +kernel
theorem dX1_passDay_55 : decode cX1_passDay 55 = .ok (.getfield 9, 3) := by decide +kernel
theorem dX1_passDay_58 : decode cX1_passDay 58 = .ok (.iload_n 2, 1) := by decide +kernel
theorem dX1_passDay_59 : decode cX1_passDay 59 = .ok (.iconst 1, 1) := by decide +kernel
theorem dX1_passDay_60 : decode cX1_passDay 60 = .ok (.isub, 1) := by decide +kernel
theorem dX1_passDay_61 : decode cX1_passDay 61 = .ok (.iaload, 1) := by decide +kernel
theorem dX1_passDay_62 : decode cX1_passDay 62 = .ok (.iastore, 1) := by decide +kernel
theorem dX1_passDay_63 : decode cX1_passDay 63 = .ok (.iinc 2 (-1), 3) := by decide +kernel
theorem dX1_passDay_66 : decode cX1_passDay 66 = .ok (.goto (-21), 3) := by decide +kernel
theorem dX1_passDay_69 : decode cX1_passDay 69 = .ok (.aload_n 0, 1) := by decide +kernel
theorem dX1_passDay_70 : decode cX1_passDay 70 = .ok (.getfield 9, 3) := by decide +kernel
theorem dX1_passDay_73 : decode cX1_passDay 73 = .ok (.iconst 0, 1) := by decide +kernel
theorem dX1_passDay_74 : decode cX1_passDay 74 = .ok (.iconst 0, 1) := by decide +kernel
theorem dX1_passDay_75 : decode cX1_passDay 75 = .ok (.iastore, 1) := by decide +kernel
theorem dX1_passDay_76 : decode cX1_passDay 76 = .ok (.aload_n 0, 1) := by decide +kernel
theorem dX1_passDay_77 : decode cX1_passDay 77 = .ok (.dup, 1) := by decide +kernel
theorem dX1_passDay_78 : decode cX1_passDay 78 = .ok (.getfield 36, 3) := by decide +kernel
theorem dX1_passDay_81 : decode cX1_passDay 81 = .ok (.iconst 1, 1) := by decide +kernel
theorem dX1_passDay_82 : decode cX1_passDay 82 = .ok (.iadd, 1) := by decide +kernel
theorem dX1_passDay_83 : decode cX1_passDay 83 = .ok (.putfield 36, 3) := by decide +kernel
theorem dX1_passDay_86 : decode cX1_passDay 86 = .ok (.return_, 1) := by decide +kernel
theorem dX1_shop_0 : decode cX1_shop 0 = .ok (.aload_n 0, 1) := by decide +kernel
theorem dX1_shop_1 : decode cX1_shop 1 = .ok (.getfield 15, 3) := by decide +kernel
theorem dX1_shop_4 : decode cX1_shop 4 = .ok (.aload_n 0, 1) := by decide +kernel
theorem dX1_shop_5 : decode cX1_shop 5 = .ok (.getfield 36, 3) := by decide +kernel
theorem dX1_shop_8 : decode cX1_shop 8 = .ok (.bipush 7, 2) := by decide +kernel
theorem dX1_shop_10 : decode cX1_shop 10 = .ok (.irem, 1) := by decide +kernel
theorem dX1_shop_11 : decode cX1_shop 11 = .ok (.iaload, 1) := by decide +kernel
theorem dX1_shop_12 : decode cX1_shop 12 = .ok (.ifCond .ne 4, 3) := by decide +kernel
theorem dX1_shop_15 : decode cX1_shop 15 = .ok (.return_, 1) := by decide +kernel
theorem dX1_shop_16 : decode cX1_shop 16 = .ok (.aload_n 1, 1) := by decide +kernel
theorem dX1_shop_17 : decode cX1_shop 17 = .ok (.aload_n 0, 1) := by decide +kernel
theorem dX1_shop_18 : decode cX1_shop 18 = .ok (.iconst 0, 1) := by decide +kernel
theorem dX1_shop_19 : decode cX1_shop 19 = .ok (.aload_n 0, 1) := by decide +kernel
theorem dX1_shop_20 : decode cX1_shop 20 = .ok (.getfield 18, 3) := by decide +kernel
theorem dX1_shop_23 : decode cX1_shop 23 = .ok (.iconst 0, 1) := by decide +kernel
theorem dX1_shop_24 : decode cX1_shop 24 = .ok (.iaload, 1) := by decide +kernel
theorem dX1_shop_25 : decode cX1_shop 25 = .ok (.aload_n 0, 1) := by decide +kernel
theorem dX1_shop_26 : decode cX1_shop 26 = .ok (.getfield 39, 3) := by decide +kernel
theorem dX1_shop_29 : decode cX1_shop 29 = .ok (.isub, 1) := by decide +kernel
theorem dX1_shop_30 : decode cX1_shop 30 = .ok (.invokevirtual 73, 3) := by decide +kernel
theorem dX1_shop_33 : decode cX1_shop 33 = .ok (.aload_n 0, 1) := by decide +kernel
theorem dX1_shop_34 : decode cX1_shop 34 = .ok (.getfield 18, 3) := by decide +kernel
theorem dX1_shop_37 : decode cX1_shop 37 = .ok (.iconst 2, 1) := by decide +kernel
theorem dX1_shop_38 : decode cX1_shop 38 = .ok (.iaload, 1) := by decide +kernel
theorem dX1_shop_39 : decode cX1_shop 39 = .ok (.invokevirtual 76, 3) := by decide +kernel
theorem dX1_shop_42 : decode cX1_shop 42 = .ok (.aload_n 0, 1) := by decide +kernel
theorem dX1_shop_43 : decode cX1_shop 43 = .ok (.iconst 0, 1) := by decide +kernel
theorem dX1_shop_44 : decode cX1_shop 44 = .ok (.putfield 39, 3) := by decide +kernel
theorem dX1_shop_47 : decode cX1_shop 47 = .ok (.aload_n 0, 1) := by decide +kernel
theorem dX1_shop_48 : decode cX1_shop 48 = .ok (.getfield 15, 3) := by decide +kernel
theorem dX1_shop_51 : decode cX1_shop 51 = .ok (.aload_n 0, 1) := by decide +kernel
theorem dX1_shop_52 : decode cX1_shop 52 = .ok (.getfield 36, 3) := by decide +kernel
theorem dX1_shop_55 : decode cX1_shop 55 = .ok (.iconst 1, 1) := by decide +kernel
theorem dX1_shop_56 : decode cX1_shop 56 = .ok (.iadd, 1) := by decide +kernel
theorem dX1_shop_57 : decode cX1_shop 57 = .ok (.bipush 7, 2) := by decide +kernel
theorem dX1_shop_59 : decode cX1_shop 59 = .ok (.irem, 1) := by decide +kernel
theorem dX1_shop_60 : decode cX1_shop 60 = .ok (.iaload, 1) := by decide +kernel
theorem dX1_shop_61 : decode cX1_shop 61 = .ok (.ifCond .ne 24, 3) := by decide +kernel
theorem dX1_shop_64 : decode cX1_shop 64 = .ok (.aload_n 1, 1) := by decide +kernel
theorem dX1_shop_65 : decode cX1_shop 65 = .ok (.aload_n 0, 1) := by decide +kernel
theorem dX1_shop_66 : decode cX1_shop 66 = .ok (.iconst 0, 1) := by decide +kernel
theorem dX1_shop_67 : decode cX1_shop 67 = .ok (.aload_n 0, 1) := by decide +kernel
theorem dX1_shop_68 : decode cX1_shop 68 = .ok (.getfield 18, 3) := by decide +kernel
theorem dX1_shop_71 : decode cX1_shop 71 = .ok (.iconst 0, 1) := by decide +kernel
theorem dX1_shop_72 : decode cX1_shop 72 = .ok (.iaload, 1) := by decide +kernel
theorem dX1_shop_73 : decode cX1_shop 73 = .ok (.invokevirtual 73, 3) := by decide +kernel
theorem dX1_shop_76 : decode cX1_shop 76 = .ok (.aload_n 0, 1) := by decide +kernel
theorem dX1_shop_77 : decode cX1_shop 77 = .ok (.getfield 18, 3) := by decide +kernel
theorem dX1_shop_80 : decode cX1_shop 80 = .ok (.iconst 2, 1) := by decide +kernel
theorem dX1_shop_81 : decode cX1_shop 81 = .ok (.iaload, 1) := by decide +kernel
theorem dX1_shop_82 : decode cX1_shop 82 = .ok (.invokevirtual 76, 3) := by decide +kernel
theorem dX1_shop_85 : decode cX1_shop 85 = .ok (.aload_n 1, 1) := by decide +kernel
theorem dX1_shop_86 : decode cX1_shop 86 = .ok (.aload_n 0, 1) := by decide +kernel
theorem dX1_shop_87 : decode cX1_shop 87 = .ok (.iconst 1, 1) := by decide +kernel
theorem dX1_shop_88 : decode cX1_shop 88 = .ok (.aload_n 0, 1) := by decide +kernel
theorem dX1_shop_89 : decode cX1_shop 89 = .ok (.getfield 18, 3) := by decide +kernel
theorem dX1_shop_92 : decode cX1_shop 92 = .ok (.iconst 1, 1) := by decide +kernel
theorem dX1_shop_93 : decode cX1_shop 93 = .ok (.iaload, 1) := by decide +kernel
theorem dX1_shop_94 : decode cX1_shop 94 = .ok (.invokevirtual 73, 3) := by decide +kernel
theorem dX1_shop_97 : decode cX1_shop 97 = .ok (.aload_n 0, 1) := by decide +kernel
theorem dX1_shop_98 : decode cX1_shop 98 = .ok (.getfield 18, 3) := by decide +kernel
theorem dX1_shop_101 : decode cX1_shop 101 = .ok (.iconst 2, 1) := by decide +kernel
theorem dX1_shop_102 : decode cX1_shop 102 = .ok (.iaload, 1) := by decide +kernel
theorem dX1_shop_103 : decode cX1_shop 103 = .ok (.iconst 2, 1) := by decide +kernel
theorem dX1_shop_104 : decode cX1_shop 104 = .ok (.idiv, 1) := by decide +kernel
theorem dX1_shop_105 : decode cX1_shop 105 = .ok (.invokevirtual 76, 3) := by decide +kernel
theorem dX1_shop_108 : decode cX1_shop 108 = .ok (.return_, 1) := by decide +kernel
theorem dX1_bring_0 : decode cX1_bring 0 = .ok (.iload_n 2, 1) := by decide +kernel
theorem dX1_bring_1 : decode cX1_bring 1 = .ok (.bipush 60, 2) := by decide +kernel
theorem dX1_bring_3 : decode cX1_bring 3 = .ok (.aload_n 0, 1) := by decide +kernel
theorem dX1_bring_4 : decode cX1_bring 4 = .ok (.getfield 9, 3) := by decide +kernel
theorem dX1_bring_7 : decode cX1_bring 7 = .ok (.iload_n 1, 1) := by decide +kernel
theorem dX1_bring_8 : decode cX1_bring 8 = .ok (.iaload, 1) := by decide +kernel
theorem dX1_bring_9 : decode cX1_bring 9 = .ok (.isub, 1) := by decide +kernel
theorem dX1_bring_10 : decode cX1_bring 10 = .ok (.invokestatic 53, 3) := by decide +kernel
theorem dX1_bring_13 : decode cX1_bring 13 = .ok (.istore_n 3, 1) := by decide +kernel
theorem dX1_bring_14 : decode cX1_bring 14 = .ok (.aload_n 0, 1) := by decide +kernel
theorem dX1_bring_15 : decode cX1_bring 15 = .ok (.getfield 9, 3) := by decide +kernel
theorem dX1_bring_18 : decode cX1_bring 18 = .ok (.iload_n 1, 1) := by decide +kernel
theorem dX1_bring_19 : decode cX1_bring 19 = .ok (.dup2, 1) := by decide +kernel
theorem dX1_bring_20 : decode cX1_bring 20 = .ok (.iaload, 1) := by decide +kernel
theorem dX1_bring_21 : decode cX1_bring 21 = .ok (.iload_n 3, 1) := by decide +kernel
theorem dX1_bring_22 : decode cX1_bring 22 = .ok (.iadd, 1) := by decide +kernel
theorem dX1_bring_23 : decode cX1_bring 23 = .ok (.iastore, 1) := by decide +kernel
theorem dX1_bring_24 : decode cX1_bring 24 = .ok (.iload_n 3, 1) := by decide +kernel
theorem dX1_bring_25 : decode cX1_bring 25 = .ok (.ireturn, 1) := by decide +kernel
theorem dX1_feed_0 : decode cX1_feed 0 = .ok (.aload_n 0, 1) := by decide +kernel
theorem dX1_feed_1 : decode cX1_feed 1 = .ok (.getfield 23, 3) := by decide +kernel
theorem dX1_feed_4 : decode cX1_feed 4 = .ok (.iload_n 1, 1) := by decide +kernel
theorem dX1_feed_5 : decode cX1_feed 5 = .ok (.aaload, 1) := by decide +kernel
theorem dX1_feed_6 : decode cX1_feed 6 = .ok (.iconst 1, 1) := by decide +kernel
theorem dX1_feed_7 : decode cX1_feed 7 = .ok (.iaload, 1) := by decide +kernel
theorem dX1_feed_8 : decode cX1_feed 8 = .ok (.istore_n 3, 1) := by decide +kernel
theorem dX1_feed_9 : decode cX1_feed 9 = .ok (.aload_n 0, 1) := by decide +kernel
theorem dX1_feed_10 : decode cX1_feed 10 = .ok (.getfield 18, 3) := by decide +kernel
theorem dX1_feed_13 : decode cX1_feed 13 = .ok (.iconst 5, 1) := by decide +kernel
theorem dX1_feed_14 : decode cX1_feed 14 = .ok (.iaload, 1) := by decide +kernel
theorem dX1_feed_15 : decode cX1_feed 15 = .ok (.iconst 5, 1) := by decide +kernel
theorem dX1_feed_16 : decode cX1_feed 16 = .ok (.if_icmp .ne 9, 3) := by decide +kernel
theorem dX1_feed_19 : decode cX1_feed 19 = .ok (.iload_n 3, 1) := by decide +kernel
theorem dX1_feed_20 : decode cX1_feed 20 = .ok (.iconst 1, 1) := by decide +kernel
theorem dX1_feed_21 : decode cX1_feed 21 = .ok (.isub, 1) := by decide +kernel
theorem dX1_feed_22 : decode cX1_feed 22 = .ok (.goto 4, 3) := by decide +kernel
theorem dX1_feed_25 : decode cX1_feed 25 = .ok (.iload_n 3, 1) := by decide +kernel
theorem dX1_feed_26 : decode cX1_feed 26 = .ok (.istore 4, 2) := by decide +kernel
theorem dX1_feed_28 : decode cX1_feed 28 = .ok (.iconst 0, 1) := by decide +kernel
theorem dX1_feed_29 : decode cX1_feed 29 = .ok (.istore 5, 2) := by decide +kernel
theorem dX1_feed_31 : decode cX1_feed 31 = .ok (.iconst 0, 1) := by decide +kernel
theorem dX1_feed_32 : decode cX1_feed 32 = .ok (.istore 6, 2) := by decide +kernel
theorem dX1_feed_34 : decode cX1_feed 34 = .ok (.iload 6, 2) := by decide +kernel
theorem dX1_feed_36 : decode cX1_feed 36 = .ok (.iconst 5, 1) := by decide +kernel
theorem dX1_feed_37 : decode cX1_feed 37 = .ok (.if_icmp .ge 81, 3) := by decide +kernel
theorem dX1_feed_40 : decode cX1_feed 40 = .ok (.iload 5, 2) := by decide +kernel
theorem dX1_feed_42 : decode cX1_feed 42 = .ok (.iload 4, 2) := by decide +kernel
theorem dX1_feed_44 : decode cX1_feed 44 = .ok (.if_icmp .ge 74, 3) := by decide +kernel
theorem dX1_feed_47 : decode cX1_feed 47 = .ok (.aload_n 0, 1) := by decide +kernel
theorem dX1_feed_48 : decode cX1_feed 48 = .ok (.iload_n 1, 1) := by decide +kernel
theorem dX1_feed_49 : decode cX1_feed 49 = .ok (.invokevirtual 79, 3) := by decide +kernel
theorem dX1_feed_52 : decode cX1_feed 52 = .ok (.istore 7, 2) := by decide +kernel
theorem dX1_feed_54 : decode cX1_feed 54 = .ok (.iload 7, 2) := by decide +kernel
theorem dX1_feed_56 : decode cX1_feed 56 = .ok (.ifCond .ge 6, 3) := by decide +kernel
theorem dX1_feed_59 : decode cX1_feed 59 = .ok (.goto 59, 3) := by decide +kernel
theorem dX1_feed_62 : decode cX1_feed 62 = .ok (.iload 4, 2) := by decide +kernel
theorem dX1_feed_64 : decode cX1_feed 64 = .ok (.iload 5, 2) := by decide +kernel
theorem dX1_feed_66 : decode cX1_feed 66 = .ok (.isub, 1) := by decide +kernel
theorem dX1_feed_67 : decode cX1_feed 67 = .ok (.aload_n 0, 1) := by decide +kernel
theorem dX1_feed_68 : decode cX1_feed 68 = .ok (.iload 7, 2) := by decide +kernel
theorem dX1_feed_70 : decode cX1_feed 70 = .ok (.invokevirtual 83, 3) := by decide +kernel
theorem dX1_feed_73 : decode cX1_feed 73 = .ok (.invokestatic 53, 3) := by decide +kernel
theorem dX1_feed_76 : decode cX1_feed 76 = .ok (.istore 8, 2) := by decide +kernel
theorem dX1_feed_78 : decode cX1_feed 78 = .ok (.aload_n 0, 1) := by decide +kernel
theorem dX1_feed_79 : decode cX1_feed 79 = .ok (.getfield 9, 3) := by decide +kernel
theorem dX1_feed_82 : decode cX1_feed 82 = .ok (.iload 7, 2) := by decide +kernel
theorem dX1_feed_84 : decode cX1_feed 84 = .ok (.dup2, 1) := by decide +kernel
theorem dX1_feed_85 : decode cX1_feed 85 = .ok (.iaload, 1) := by decide +kernel
theorem dX1_feed_86 : decode cX1_feed 86 = .ok (.iload 8, 2) := by decide +kernel
theorem dX1_feed_88 : decode cX1_feed 88 = .ok (.isub, 1) := by decide +kernel
theorem dX1_feed_89 : decode cX1_feed 89 = .ok (.iastore, 1) := by decide +kernel
theorem dX1_feed_90 : decode cX1_feed 90 = .ok (.iload 5, 2) := by decide +kernel
theorem dX1_feed_92 : decode cX1_feed 92 = .ok (.iload 8, 2) := by decide +kernel
theorem dX1_feed_94 : decode cX1_feed 94 = .ok (.iadd, 1) := by decide +kernel
theorem dX1_feed_95 : decode cX1_feed 95 = .ok (.istore 5, 2) := by decide +kernel
theorem dX1_feed_97 : decode cX1_feed 97 = .ok (.aload_n 2, 1) := by decide +kernel
theorem dX1_feed_98 : decode cX1_feed 98 = .ok (.iload 7, 2) := by decide +kernel
theorem dX1_feed_100 : decode cX1_feed 100 = .ok (.iload 8, 2) := by decide +kernel
theorem dX1_feed_102 : decode cX1_feed 102 = .ok (.aload_n 0, 1) := by decide +kernel
theorem dX1_feed_103 : decode cX1_feed 103 = .ok (.iload_n 1, 1) := by decide +kernel
theorem dX1_feed_104 : decode cX1_feed 104 = .ok (.iload 7, 2) := by decide +kernel
theorem dX1_feed_106 : decode cX1_feed 106 = .ok (.invokevirtual 86, 3) := by decide +kernel
theorem dX1_feed_109 : decode cX1_feed 109 = .ok (.invokevirtual 89, 3) := by decide +kernel
theorem dX1_feed_112 : decode cX1_feed 112 = .ok (.iinc 6 1, 3) := by decide +kernel
theorem dX1_feed_115 : decode cX1_feed 115 = .ok (.goto (-81), 3) := by decide +kernel
theorem dX1_feed_118 : decode cX1_feed 118 = .ok (.aload_n 2, 1) := by decide +kernel
theorem dX1_feed_119 : decode cX1_feed 119 = .ok (.iload_n 3, 1) := by decide +kernel
theorem dX1_feed_120 : decode cX1_feed 120 = .ok (.iload 5, 2) := by decide +kernel
theorem dX1_feed_122 : decode cX1_feed 122 = .ok (.isub, 1) := by decide +kernel
theorem dX1_feed_123 : decode cX1_feed 123 = .ok (.aload_n 0, 1) := by decide +kernel
theorem dX1_feed_124 : decode cX1_feed 124 = .ok (.getfield 18, 3) := by decide +kernel
theorem dX1_feed_127 : decode cX1_feed 127 = .ok (.iconst 4, 1) := by decide +kernel
theorem dX1_feed_128 : decode cX1_feed 128 = .ok (.iaload, 1) := by decide +kernel
theorem dX1_feed_129 : decode cX1_feed 129 = .ok (.invokevirtual 93, 3) := by decide +kernel
theorem dX1_feed_132 : decode cX1_feed 132 = .ok (.return_, 1) := by decide +kernel
theorem dX1_inReach_0 : decode cX1_inReach 0 = .ok (.aload_n 0, 1) := by decide +kernel
theorem dX1_inReach_1 : decode cX1_inReach 1 = .ok (.getfield 18, 3) := by decide +kernel
theorem dX1_inReach_4 : decode cX1_inReach 4 = .ok (.iconst 5, 1) := by decide +kernel
theorem dX1_inReach_5 : decode cX1_inReach 5 = .ok (.iaload, 1) := by decide +kernel
theorem dX1_inReach_6 : decode cX1_inReach 6 = .ok (.istore_n 2, 1) := by decide +kernel
theorem dX1_inReach_7 : decode cX1_inReach 7 = .ok (.iload_n 1, 1) := by decide +kernel
theorem dX1_inReach_8 : decode cX1_inReach 8 = .ok (.ifCond .ne 17, 3) := by decide +kernel
theorem dX1_inReach_11 : decode cX1_inReach 11 = .ok (.iload_n 2, 1) := by decide +kernel
theorem dX1_inReach_12 : decode cX1_inReach 12 = .ok (.iconst 3, 1) := by decide +kernel
theorem dX1_inReach_13 : decode cX1_inReach 13 = .ok (.if_icmp .eq 8, 3) := by decide +kernel
theorem dX1_inReach_16 : decode cX1_inReach 16 = .ok (.iload_n 2, 1) := by decide +kernel
theorem dX1_inReach_17 : decode cX1_inReach 17 = .ok (.iconst 5, 1) := by decide +kernel
theorem dX1_inReach_18 : decode cX1_inReach 18 = .ok (.if_icmp .ne 7, 3) := by decide +kernel
theorem dX1_inReach_21 : decode cX1_inReach 21 = .ok (.iconst 1, 1) := by decide +kernel
theorem dX1_inReach_22 : decode cX1_inReach 22 = .ok (.goto 4, 3) := by decide +kernel
theorem dX1_inReach_25 : decode cX1_inReach 25 = .ok (.iconst 0, 1) := by decide +kernel
theorem dX1_inReach_26 : decode cX1_inReach 26 = .ok (.istore_n 3, 1) := by decide +kernel
theorem dX1_inReach_27 : decode cX1_inReach 27 = .ok (.iload_n 3, 1) := by decide +kernel
theorem dX1_inReach_28 : decode cX1_inReach 28 = .ok (.ifCond .eq 14, 3) := by decide +kernel
theorem dX1_inReach_31 : decode cX1_inReach 31 = .ok (.aload_n 0, 1) := by decide +kernel
theorem dX1_inReach_32 : decode cX1_inReach 32 = .ok (.getfield 9, 3) := by decide +kernel
theorem dX1_inReach_35 : decode cX1_inReach 35 = .ok (.iload_n 1, 1) := by decide +kernel
theorem dX1_inReach_36 : decode cX1_inReach 36 = .ok (.iaload, 1) := by decide +kernel
theorem dX1_inReach_37 : decode cX1_inReach 37 = .ok (.iconst 3, 1) := by decide +kernel
theorem dX1_inReach_38 : decode cX1_inReach 38 = .ok (.isub, 1) := by decide +kernel
theorem dX1_inReach_39 : decode cX1_inReach 39 = .ok (.goto 9, 3) := by decide +kernel
theorem dX1_inReach_42 : decode cX1_inReach 42 = .ok (.aload_n 0, 1) := by decide +kernel
theorem dX1_inReach_43 : decode cX1_inReach 43 = .ok (.getfield 9, 3) := by decide +kernel
theorem dX1_inReach_46 : decode cX1_inReach 46 = .ok (.iload_n 1, 1) := by decide +kernel
theorem dX1_inReach_47 : decode cX1_inReach 47 = .ok (.iaload, 1) := by decide +kernel
theorem dX1_inReach_48 : decode cX1_inReach 48 = .ok (.ireturn, 1) := by decide +kernel
theorem dX1_nextAge_0 : decode cX1_nextAge 0 = .ok (.aload_n 0, 1) := by decide +kernel
theorem dX1_nextAge_1 : decode cX1_nextAge 1 = .ok (.getfield 18, 3) := by decide +kernel
theorem dX1_nextAge_4 : decode cX1_nextAge 4 = .ok (.iconst 5, 1) := by decide +kernel
theorem dX1_nextAge_5 : decode cX1_nextAge 5 = .ok (.iaload, 1) := by decide +kernel
theorem dX1_nextAge_6 : decode cX1_nextAge 6 = .ok (.istore_n 2, 1) := by decide +kernel
theorem dX1_nextAge_7 : decode cX1_nextAge 7 = .ok (.iload_n 2, 1) := by decide +kernel
theorem dX1_nextAge_8 : decode cX1_nextAge 8 = .ok (.iconst 4, 1) := by decide +kernel
theorem dX1_nextAge_9 : decode cX1_nextAge 9 = .ok (.if_icmp .ne 18, 3) := by decide +kernel
theorem dX1_nextAge_12 : decode cX1_nextAge 12 = .ok (.aload_n 0, 1) := by decide +kernel
theorem dX1_nextAge_13 : decode cX1_nextAge 13 = .ok (.getfield 36, 3) := by decide +kernel
theorem dX1_nextAge_16 : decode cX1_nextAge 16 = .ok (.iconst 2, 1) := by decide +kernel
theorem dX1_nextAge_17 : decode cX1_nextAge 17 = .ok (.irem, 1) := by decide +kernel
theorem dX1_nextAge_18 : decode cX1_nextAge 18 = .ok (.ifCond .ne 7, 3) := by decide +kernel
theorem dX1_nextAge_21 : decode cX1_nextAge 21 = .ok (.iconst 2, 1) := by decide +kernel
theorem dX1_nextAge_22 : decode cX1_nextAge 22 = .ok (.goto 4, 3) := by decide +kernel
theorem dX1_nextAge_25 : decode cX1_nextAge 25 = .ok (.iconst 1, 1) := by decide +kernel
theorem dX1_nextAge_26 : decode cX1_nextAge 26 = .ok (.istore_n 2, 1) := by decide +kernel
theorem dX1_nextAge_27 : decode cX1_nextAge 27 = .ok (.iconst (-1), 1) := by decide +kernel
theorem dX1_nextAge_28 : decode cX1_nextAge 28 = .ok (.istore_n 3, 1) := by decide +kernel
theorem dX1_nextAge_29 : decode cX1_nextAge 29 = .ok (.iconst (-1), 1) := by decide +kernel
theorem dX1_nextAge_30 : decode cX1_nextAge 30 = .ok (.istore 4, 2) := by decide +kernel
theorem dX1_nextAge_32 : decode cX1_nextAge 32 = .ok (.iconst 4, 1) := by decide +kernel
theorem dX1_nextAge_33 : decode cX1_nextAge 33 = .ok (.istore 5, 2) := by decide +kernel
theorem dX1_nextAge_35 : decode cX1_nextAge 35 = .ok (.iload 5, 2) := by decide +kernel
theorem dX1_nextAge_37 : decode cX1_nextAge 37 = .ok (.ifCond .lt 67, 3) := by decide +kernel
theorem dX1_nextAge_40 : decode cX1_nextAge 40 = .ok (.aload_n 0, 1) := by decide +kernel
theorem dX1_nextAge_41 : decode cX1_nextAge 41 = .ok (.iload 5, 2) := by decide +kernel
theorem dX1_nextAge_43 : decode cX1_nextAge 43 = .ok (.invokevirtual 83, 3) := by decide +kernel
theorem dX1_nextAge_46 : decode cX1_nextAge 46 = .ok (.ifCond .gt 6, 3) := by decide +kernel
theorem dX1_nextAge_49 : decode cX1_nextAge 49 = .ok (.goto 49, 3) := by decide +kernel
theorem dX1_nextAge_52 : decode cX1_nextAge 52 = .ok (.aload_n 0, 1) := by decide +kernel
theorem dX1_nextAge_53 : decode cX1_nextAge 53 = .ok (.iload_n 1, 1) := by decide +kernel
theorem dX1_nextAge_54 : decode cX1_nextAge 54 = .ok (.iload 5, 2) := by decide +kernel
theorem dX1_nextAge_56 : decode cX1_nextAge 56 = .ok (.invokevirtual 86, 3) := by decide +kernel
theorem dX1_nextAge_59 : decode cX1_nextAge 59 = .ok (.istore 6, 2) := by decide +kernel
theorem dX1_nextAge_61 : decode cX1_nextAge 61 = .ok (.iload 6, 2) := by decide +kernel
theorem dX1_nextAge_63 : decode cX1_nextAge 63 = .ok (.iconst (-1), 1) := by decide +kernel
theorem dX1_nextAge_64 : decode cX1_nextAge 64 = .ok (.if_icmp .ne 6, 3) := by decide +kernel
theorem dX1_nextAge_67 : decode cX1_nextAge 67 = .ok (.goto 31, 3) := by decide +kernel
theorem dX1_nextAge_70 : decode cX1_nextAge 70 = .ok (.iload_n 3, 1) := by decide +kernel
theorem dX1_nextAge_71 : decode cX1_nextAge 71 = .ok (.ifCond .lt 20, 3) := by decide +kernel
theorem dX1_nextAge_74 : decode cX1_nextAge 74 = .ok (.iload_n 2, 1) := by decide +kernel
theorem dX1_nextAge_75 : decode cX1_nextAge 75 = .ok (.iconst 1, 1) := by decide +kernel
theorem dX1_nextAge_76 : decode cX1_nextAge 76 = .ok (.if_icmp .eq 15, 3) := by decide +kernel
theorem dX1_nextAge_79 : decode cX1_nextAge 79 = .ok (.iload_n 2, 1) := by decide +kernel
theorem dX1_nextAge_80 : decode cX1_nextAge 80 = .ok (.iconst 2, 1) := by decide +kernel
theorem dX1_nextAge_81 : decode cX1_nextAge 81 = .ok (.if_icmp .ne 17, 3) := by decide +kernel
theorem dX1_nextAge_84 : decode cX1_nextAge 84 = .ok (.iload 6, 2) := by decide +kernel
theorem dX1_nextAge_86 : decode cX1_nextAge 86 = .ok (.iload 4, 2) := by decide +kernel
theorem dX1_nextAge_88 : decode cX1_nextAge 88 = .ok (.if_icmp .le 10, 3) := by decide +kernel
theorem dX1_nextAge_91 : decode cX1_nextAge 91 = .ok (.iload 5, 2) := by decide +kernel
theorem dX1_nextAge_93 : decode cX1_nextAge 93 = .ok (.istore_n 3, 1) := by decide +kernel
theorem dX1_nextAge_94 : decode cX1_nextAge 94 = .ok (.iload 6, 2) := by decide +kernel
theorem dX1_nextAge_96 : decode cX1_nextAge 96 = .ok (.istore 4, 2) := by decide +kernel
theorem dX1_nextAge_98 : decode cX1_nextAge 98 = .ok (.iinc 5 (-1), 3) := by decide +kernel
theorem dX1_nextAge_101 : decode cX1_nextAge 101 = .ok (.goto (-66), 3) := by decide +kernel
theorem dX1_nextAge_104 : decode cX1_nextAge 104 = .ok (.iload_n 3, 1) := by decide +kernel
theorem dX1_nextAge_105 : decode cX1_nextAge 105 = .ok (.ireturn, 1) := by decide +kernel
theorem dX1_worthTo_0 : decode cX1_worthTo 0 = .ok (.aload_n 0, 1) := by decide +kernel
theorem dX1_worthTo_1 : decode cX1_worthTo 1 = .ok (.getfield 23, 3) := by decide +kernel
theorem dX1_worthTo_4 : decode cX1_worthTo 4 = .ok (.iload_n 1, 1) := by decide +kernel
theorem dX1_worthTo_5 : decode cX1_worthTo 5 = .ok (.aaload, 1) := by decide +kernel
theorem dX1_worthTo_6 : decode cX1_worthTo 6 = .ok (.iconst 2, 1) := by decide +kernel
theorem dX1_worthTo_7 : decode cX1_worthTo 7 = .ok (.iaload, 1) := by decide +kernel
theorem dX1_worthTo_8 : decode cX1_worthTo 8 = .ok (.istore_n 3, 1) := by decide +kernel
theorem dX1_worthTo_9 : decode cX1_worthTo 9 = .ok (.aload_n 0, 1) := by decide +kernel
theorem dX1_worthTo_10 : decode cX1_worthTo 10 = .ok (.getfield 23, 3) := by decide +kernel
theorem dX1_worthTo_13 : decode cX1_worthTo 13 = .ok (.iload_n 1, 1) := by decide +kernel
theorem dX1_worthTo_14 : decode cX1_worthTo 14 = .ok (.aaload, 1) := by decide +kernel
theorem dX1_worthTo_15 : decode cX1_worthTo 15 = .ok (.iconst 0, 1) := by decide +kernel
theorem dX1_worthTo_16 : decode cX1_worthTo 16 = .ok (.iaload, 1) := by decide +kernel
theorem dX1_worthTo_17 : decode cX1_worthTo 17 = .ok (.istore 4, 2) := by decide +kernel
theorem dX1_worthTo_19 : decode cX1_worthTo 19 = .ok (.iload_n 3, 1) := by decide +kernel
theorem dX1_worthTo_20 : decode cX1_worthTo 20 = .ok (.iload_n 2, 1) := by decide +kernel
theorem dX1_worthTo_21 : decode cX1_worthTo 21 = .ok (.if_icmp .le 9, 3) := by decide +kernel
theorem dX1_worthTo_24 : decode cX1_worthTo 24 = .ok (.iload_n 3, 1) := by decide +kernel
theorem dX1_worthTo_25 : decode cX1_worthTo 25 = .ok (.iload_n 2, 1) := by decide +kernel
theorem dX1_worthTo_26 : decode cX1_worthTo 26 = .ok (.isub, 1) := by decide +kernel
theorem dX1_worthTo_27 : decode cX1_worthTo 27 = .ok (.goto 4, 3) := by decide +kernel
theorem dX1_worthTo_30 : decode cX1_worthTo 30 = .ok (.iconst 0, 1) := by decide +kernel
theorem dX1_worthTo_31 : decode cX1_worthTo 31 = .ok (.istore 5, 2) := by decide +kernel
theorem dX1_worthTo_33 : decode cX1_worthTo 33 = .ok (.iload 4, 2) := by decide +kernel
theorem dX1_worthTo_35 : decode cX1_worthTo 35 = .ok (.tableswitch 123 1 5 #[33, 43, 59, 57, 59], 33) := by decide +kernel
theorem dX1_worthTo_68 : decode cX1_worthTo 68 = .ok (.iload_n 2, 1) := by decide +kernel
theorem dX1_worthTo_69 : decode cX1_worthTo 69 = .ok (.ifCond .ne 7, 3) := by decide +kernel
theorem dX1_worthTo_72 : decode cX1_worthTo 72 = .ok (.iload_n 3, 1) := by decide +kernel
theorem dX1_worthTo_73 : decode cX1_worthTo 73 = .ok (.goto 4, 3) := by decide +kernel
theorem dX1_worthTo_76 : decode cX1_worthTo 76 = .ok (.iconst (-1), 1) := by decide +kernel
theorem dX1_worthTo_77 : decode cX1_worthTo 77 = .ok (.ireturn, 1) := by decide +kernel
theorem dX1_worthTo_78 : decode cX1_worthTo 78 = .ok (.iload_n 2, 1) := by decide +kernel
theorem dX1_worthTo_79 : decode cX1_worthTo 79 = .ok (.iconst 3, 1) := by decide +kernel
theorem dX1_worthTo_80 : decode cX1_worthTo 80 = .ok (.if_icmp .lt 9, 3) := by decide +kernel
theorem dX1_worthTo_83 : decode cX1_worthTo 83 = .ok (.iload_n 3, 1) := by decide +kernel
theorem dX1_worthTo_84 : decode cX1_worthTo 84 = .ok (.iconst 1, 1) := by decide +kernel
theorem dX1_worthTo_85 : decode cX1_worthTo 85 = .ok (.iadd, 1) := by decide +kernel
theorem dX1_worthTo_86 : decode cX1_worthTo 86 = .ok (.goto 5, 3) := by decide +kernel
theorem dX1_worthTo_89 : decode cX1_worthTo 89 = .ok (.iload 5, 2) := by decide +kernel
theorem dX1_worthTo_91 : decode cX1_worthTo 91 = .ok (.ireturn, 1) := by decide +kernel
theorem dX1_worthTo_92 : decode cX1_worthTo 92 = .ok (.iconst 1, 1) := by decide +kernel
theorem dX1_worthTo_93 : decode cX1_worthTo 93 = .ok (.ireturn, 1) := by decide +kernel
theorem dX1_worthTo_94 : decode cX1_worthTo 94 = .ok (.iload_n 2, 1) := by decide +kernel
theorem dX1_worthTo_95 : decode cX1_worthTo 95 = .ok (.iconst 1, 1) := by decide +kernel
theorem dX1_worthTo_96 : decode cX1_worthTo 96 = .ok (.if_icmp .le 5, 3) := by decide +kernel
theorem dX1_worthTo_99 : decode cX1_worthTo 99 = .ok (.iconst (-1), 1) := by decide +kernel
theorem dX1_worthTo_100 : decode cX1_worthTo 100 = .ok (.ireturn, 1) := by decide +kernel
theorem dX1_worthTo_101 : decode cX1_worthTo 101 = .ok (.iload_n 2, 1) := by decide +kernel
theorem dX1_worthTo_102 : decode cX1_worthTo 102 = .ok (.ifCond .ne 7, 3) := by decide +kernel
theorem dX1_worthTo_105 : decode cX1_worthTo 105 = .ok (.iload_n 3, 1) := by decide +kernel
theorem dX1_worthTo_106 : decode cX1_worthTo 106 = .ok (.goto 6, 3) := by decide +kernel
theorem dX1_worthTo_109 : decode cX1_worthTo 109 = .ok (.iload_n 3, 1) := by decide +kernel
theorem dX1_worthTo_110 : decode cX1_worthTo 110 = .ok (.iconst 2, 1) := by decide +kernel
theorem dX1_worthTo_111 : decode cX1_worthTo 111 = .ok (.idiv, 1) := by decide +kernel
theorem dX1_worthTo_112 : decode cX1_worthTo 112 = .ok (.istore 6, 2) := by decide +kernel
theorem dX1_worthTo_114 : decode cX1_worthTo 114 = .ok (.iload 4, 2) := by decide +kernel
theorem dX1_worthTo_116 : decode cX1_worthTo 116 = .ok (.iconst 5, 1) := by decide +kernel
theorem dX1_worthTo_117 : decode cX1_worthTo 117 = .ok (.if_icmp .ne 18, 3) := by decide +kernel
theorem dX1_worthTo_120 : decode cX1_worthTo 120 = .ok (.aload_n 0, 1) := by decide +kernel
theorem dX1_worthTo_121 : decode cX1_worthTo 121 = .ok (.getfield 36, 3) := by decide +kernel
theorem dX1_worthTo_124 : decode cX1_worthTo 124 = .ok (.bipush 7, 2) := by decide +kernel
theorem dX1_worthTo_126 : decode cX1_worthTo 126 = .ok (.irem, 1) := by decide +kernel
theorem dX1_worthTo_127 : decode cX1_worthTo 127 = .ok (.iconst 5, 1) := by decide +kernel
theorem dX1_worthTo_128 : decode cX1_worthTo 128 = .ok (.if_icmp .lt 7, 3) := by decide +kernel
theorem dX1_worthTo_131 : decode cX1_worthTo 131 = .ok (.iconst 1, 1) := by decide +kernel
theorem dX1_worthTo_132 : decode cX1_worthTo 132 = .ok (.goto 4, 3) := by decide +kernel
theorem dX1_worthTo_135 : decode cX1_worthTo 135 = .ok (.iconst 0, 1) := by decide +kernel
theorem dX1_worthTo_136 : decode cX1_worthTo 136 = .ok (.istore 7, 2) := by decide +kernel
theorem dX1_worthTo_138 : decode cX1_worthTo 138 = .ok (.iload 7, 2) := by decide +kernel
theorem dX1_worthTo_140 : decode cX1_worthTo 140 = .ok (.ifCond .eq 15, 3) := by decide +kernel
theorem dX1_worthTo_143 : decode cX1_worthTo 143 = .ok (.iload 6, 2) := by decide +kernel
theorem dX1_worthTo_145 : decode cX1_worthTo 145 = .ok (.ifCond .le 10, 3) := by decide +kernel
theorem dX1_worthTo_148 : decode cX1_worthTo 148 = .ok (.iload 6, 2) := by decide +kernel
theorem dX1_worthTo_150 : decode cX1_worthTo 150 = .ok (.iconst 1, 1) := by decide +kernel
theorem dX1_worthTo_151 : decode cX1_worthTo 151 = .ok (.isub, 1) := by decide +kernel
theorem dX1_worthTo_152 : decode cX1_worthTo 152 = .ok (.goto 5, 3) := by decide +kernel
theorem dX1_worthTo_155 : decode cX1_worthTo 155 = .ok (.iload 6, 2) := by decide +kernel
theorem dX1_worthTo_157 : decode cX1_worthTo 157 = .ok (.ireturn, 1) := by decide +kernel
theorem dX1_worthTo_158 : decode cX1_worthTo 158 = .ok (.iload 5, 2) := by decide +kernel
theorem dX1_worthTo_160 : decode cX1_worthTo 160 = .ok (.ireturn, 1) := by decide +kernel
theorem dX2_init_0 : decode cX2_init 0 = .ok (.aload_n 0, 1) := by decide +kernel
theorem dX2_init_1 : decode cX2_init 1 = .ok (.invokespecial 3, 3) := by decide +kernel
theorem dX2_init_4 : decode cX2_init 4 = .ok (.aload_n 0, 1) := by decide +kernel
theorem dX2_init_5 : decode cX2_init 5 = .ok (.bipush 96, 2) := by decide +kernel
theorem dX2_init_7 : decode cX2_init 7 = .ok (.newarray .char, 2) := by decide +kernel
theorem dX2_init_9 : decode cX2_init 9 = .ok (.putfield 9, 3) := by decide +kernel
theorem dX2_init_12 : decode cX2_init 12 = .ok (.return_, 1) := by decide +kernel
theorem dX2_add_0 : decode cX2_add 0 = .ok (.aload_n 0, 1) := by decide +kernel
theorem dX2_add_1 : decode cX2_add 1 = .ok (.getfield 15, 3) := by decide +kernel
theorem dX2_add_4 : decode cX2_add 4 = .ok (.bipush 96, 2) := by decide +kernel
theorem dX2_add_6 : decode cX2_add 6 = .ok (.if_icmp .ge 23, 3) := by decide +kernel
theorem dX2_add_9 : decode cX2_add 9 = .ok (.aload_n 0, 1) := by decide +kernel
theorem dX2_add_10 : decode cX2_add 10 = .ok (.getfield 9, 3) := by decide +kernel
theorem dX2_add_13 : decode cX2_add 13 = .ok (.aload_n 0, 1) := by decide +kernel
theorem dX2_add_14 : decode cX2_add 14 = .ok (.getfield 15, 3) := by decide +kernel
theorem dX2_add_17 : decode cX2_add 17 = .ok (.iload_n 1, 1) := by decide +kernel
theorem dX2_add_18 : decode cX2_add 18 = .ok (.castore, 1) := by decide +kernel
theorem dX2_add_19 : decode cX2_add 19 = .ok (.aload_n 0, 1) := by decide +kernel
theorem dX2_add_20 : decode cX2_add 20 = .ok (.dup, 1) := by decide +kernel
theorem dX2_add_21 : decode cX2_add 21 = .ok (.getfield 15, 3) := by decide +kernel
theorem dX2_add_24 : decode cX2_add 24 = .ok (.iconst 1, 1) := by decide +kernel
theorem dX2_add_25 : decode cX2_add 25 = .ok (.iadd, 1) := by decide +kernel
theorem dX2_add_26 : decode cX2_add 26 = .ok (.putfield 15, 3) := by decide +kernel
theorem dX2_add_29 : decode cX2_add 29 = .ok (.return_, 1) := by decide +kernel
theorem dX2_sign_0 : decode cX2_sign 0 = .ok (.iload_n 1, 1) := by decide +kernel
theorem dX2_sign_1 : decode cX2_sign 1 = .ok (.ifCond .lt 20, 3) := by decide +kernel
theorem dX2_sign_4 : decode cX2_sign 4 = .ok (.iload_n 1, 1) := by decide +kernel
theorem dX2_sign_5 : decode cX2_sign 5 = .ok (.aload_n 0, 1) := by decide +kernel
theorem dX2_sign_6 : decode cX2_sign 6 = .ok (.getfield 15, 3) := by decide +kernel
theorem dX2_sign_9 : decode cX2_sign 9 = .ok (.if_icmp .ge 12, 3) := by decide +kernel
theorem dX2_sign_12 : decode cX2_sign 12 = .ok (.aload_n 0, 1) := by decide +kernel
theorem dX2_sign_13 : decode cX2_sign 13 = .ok (.getfield 9, 3) := by decide +kernel
theorem dX2_sign_16 : decode cX2_sign 16 = .ok (.iload_n 1, 1) := by decide +kernel
theorem dX2_sign_17 : decode cX2_sign 17 = .ok (.caload, 1) := by decide +kernel
theorem dX2_sign_18 : decode cX2_sign 18 = .ok (.goto 5, 3) := by decide +kernel
theorem dX2_sign_21 : decode cX2_sign 21 = .ok (.bipush 59, 2) := by decide +kernel
theorem dX2_sign_23 : decode cX2_sign 23 = .ok (.ireturn, 1) := by decide +kernel
theorem dX2_digit_0 : decode cX2_digit 0 = .ok (.aload_n 0, 1) := by decide +kernel
theorem dX2_digit_1 : decode cX2_digit 1 = .ok (.iload_n 1, 1) := by decide +kernel
theorem dX2_digit_2 : decode cX2_digit 2 = .ok (.invokevirtual 19, 3) := by decide +kernel
theorem dX2_digit_5 : decode cX2_digit 5 = .ok (.bipush 48, 2) := by decide +kernel
theorem dX2_digit_7 : decode cX2_digit 7 = .ok (.isub, 1) := by decide +kernel
theorem dX2_digit_8 : decode cX2_digit 8 = .ok (.ireturn, 1) := by decide +kernel
theorem dX2_twoDigits_0 : decode cX2_twoDigits 0 = .ok (.bipush 10, 2) := by decide +kernel
theorem dX2_twoDigits_2 : decode cX2_twoDigits 2 = .ok (.aload_n 0, 1) := by decide +kernel
theorem dX2_twoDigits_3 : decode cX2_twoDigits 3 = .ok (.iload_n 1, 1) := by decide +kernel
theorem dX2_twoDigits_4 : decode cX2_twoDigits 4 = .ok (.invokevirtual 23, 3) := by decide +kernel
theorem dX2_twoDigits_7 : decode cX2_twoDigits 7 = .ok (.imul, 1) := by decide +kernel
theorem dX2_twoDigits_8 : decode cX2_twoDigits 8 = .ok (.aload_n 0, 1) := by decide +kernel
theorem dX2_twoDigits_9 : decode cX2_twoDigits 9 = .ok (.iload_n 1, 1) := by decide +kernel
theorem dX2_twoDigits_10 : decode cX2_twoDigits 10 = .ok (.iconst 1, 1) := by decide +kernel
theorem dX2_twoDigits_11 : decode cX2_twoDigits 11 = .ok (.iadd, 1) := by decide +kernel
theorem dX2_twoDigits_12 : decode cX2_twoDigits 12 = .ok (.invokevirtual 23, 3) := by decide +kernel
theorem dX2_twoDigits_15 : decode cX2_twoDigits 15 = .ok (.iadd, 1) := by decide +kernel
theorem dX2_twoDigits_16 : decode cX2_twoDigits 16 = .ok (.ireturn, 1) := by decide +kernel
theorem dX2_wrongPlace_0 : decode cX2_wrongPlace 0 = .ok (.ldc 27, 2) := by decide +kernel
theorem dX2_wrongPlace_2 : decode cX2_wrongPlace 2 = .ok (.astore_n 1, 1) := by decide +kernel
theorem dX2_wrongPlace_3 : decode cX2_wrongPlace 3 = .ok (.iconst 0, 1) := by decide +kernel
theorem dX2_wrongPlace_4 : decode cX2_wrongPlace 4 = .ok (.istore_n 2, 1) := by decide +kernel
theorem dX2_wrongPlace_5 : decode cX2_wrongPlace 5 = .ok (.iconst 0, 1) := by decide +kernel
theorem dX2_wrongPlace_6 : decode cX2_wrongPlace 6 = .ok (.istore_n 3, 1) := by decide +kernel
theorem dX2_wrongPlace_7 : decode cX2_wrongPlace 7 = .ok (.iload_n 3, 1) := by decide +kernel
theorem dX2_wrongPlace_8 : decode cX2_wrongPlace 8 = .ok (.aload_n 0, 1) := by decide +kernel
theorem dX2_wrongPlace_9 : decode cX2_wrongPlace 9 = .ok (.getfield 15, 3) := by decide +kernel
theorem dX2_wrongPlace_12 : decode cX2_wrongPlace 12 = .ok (.if_icmp .ge 89, 3) := by decide +kernel
theorem dX2_wrongPlace_15 : decode cX2_wrongPlace 15 = .ok (.aload_n 0, 1) := by decide +kernel
theorem dX2_wrongPlace_16 : decode cX2_wrongPlace 16 = .ok (.getfield 9, 3) := by decide +kernel
theorem dX2_wrongPlace_19 : decode cX2_wrongPlace 19 = .ok (.iload_n 3, 1) := by decide +kernel
theorem dX2_wrongPlace_20 : decode cX2_wrongPlace 20 = .ok (.caload, 1) := by decide +kernel
theorem dX2_wrongPlace_21 : decode cX2_wrongPlace 21 = .ok (.istore 4, 2) := by decide +kernel
theorem dX2_wrongPlace_23 : decode cX2_wrongPlace 23 = .ok (.iload_n 2, 1) := by decide +kernel
theorem dX2_wrongPlace_24 : decode cX2_wrongPlace 24 = .ok (.aload_n 1, 1) := by decide +kernel
theorem dX2_wrongPlace_25 : decode cX2_wrongPlace 25 = .ok (.invokevirtual 29, 3) := by decide +kernel
theorem dX2_wrongPlace_28 : decode cX2_wrongPlace 28 = .ok (.if_icmp .lt 20, 3) := by decide +kernel
theorem dX2_wrongPlace_31 : decode cX2_wrongPlace 31 = .ok (.iload 4, 2) := by decide +kernel
theorem dX2_wrongPlace_33 : decode cX2_wrongPlace 33 = .ok (.invokestatic 35, 3) := by decide +kernel
theorem dX2_wrongPlace_36 : decode cX2_wrongPlace 36 = .ok (.astore_n 1, 1) := by decide +kernel
theorem dX2_wrongPlace_37 : decode cX2_wrongPlace 37 = .ok (.iconst 0, 1) := by decide +kernel
theorem dX2_wrongPlace_38 : decode cX2_wrongPlace 38 = .ok (.istore_n 2, 1) := by decide +kernel
theorem dX2_wrongPlace_39 : decode cX2_wrongPlace 39 = .ok (.aload_n 1, 1) := by decide +kernel
theorem dX2_wrongPlace_40 : decode cX2_wrongPlace 40 = .ok (.invokevirtual 39, 3) := by decide +kernel
theorem dX2_wrongPlace_43 : decode cX2_wrongPlace 43 = .ok (.ifCond .eq 52, 3) := by decide +kernel
theorem dX2_wrongPlace_46 : decode cX2_wrongPlace 46 = .ok (.iload_n 3, 1) := by decide +kernel
theorem dX2_wrongPlace_47 : decode cX2_wrongPlace 47 = .ok (.ireturn, 1) := by decide +kernel
theorem dX2_wrongPlace_48 : decode cX2_wrongPlace 48 = .ok (.aload_n 1, 1) := by decide +kernel
theorem dX2_wrongPlace_49 : decode cX2_wrongPlace 49 = .ok (.iload_n 2, 1) := by decide +kernel
theorem dX2_wrongPlace_50 : decode cX2_wrongPlace 50 = .ok (.invokevirtual 43, 3) := by decide +kernel
theorem dX2_wrongPlace_53 : decode cX2_wrongPlace 53 = .ok (.bipush 63, 2) := by decide +kernel
theorem dX2_wrongPlace_55 : decode cX2_wrongPlace 55 = .ok (.if_icmp .ne 14, 3) := by decide +kernel
theorem dX2_wrongPlace_58 : decode cX2_wrongPlace 58 = .ok (.iload 4, 2) := by decide +kernel
theorem dX2_wrongPlace_60 : decode cX2_wrongPlace 60 = .ok (.invokestatic 46, 3) := by decide +kernel
theorem dX2_wrongPlace_63 : decode cX2_wrongPlace 63 = .ok (.ifCond .ne 6, 3) := by decide +kernel
theorem dX2_wrongPlace_66 : decode cX2_wrongPlace 66 = .ok (.iinc 2 1, 3) := by decide +kernel
theorem dX2_wrongPlace_69 : decode cX2_wrongPlace 69 = .ok (.iload_n 2, 1) := by decide +kernel
theorem dX2_wrongPlace_70 : decode cX2_wrongPlace 70 = .ok (.aload_n 1, 1) := by decide +kernel
theorem dX2_wrongPlace_71 : decode cX2_wrongPlace 71 = .ok (.invokevirtual 29, 3) := by decide +kernel
theorem dX2_wrongPlace_74 : decode cX2_wrongPlace 74 = .ok (.if_icmp .ge 16, 3) := by decide +kernel
theorem dX2_wrongPlace_77 : decode cX2_wrongPlace 77 = .ok (.aload_n 1, 1) := by decide +kernel
theorem dX2_wrongPlace_78 : decode cX2_wrongPlace 78 = .ok (.iload_n 2, 1) := by decide +kernel
theorem dX2_wrongPlace_79 : decode cX2_wrongPlace 79 = .ok (.invokevirtual 43, 3) := by decide +kernel
theorem dX2_wrongPlace_82 : decode cX2_wrongPlace 82 = .ok (.iload 4, 2) := by decide +kernel
theorem dX2_wrongPlace_84 : decode cX2_wrongPlace 84 = .ok (.invokestatic 50, 3) := by decide +kernel
theorem dX2_wrongPlace_87 : decode cX2_wrongPlace 87 = .ok (.ifCond .ne 5, 3) := by decide +kernel
theorem dX2_wrongPlace_90 : decode cX2_wrongPlace 90 = .ok (.iload_n 3, 1) := by decide +kernel
theorem dX2_wrongPlace_91 : decode cX2_wrongPlace 91 = .ok (.ireturn, 1) := by decide +kernel
theorem dX2_wrongPlace_92 : decode cX2_wrongPlace 92 = .ok (.iinc 2 1, 3) := by decide +kernel
theorem dX2_wrongPlace_95 : decode cX2_wrongPlace 95 = .ok (.iinc 3 1, 3) := by decide +kernel
theorem dX2_wrongPlace_98 : decode cX2_wrongPlace 98 = .ok (.goto (-91), 3) := by decide +kernel
theorem dX2_wrongPlace_101 : decode cX2_wrongPlace 101 = .ok (.aload_n 0, 1) := by decide +kernel
theorem dX2_wrongPlace_102 : decode cX2_wrongPlace 102 = .ok (.getfield 15, 3) := by decide +kernel
theorem dX2_wrongPlace_105 : decode cX2_wrongPlace 105 = .ok (.ifCond .le 15, 3) := by decide +kernel
theorem dX2_wrongPlace_108 : decode cX2_wrongPlace 108 = .ok (.iload_n 2, 1) := by decide +kernel
theorem dX2_wrongPlace_109 : decode cX2_wrongPlace 109 = .ok (.aload_n 1, 1) := by decide +kernel
theorem dX2_wrongPlace_110 : decode cX2_wrongPlace 110 = .ok (.invokevirtual 29, 3) := by decide +kernel
theorem dX2_wrongPlace_113 : decode cX2_wrongPlace 113 = .ok (.if_icmp .lt 7, 3) := by decide +kernel
theorem dX2_wrongPlace_116 : decode cX2_wrongPlace 116 = .ok (.iconst (-1), 1) := by decide +kernel
theorem dX2_wrongPlace_117 : decode cX2_wrongPlace 117 = .ok (.goto 7, 3) := by decide +kernel
theorem dX2_wrongPlace_120 : decode cX2_wrongPlace 120 = .ok (.aload_n 0, 1) := by decide +kernel
theorem dX2_wrongPlace_121 : decode cX2_wrongPlace 121 = .ok (.getfield 15, 3) := by decide +kernel
theorem dX2_wrongPlace_124 : decode cX2_wrongPlace 124 = .ok (.ireturn, 1) := by decide +kernel
theorem dX2_formBehind_0 : decode cX2_formBehind 0 = .ok (.iload_n 0, 1) := by decide +kernel
theorem dX2_formBehind_1 : decode cX2_formBehind 1 = .ok (.tableswitch 118 98 119 #[106, 106, 115, 103, 118, 118, 112, 118, 118, 118, 118, 118, 118, 118, 118, 118, 118, 106, 118, 118, 118, 109], 103) := by decide +kernel
theorem dX2_formBehind_104 : decode cX2_formBehind 104 = .ok (.ldc 54, 2) := by decide +kernel
theorem dX2_formBehind_106 : decode cX2_formBehind 106 = .ok (.areturn, 1) := by decide +kernel
theorem dX2_formBehind_107 : decode cX2_formBehind 107 = .ok (.ldc 56, 2) := by decide +kernel
theorem dX2_formBehind_109 : decode cX2_formBehind 109 = .ok (.areturn, 1) := by decide +kernel
theorem dX2_formBehind_110 : decode cX2_formBehind 110 = .ok (.ldc 58, 2) := by decide +kernel
theorem dX2_formBehind_112 : decode cX2_formBehind 112 = .ok (.areturn, 1) := by decide +kernel
theorem dX2_formBehind_113 : decode cX2_formBehind 113 = .ok (.ldc 60, 2) := by decide +kernel
theorem dX2_formBehind_115 : decode cX2_formBehind 115 = .ok (.areturn, 1) := by decide +kernel
theorem dX2_formBehind_116 : decode cX2_formBehind 116 = .ok (.ldc 62, 2) := by decide +kernel
theorem dX2_formBehind_118 : decode cX2_formBehind 118 = .ok (.areturn, 1) := by decide +kernel
theorem dX2_formBehind_119 : decode cX2_formBehind 119 = .ok (.ldc 27, 2) := by decide +kernel
theorem dX2_formBehind_121 : decode cX2_formBehind 121 = .ok (.areturn, 1) := by decide +kernel
theorem dX2_isDigit_0 : decode cX2_isDigit 0 = .ok (.iload_n 0, 1) := by decide +kernel
theorem dX2_isDigit_1 : decode cX2_isDigit 1 = .ok (.bipush 48, 2) := by decide +kernel
theorem dX2_isDigit_3 : decode cX2_isDigit 3 = .ok (.if_icmp .lt 13, 3) := by decide +kernel
theorem dX2_isDigit_6 : decode cX2_isDigit 6 = .ok (.iload_n 0, 1) := by decide +kernel
theorem dX2_isDigit_7 : decode cX2_isDigit 7 = .ok (.bipush 57, 2) := by decide +kernel
theorem dX2_isDigit_9 : decode cX2_isDigit 9 = .ok (.if_icmp .gt 7, 3) := by decide +kernel
theorem dX2_isDigit_12 : decode cX2_isDigit 12 = .ok (.iconst 1, 1) := by decide +kernel
theorem dX2_isDigit_13 : decode cX2_isDigit 13 = .ok (.goto 4, 3) := by decide +kernel
theorem dX2_isDigit_16 : decode cX2_isDigit 16 = .ok (.iconst 0, 1) := by decide +kernel
theorem dX2_isDigit_17 : decode cX2_isDigit 17 = .ok (.ireturn, 1) := by decide +kernel
theorem dX2_goesOn_0 : decode cX2_goesOn 0 = .ok (.iload_n 0, 1) := by decide +kernel
theorem dX2_goesOn_1 : decode cX2_goesOn 1 = .ok (.lookupswitch 104 #[(57, 99), (63, 99), (69, 51), (72, 66), (87, 81)], 51) := by decide +kernel
theorem dX2_goesOn_52 : decode cX2_goesOn 52 = .ok (.ldc 64, 2) := by decide +kernel
theorem dX2_goesOn_54 : decode cX2_goesOn 54 = .ok (.iload_n 1, 1) := by decide +kernel
theorem dX2_goesOn_55 : decode cX2_goesOn 55 = .ok (.invokevirtual 66, 3) := by decide +kernel
theorem dX2_goesOn_58 : decode cX2_goesOn 58 = .ok (.ifCond .lt 7, 3) := by decide +kernel
theorem dX2_goesOn_61 : decode cX2_goesOn 61 = .ok (.iconst 1, 1) := by decide +kernel
theorem dX2_goesOn_62 : decode cX2_goesOn 62 = .ok (.goto 4, 3) := by decide +kernel
theorem dX2_goesOn_65 : decode cX2_goesOn 65 = .ok (.iconst 0, 1) := by decide +kernel
theorem dX2_goesOn_66 : decode cX2_goesOn 66 = .ok (.ireturn, 1) := by decide +kernel
theorem dX2_goesOn_67 : decode cX2_goesOn 67 = .ok (.ldc 69, 2) := by decide +kernel
theorem dX2_goesOn_69 : decode cX2_goesOn 69 = .ok (.iload_n 1, 1) := by decide +kernel
theorem dX2_goesOn_70 : decode cX2_goesOn 70 = .ok (.invokevirtual 66, 3) := by decide +kernel
theorem dX2_goesOn_73 : decode cX2_goesOn 73 = .ok (.ifCond .lt 7, 3) := by decide +kernel
theorem dX2_goesOn_76 : decode cX2_goesOn 76 = .ok (.iconst 1, 1) := by decide +kernel
theorem dX2_goesOn_77 : decode cX2_goesOn 77 = .ok (.goto 4, 3) := by decide +kernel
theorem dX2_goesOn_80 : decode cX2_goesOn 80 = .ok (.iconst 0, 1) := by decide +kernel
theorem dX2_goesOn_81 : decode cX2_goesOn 81 = .ok (.ireturn, 1) := by decide +kernel
theorem dX2_goesOn_82 : decode cX2_goesOn 82 = .ok (.iload_n 1, 1) := by decide +kernel
theorem dX2_goesOn_83 : decode cX2_goesOn 83 = .ok (.bipush 111, 2) := by decide +kernel
theorem dX2_goesOn_85 : decode cX2_goesOn 85 = .ok (.if_icmp .eq 9, 3) := by decide +kernel
theorem dX2_goesOn_88 : decode cX2_goesOn 88 = .ok (.iload_n 1, 1) := by decide +kernel
theorem dX2_goesOn_89 : decode cX2_goesOn 89 = .ok (.bipush 120, 2) := by decide +kernel
theorem dX2_goesOn_91 : decode cX2_goesOn 91 = .ok (.if_icmp .ne 7, 3) := by decide +kernel
theorem dX2_goesOn_94 : decode cX2_goesOn 94 = .ok (.iconst 1, 1) := by decide +kernel
theorem dX2_goesOn_95 : decode cX2_goesOn 95 = .ok (.goto 4, 3) := by decide +kernel
theorem dX2_goesOn_98 : decode cX2_goesOn 98 = .ok (.iconst 0, 1) := by decide +kernel
theorem dX2_goesOn_99 : decode cX2_goesOn 99 = .ok (.ireturn, 1) := by decide +kernel
theorem dX2_goesOn_100 : decode cX2_goesOn 100 = .ok (.iload_n 1, 1) := by decide +kernel
theorem dX2_goesOn_101 : decode cX2_goesOn 101 = .ok (.invokestatic 46, 3) := by decide +kernel
theorem dX2_goesOn_104 : decode cX2_goesOn 104 = .ok (.ireturn, 1) := by decide +kernel
theorem dX2_goesOn_105 : decode cX2_goesOn 105 = .ok (.iload_n 1, 1) := by decide +kernel
theorem dX2_goesOn_106 : decode cX2_goesOn 106 = .ok (.iload_n 0, 1) := by decide +kernel
theorem dX2_goesOn_107 : decode cX2_goesOn 107 = .ok (.if_icmp .ne 7, 3) := by decide +kernel
theorem dX2_goesOn_110 : decode cX2_goesOn 110 = .ok (.iconst 1, 1) := by decide +kernel
theorem dX2_goesOn_111 : decode cX2_goesOn 111 = .ok (.goto 4, 3) := by decide +kernel
theorem dX2_goesOn_114 : decode cX2_goesOn 114 = .ok (.iconst 0, 1) := by decide +kernel
theorem dX2_goesOn_115 : decode cX2_goesOn 115 = .ok (.ireturn, 1) := by decide +kernel
theorem dX2_behindStatement_0 : decode cX2_behindStatement 0 = .ok (.iload_n 1, 1) := by decide +kernel
theorem dX2_behindStatement_1 : decode cX2_behindStatement 1 = .ok (.istore_n 2, 1) := by decide +kernel
theorem dX2_behindStatement_2 : decode cX2_behindStatement 2 = .ok (.iload_n 2, 1) := by decide +kernel
theorem dX2_behindStatement_3 : decode cX2_behindStatement 3 = .ok (.aload_n 0, 1) := by decide +kernel
theorem dX2_behindStatement_4 : decode cX2_behindStatement 4 = .ok (.getfield 15, 3) := by decide +kernel
theorem dX2_behindStatement_7 : decode cX2_behindStatement 7 = .ok (.if_icmp .ge 20, 3) := by decide +kernel
theorem dX2_behindStatement_10 : decode cX2_behindStatement 10 = .ok (.aload_n 0, 1) := by decide +kernel
theorem dX2_behindStatement_11 : decode cX2_behindStatement 11 = .ok (.getfield 9, 3) := by decide +kernel
theorem dX2_behindStatement_14 : decode cX2_behindStatement 14 = .ok (.iload_n 2, 1) := by decide +kernel
theorem dX2_behindStatement_15 : decode cX2_behindStatement 15 = .ok (.caload, 1) := by decide +kernel
theorem dX2_behindStatement_16 : decode cX2_behindStatement 16 = .ok (.bipush 59, 2) := by decide +kernel
theorem dX2_behindStatement_18 : decode cX2_behindStatement 18 = .ok (.if_icmp .eq 9, 3) := by decide +kernel
theorem dX2_behindStatement_21 : decode cX2_behindStatement 21 = .ok (.iinc 2 1, 3) := by decide +kernel
theorem dX2_behindStatement_24 : decode cX2_behindStatement 24 = .ok (.goto (-22), 3) := by decide +kernel
theorem dX2_behindStatement_27 : decode cX2_behindStatement 27 = .ok (.iload_n 2, 1) := by decide +kernel
theorem dX2_behindStatement_28 : decode cX2_behindStatement 28 = .ok (.iconst 1, 1) := by decide +kernel
theorem dX2_behindStatement_29 : decode cX2_behindStatement 29 = .ok (.iadd, 1) := by decide +kernel
theorem dX2_behindStatement_30 : decode cX2_behindStatement 30 = .ok (.ireturn, 1) := by decide +kernel
theorem dX2_tellStatement_0 : decode cX2_tellStatement 0 = .ok (.aload_n 0, 1) := by decide +kernel
theorem dX2_tellStatement_1 : decode cX2_tellStatement 1 = .ok (.iload_n 1, 1) := by decide +kernel
theorem dX2_tellStatement_2 : decode cX2_tellStatement 2 = .ok (.invokevirtual 19, 3) := by decide +kernel
theorem dX2_tellStatement_5 : decode cX2_tellStatement 5 = .ok (.lookupswitch 292 #[(98, 187), (99, 241), (101, 59), (104, 223), (115, 123), (119, 142)], 59) := by decide +kernel
theorem dX2_tellStatement_64 : decode cX2_tellStatement 64 = .ok (.aload_n 0, 1) := by decide +kernel
theorem dX2_tellStatement_65 : decode cX2_tellStatement 65 = .ok (.iload_n 1, 1) := by decide +kernel
theorem dX2_tellStatement_66 : decode cX2_tellStatement 66 = .ok (.iconst 5, 1) := by decide +kernel
theorem dX2_tellStatement_67 : decode cX2_tellStatement 67 = .ok (.iadd, 1) := by decide +kernel
theorem dX2_tellStatement_68 : decode cX2_tellStatement 68 = .ok (.invokevirtual 19, 3) := by decide +kernel
theorem dX2_tellStatement_71 : decode cX2_tellStatement 71 = .ok (.bipush 59, 2) := by decide +kernel
theorem dX2_tellStatement_73 : decode cX2_tellStatement 73 = .ok (.if_icmp .ne 13, 3) := by decide +kernel
theorem dX2_tellStatement_76 : decode cX2_tellStatement 76 = .ok (.aload_n 0, 1) := by decide +kernel
theorem dX2_tellStatement_77 : decode cX2_tellStatement 77 = .ok (.iload_n 1, 1) := by decide +kernel
theorem dX2_tellStatement_78 : decode cX2_tellStatement 78 = .ok (.iconst 4, 1) := by decide +kernel
theorem dX2_tellStatement_79 : decode cX2_tellStatement 79 = .ok (.iadd, 1) := by decide +kernel
theorem dX2_tellStatement_80 : decode cX2_tellStatement 80 = .ok (.invokevirtual 23, 3) := by decide +kernel
theorem dX2_tellStatement_83 : decode cX2_tellStatement 83 = .ok (.goto 10, 3) := by decide +kernel
theorem dX2_tellStatement_86 : decode cX2_tellStatement 86 = .ok (.aload_n 0, 1) := by decide +kernel
theorem dX2_tellStatement_87 : decode cX2_tellStatement 87 = .ok (.iload_n 1, 1) := by decide +kernel
theorem dX2_tellStatement_88 : decode cX2_tellStatement 88 = .ok (.iconst 4, 1) := by decide +kernel
theorem dX2_tellStatement_89 : decode cX2_tellStatement 89 = .ok (.iadd, 1) := by decide +kernel
theorem dX2_tellStatement_90 : decode cX2_tellStatement 90 = .ok (.invokevirtual 71, 3) := by decide +kernel
theorem dX2_tellStatement_93 : decode cX2_tellStatement 93 = .ok (.istore 4, 2) := by decide +kernel
theorem dX2_tellStatement_95 : decode cX2_tellStatement 95 = .ok (.aload_n 2, 1) := by decide +kernel
theorem dX2_tellStatement_96 : decode cX2_tellStatement 96 = .ok (.ldc 64, 2) := by decide +kernel
theorem dX2_tellStatement_98 : decode cX2_tellStatement 98 = .ok (.aload_n 0, 1) := by decide +kernel
theorem dX2_tellStatement_99 : decode cX2_tellStatement 99 = .ok (.iload_n 1, 1) := by decide +kernel
theorem dX2_tellStatement_100 : decode cX2_tellStatement 100 = .ok (.iconst 1, 1) := by decide +kernel
theorem dX2_tellStatement_101 : decode cX2_tellStatement 101 = .ok (.iadd, 1) := by decide +kernel
theorem dX2_tellStatement_102 : decode cX2_tellStatement 102 = .ok (.invokevirtual 19, 3) := by decide +kernel
theorem dX2_tellStatement_105 : decode cX2_tellStatement 105 = .ok (.invokevirtual 66, 3) := by decide +kernel
theorem dX2_tellStatement_108 : decode cX2_tellStatement 108 = .ok (.aload_n 0, 1) := by decide +kernel
theorem dX2_tellStatement_109 : decode cX2_tellStatement 109 = .ok (.iload_n 1, 1) := by decide +kernel
theorem dX2_tellStatement_110 : decode cX2_tellStatement 110 = .ok (.iconst 2, 1) := by decide +kernel
theorem dX2_tellStatement_111 : decode cX2_tellStatement 111 = .ok (.iadd, 1) := by decide +kernel
theorem dX2_tellStatement_112 : decode cX2_tellStatement 112 = .ok (.invokevirtual 23, 3) := by decide +kernel
theorem dX2_tellStatement_115 : decode cX2_tellStatement 115 = .ok (.aload_n 0, 1) := by decide +kernel
theorem dX2_tellStatement_116 : decode cX2_tellStatement 116 = .ok (.iload_n 1, 1) := by decide +kernel
theorem dX2_tellStatement_117 : decode cX2_tellStatement 117 = .ok (.iconst 3, 1) := by decide +kernel
theorem dX2_tellStatement_118 : decode cX2_tellStatement 118 = .ok (.iadd, 1) := by decide +kernel
theorem dX2_tellStatement_119 : decode cX2_tellStatement 119 = .ok (.invokevirtual 23, 3) := by decide +kernel
theorem dX2_tellStatement_122 : decode cX2_tellStatement 122 = .ok (.iload 4, 2) := by decide +kernel
theorem dX2_tellStatement_124 : decode cX2_tellStatement 124 = .ok (.invokevirtual 74, 3) := by decide +kernel
theorem dX2_tellStatement_127 : decode cX2_tellStatement 127 = .ok (.ireturn, 1) := by decide +kernel
theorem dX2_tellStatement_128 : decode cX2_tellStatement 128 = .ok (.aload_n 2, 1) := by decide +kernel
theorem dX2_tellStatement_129 : decode cX2_tellStatement 129 = .ok (.aload_n 0, 1) := by decide +kernel
theorem dX2_tellStatement_130 : decode cX2_tellStatement 130 = .ok (.iload_n 1, 1) := by decide +kernel
theorem dX2_tellStatement_131 : decode cX2_tellStatement 131 = .ok (.iconst 1, 1) := by decide +kernel
theorem dX2_tellStatement_132 : decode cX2_tellStatement 132 = .ok (.iadd, 1) := by decide +kernel
theorem dX2_tellStatement_133 : decode cX2_tellStatement 133 = .ok (.invokevirtual 23, 3) := by decide +kernel
theorem dX2_tellStatement_136 : decode cX2_tellStatement 136 = .ok (.aload_n 0, 1) := by decide +kernel
theorem dX2_tellStatement_137 : decode cX2_tellStatement 137 = .ok (.iload_n 1, 1) := by decide +kernel
theorem dX2_tellStatement_138 : decode cX2_tellStatement 138 = .ok (.iconst 2, 1) := by decide +kernel
theorem dX2_tellStatement_139 : decode cX2_tellStatement 139 = .ok (.iadd, 1) := by decide +kernel
theorem dX2_tellStatement_140 : decode cX2_tellStatement 140 = .ok (.invokevirtual 71, 3) := by decide +kernel
theorem dX2_tellStatement_143 : decode cX2_tellStatement 143 = .ok (.invokevirtual 80, 3) := by decide +kernel
theorem dX2_tellStatement_146 : decode cX2_tellStatement 146 = .ok (.ireturn, 1) := by decide +kernel
theorem dX2_tellStatement_147 : decode cX2_tellStatement 147 = .ok (.iconst 0, 1) := by decide +kernel
theorem dX2_tellStatement_148 : decode cX2_tellStatement 148 = .ok (.istore 5, 2) := by decide +kernel
theorem dX2_tellStatement_150 : decode cX2_tellStatement 150 = .ok (.iload 5, 2) := by decide +kernel
theorem dX2_tellStatement_152 : decode cX2_tellStatement 152 = .ok (.bipush 7, 2) := by decide +kernel
theorem dX2_tellStatement_154 : decode cX2_tellStatement 154 = .ok (.if_icmp .ge 36, 3) := by decide +kernel
theorem dX2_tellStatement_157 : decode cX2_tellStatement 157 = .ok (.aload_n 2, 1) := by decide +kernel
theorem dX2_tellStatement_158 : decode cX2_tellStatement 158 = .ok (.getfield 84, 3) := by decide +kernel
theorem dX2_tellStatement_161 : decode cX2_tellStatement 161 = .ok (.iload 5, 2) := by decide +kernel
theorem dX2_tellStatement_163 : decode cX2_tellStatement 163 = .ok (.aload_n 0, 1) := by decide +kernel
theorem dX2_tellStatement_164 : decode cX2_tellStatement 164 = .ok (.iload_n 1, 1) := by decide +kernel
theorem dX2_tellStatement_165 : decode cX2_tellStatement 165 = .ok (.iconst 1, 1) := by decide +kernel
theorem dX2_tellStatement_166 : decode cX2_tellStatement 166 = .ok (.iadd, 1) := by decide +kernel
theorem dX2_tellStatement_167 : decode cX2_tellStatement 167 = .ok (.iload 5, 2) := by decide +kernel
theorem dX2_tellStatement_169 : decode cX2_tellStatement 169 = .ok (.iadd, 1) := by decide +kernel
theorem dX2_tellStatement_170 : decode cX2_tellStatement 170 = .ok (.invokevirtual 19, 3) := by decide +kernel
theorem dX2_tellStatement_173 : decode cX2_tellStatement 173 = .ok (.bipush 111, 2) := by decide +kernel
theorem dX2_tellStatement_175 : decode cX2_tellStatement 175 = .ok (.if_icmp .ne 7, 3) := by decide +kernel
theorem dX2_tellStatement_178 : decode cX2_tellStatement 178 = .ok (.iconst 1, 1) := by decide +kernel
theorem dX2_tellStatement_179 : decode cX2_tellStatement 179 = .ok (.goto 4, 3) := by decide +kernel
theorem dX2_tellStatement_182 : decode cX2_tellStatement 182 = .ok (.iconst 0, 1) := by decide +kernel
theorem dX2_tellStatement_183 : decode cX2_tellStatement 183 = .ok (.iastore, 1) := by decide +kernel
theorem dX2_tellStatement_184 : decode cX2_tellStatement 184 = .ok (.iinc 5 1, 3) := by decide +kernel
theorem dX2_tellStatement_187 : decode cX2_tellStatement 187 = .ok (.goto (-37), 3) := by decide +kernel
theorem dX2_tellStatement_190 : decode cX2_tellStatement 190 = .ok (.iconst 1, 1) := by decide +kernel
theorem dX2_tellStatement_191 : decode cX2_tellStatement 191 = .ok (.ireturn, 1) := by decide +kernel
theorem dX2_tellStatement_192 : decode cX2_tellStatement 192 = .ok (.aload_n 2, 1) := by decide +kernel
theorem dX2_tellStatement_193 : decode cX2_tellStatement 193 = .ok (.iconst 0, 1) := by decide +kernel
theorem dX2_tellStatement_194 : decode cX2_tellStatement 194 = .ok (.aload_n 0, 1) := by decide +kernel
theorem dX2_tellStatement_195 : decode cX2_tellStatement 195 = .ok (.iload_n 1, 1) := by decide +kernel
theorem dX2_tellStatement_196 : decode cX2_tellStatement 196 = .ok (.iconst 1, 1) := by decide +kernel
theorem dX2_tellStatement_197 : decode cX2_tellStatement 197 = .ok (.iadd, 1) := by decide +kernel
theorem dX2_tellStatement_198 : decode cX2_tellStatement 198 = .ok (.invokevirtual 71, 3) := by decide +kernel
theorem dX2_tellStatement_201 : decode cX2_tellStatement 201 = .ok (.invokevirtual 88, 3) := by decide +kernel
theorem dX2_tellStatement_204 : decode cX2_tellStatement 204 = .ok (.ifCond .eq 22, 3) := by decide +kernel
theorem dX2_tellStatement_207 : decode cX2_tellStatement 207 = .ok (.aload_n 2, 1) := by decide +kernel
theorem dX2_tellStatement_208 : decode cX2_tellStatement 208 = .ok (.iconst 1, 1) := by decide +kernel
theorem dX2_tellStatement_209 : decode cX2_tellStatement 209 = .ok (.aload_n 0, 1) := by decide +kernel
theorem dX2_tellStatement_210 : decode cX2_tellStatement 210 = .ok (.iload_n 1, 1) := by decide +kernel
theorem dX2_tellStatement_211 : decode cX2_tellStatement 211 = .ok (.iconst 3, 1) := by decide +kernel
theorem dX2_tellStatement_212 : decode cX2_tellStatement 212 = .ok (.iadd, 1) := by decide +kernel
theorem dX2_tellStatement_213 : decode cX2_tellStatement 213 = .ok (.invokevirtual 23, 3) := by decide +kernel
theorem dX2_tellStatement_216 : decode cX2_tellStatement 216 = .ok (.invokevirtual 88, 3) := by decide +kernel
theorem dX2_tellStatement_219 : decode cX2_tellStatement 219 = .ok (.ifCond .eq 7, 3) := by decide +kernel
theorem dX2_tellStatement_222 : decode cX2_tellStatement 222 = .ok (.iconst 1, 1) := by decide +kernel
theorem dX2_tellStatement_223 : decode cX2_tellStatement 223 = .ok (.goto 4, 3) := by decide +kernel
theorem dX2_tellStatement_226 : decode cX2_tellStatement 226 = .ok (.iconst 0, 1) := by decide +kernel
theorem dX2_tellStatement_227 : decode cX2_tellStatement 227 = .ok (.ireturn, 1) := by decide +kernel
theorem dX2_tellStatement_228 : decode cX2_tellStatement 228 = .ok (.aload_n 2, 1) := by decide +kernel
theorem dX2_tellStatement_229 : decode cX2_tellStatement 229 = .ok (.iconst 5, 1) := by decide +kernel
theorem dX2_tellStatement_230 : decode cX2_tellStatement 230 = .ok (.ldc 69, 2) := by decide +kernel
theorem dX2_tellStatement_232 : decode cX2_tellStatement 232 = .ok (.aload_n 0, 1) := by decide +kernel
theorem dX2_tellStatement_233 : decode cX2_tellStatement 233 = .ok (.iload_n 1, 1) := by decide +kernel
theorem dX2_tellStatement_234 : decode cX2_tellStatement 234 = .ok (.iconst 1, 1) := by decide +kernel
theorem dX2_tellStatement_235 : decode cX2_tellStatement 235 = .ok (.iadd, 1) := by decide +kernel
theorem dX2_tellStatement_236 : decode cX2_tellStatement 236 = .ok (.invokevirtual 19, 3) := by decide +kernel
theorem dX2_tellStatement_239 : decode cX2_tellStatement 239 = .ok (.invokevirtual 66, 3) := by decide +kernel
theorem dX2_tellStatement_242 : decode cX2_tellStatement 242 = .ok (.invokevirtual 88, 3) := by decide +kernel
theorem dX2_tellStatement_245 : decode cX2_tellStatement 245 = .ok (.ireturn, 1) := by decide +kernel
theorem dX2_tellStatement_246 : decode cX2_tellStatement 246 = .ok (.aload_n 2, 1) := by decide +kernel
theorem dX2_tellStatement_247 : decode cX2_tellStatement 247 = .ok (.iconst 2, 1) := by decide +kernel
theorem dX2_tellStatement_248 : decode cX2_tellStatement 248 = .ok (.aload_n 0, 1) := by decide +kernel
theorem dX2_tellStatement_249 : decode cX2_tellStatement 249 = .ok (.iload_n 1, 1) := by decide +kernel
theorem dX2_tellStatement_250 : decode cX2_tellStatement 250 = .ok (.iconst 1, 1) := by decide +kernel
theorem dX2_tellStatement_251 : decode cX2_tellStatement 251 = .ok (.iadd, 1) := by decide +kernel
theorem dX2_tellStatement_252 : decode cX2_tellStatement 252 = .ok (.invokevirtual 23, 3) := by decide +kernel
theorem dX2_tellStatement_255 : decode cX2_tellStatement 255 = .ok (.invokevirtual 88, 3) := by decide +kernel
theorem dX2_tellStatement_258 : decode cX2_tellStatement 258 = .ok (.ifCond .eq 37, 3) := by decide +kernel
theorem dX2_tellStatement_261 : decode cX2_tellStatement 261 = .ok (.aload_n 2, 1) := by decide +kernel
theorem dX2_tellStatement_262 : decode cX2_tellStatement 262 = .ok (.iconst 3, 1) := by decide +kernel
theorem dX2_tellStatement_263 : decode cX2_tellStatement 263 = .ok (.aload_n 0, 1) := by decide +kernel
theorem dX2_tellStatement_264 : decode cX2_tellStatement 264 = .ok (.iload_n 1, 1) := by decide +kernel
theorem dX2_tellStatement_265 : decode cX2_tellStatement 265 = .ok (.iconst 2, 1) := by decide +kernel
theorem dX2_tellStatement_266 : decode cX2_tellStatement 266 = .ok (.iadd, 1) := by decide +kernel
theorem dX2_tellStatement_267 : decode cX2_tellStatement 267 = .ok (.invokevirtual 23, 3) := by decide +kernel
theorem dX2_tellStatement_270 : decode cX2_tellStatement 270 = .ok (.invokevirtual 88, 3) := by decide +kernel
theorem dX2_tellStatement_273 : decode cX2_tellStatement 273 = .ok (.ifCond .eq 22, 3) := by decide +kernel
theorem dX2_tellStatement_276 : decode cX2_tellStatement 276 = .ok (.aload_n 2, 1) := by decide +kernel
theorem dX2_tellStatement_277 : decode cX2_tellStatement 277 = .ok (.iconst 4, 1) := by decide +kernel
theorem dX2_tellStatement_278 : decode cX2_tellStatement 278 = .ok (.aload_n 0, 1) := by decide +kernel
theorem dX2_tellStatement_279 : decode cX2_tellStatement 279 = .ok (.iload_n 1, 1) := by decide +kernel
theorem dX2_tellStatement_280 : decode cX2_tellStatement 280 = .ok (.iconst 3, 1) := by decide +kernel
theorem dX2_tellStatement_281 : decode cX2_tellStatement 281 = .ok (.iadd, 1) := by decide +kernel
theorem dX2_tellStatement_282 : decode cX2_tellStatement 282 = .ok (.invokevirtual 23, 3) := by decide +kernel
theorem dX2_tellStatement_285 : decode cX2_tellStatement 285 = .ok (.invokevirtual 88, 3) := by decide +kernel
theorem dX2_tellStatement_288 : decode cX2_tellStatement 288 = .ok (.ifCond .eq 7, 3) := by decide +kernel
theorem dX2_tellStatement_291 : decode cX2_tellStatement 291 = .ok (.iconst 1, 1) := by decide +kernel
theorem dX2_tellStatement_292 : decode cX2_tellStatement 292 = .ok (.goto 4, 3) := by decide +kernel
theorem dX2_tellStatement_295 : decode cX2_tellStatement 295 = .ok (.iconst 0, 1) := by decide +kernel
theorem dX2_tellStatement_296 : decode cX2_tellStatement 296 = .ok (.ireturn, 1) := by decide +kernel
theorem dX2_tellStatement_297 : decode cX2_tellStatement 297 = .ok (.aload_n 2, 1) := by decide +kernel
theorem dX2_tellStatement_298 : decode cX2_tellStatement 298 = .ok (.getfield 91, 3) := by decide +kernel
theorem dX2_tellStatement_301 : decode cX2_tellStatement 301 = .ok (.sipush 9999, 3) := by decide +kernel
theorem dX2_tellStatement_304 : decode cX2_tellStatement 304 = .ok (.if_icmp .lt 5, 3) := by decide +kernel
theorem dX2_tellStatement_307 : decode cX2_tellStatement 307 = .ok (.iconst 0, 1) := by decide +kernel
theorem dX2_tellStatement_308 : decode cX2_tellStatement 308 = .ok (.ireturn, 1) := by decide +kernel
theorem dX2_tellStatement_309 : decode cX2_tellStatement 309 = .ok (.aload_n 2, 1) := by decide +kernel
theorem dX2_tellStatement_310 : decode cX2_tellStatement 310 = .ok (.aload_n 3, 1) := by decide +kernel
theorem dX2_tellStatement_311 : decode cX2_tellStatement 311 = .ok (.invokevirtual 94, 3) := by decide +kernel
theorem dX2_tellStatement_314 : decode cX2_tellStatement 314 = .ok (.iconst 1, 1) := by decide +kernel
theorem dX2_tellStatement_315 : decode cX2_tellStatement 315 = .ok (.ireturn, 1) := by decide +kernel
theorem dX3_init_0 : decode cX3_init 0 = .ok (.aload_n 0, 1) := by decide +kernel
theorem dX3_init_1 : decode cX3_init 1 = .ok (.invokespecial 3, 3) := by decide +kernel
theorem dX3_init_4 : decode cX3_init 4 = .ok (.aload_n 0, 1) := by decide +kernel
theorem dX3_init_5 : decode cX3_init 5 = .ok (.bipush 6, 2) := by decide +kernel
theorem dX3_init_7 : decode cX3_init 7 = .ok (.newarray .int, 2) := by decide +kernel
theorem dX3_init_9 : decode cX3_init 9 = .ok (.putfield 9, 3) := by decide +kernel
theorem dX3_init_12 : decode cX3_init 12 = .ok (.aload_n 0, 1) := by decide +kernel
theorem dX3_init_13 : decode cX3_init 13 = .ok (.bipush 20, 2) := by decide +kernel
theorem dX3_init_15 : decode cX3_init 15 = .ok (.newarray .int, 2) := by decide +kernel
theorem dX3_init_17 : decode cX3_init 17 = .ok (.putfield 15, 3) := by decide +kernel
theorem dX3_init_20 : decode cX3_init 20 = .ok (.return_, 1) := by decide +kernel
theorem dX3_clear_0 : decode cX3_clear 0 = .ok (.aload_n 0, 1) := by decide +kernel
theorem dX3_clear_1 : decode cX3_clear 1 = .ok (.getfield 9, 3) := by decide +kernel
theorem dX3_clear_4 : decode cX3_clear 4 = .ok (.iconst 0, 1) := by decide +kernel
theorem dX3_clear_5 : decode cX3_clear 5 = .ok (.invokestatic 18, 3) := by decide +kernel
theorem dX3_clear_8 : decode cX3_clear 8 = .ok (.aload_n 0, 1) := by decide +kernel
theorem dX3_clear_9 : decode cX3_clear 9 = .ok (.iconst 0, 1) := by decide +kernel
theorem dX3_clear_10 : decode cX3_clear 10 = .ok (.putfield 24, 3) := by decide +kernel
theorem dX3_clear_13 : decode cX3_clear 13 = .ok (.return_, 1) := by decide +kernel
theorem dX3_addBought_0 : decode cX3_addBought 0 = .ok (.aload_n 0, 1) := by decide +kernel
theorem dX3_addBought_1 : decode cX3_addBought 1 = .ok (.getfield 9, 3) := by decide +kernel
theorem dX3_addBought_4 : decode cX3_addBought 4 = .ok (.iconst 5, 1) := by decide +kernel
theorem dX3_addBought_5 : decode cX3_addBought 5 = .ok (.dup2, 1) := by decide +kernel
theorem dX3_addBought_6 : decode cX3_addBought 6 = .ok (.iaload, 1) := by decide +kernel
theorem dX3_addBought_7 : decode cX3_addBought 7 = .ok (.iload_n 1, 1) := by decide +kernel
theorem dX3_addBought_8 : decode cX3_addBought 8 = .ok (.iadd, 1) := by decide +kernel
theorem dX3_addBought_9 : decode cX3_addBought 9 = .ok (.iastore, 1) := by decide +kernel
theorem dX3_addBought_10 : decode cX3_addBought 10 = .ok (.aload_n 0, 1) := by decide +kernel
theorem dX3_addBought_11 : decode cX3_addBought 11 = .ok (.getfield 9, 3) := by decide +kernel
theorem dX3_addBought_14 : decode cX3_addBought 14 = .ok (.iconst 0, 1) := by decide +kernel
theorem dX3_addBought_15 : decode cX3_addBought 15 = .ok (.dup2, 1) := by decide +kernel
theorem dX3_addBought_16 : decode cX3_addBought 16 = .ok (.iaload, 1) := by decide +kernel
theorem dX3_addBought_17 : decode cX3_addBought 17 = .ok (.iload_n 1, 1) := by decide +kernel
theorem dX3_addBought_18 : decode cX3_addBought 18 = .ok (.iload_n 2, 1) := by decide +kernel
theorem dX3_addBought_19 : decode cX3_addBought 19 = .ok (.imul, 1) := by decide +kernel
theorem dX3_addBought_20 : decode cX3_addBought 20 = .ok (.isub, 1) := by decide +kernel
theorem dX3_addBought_21 : decode cX3_addBought 21 = .ok (.iastore, 1) := by decide +kernel
theorem dX3_addBought_22 : decode cX3_addBought 22 = .ok (.return_, 1) := by decide +kernel
theorem dX3_addEaten_0 : decode cX3_addEaten 0 = .ok (.aload_n 0, 1) := by decide +kernel
theorem dX3_addEaten_1 : decode cX3_addEaten 1 = .ok (.getfield 9, 3) := by decide +kernel
theorem dX3_addEaten_4 : decode cX3_addEaten 4 = .ok (.iconst 1, 1) := by decide +kernel
theorem dX3_addEaten_5 : decode cX3_addEaten 5 = .ok (.dup2, 1) := by decide +kernel
theorem dX3_addEaten_6 : decode cX3_addEaten 6 = .ok (.iaload, 1) := by decide +kernel
theorem dX3_addEaten_7 : decode cX3_addEaten 7 = .ok (.iload_n 2, 1) := by decide +kernel
theorem dX3_addEaten_8 : decode cX3_addEaten 8 = .ok (.iadd, 1) := by decide +kernel
theorem dX3_addEaten_9 : decode cX3_addEaten 9 = .ok (.iastore, 1) := by decide +kernel
theorem dX3_addEaten_10 : decode cX3_addEaten 10 = .ok (.iload_n 1, 1) := by decide +kernel
theorem dX3_addEaten_11 : decode cX3_addEaten 11 = .ok (.ifCond .ne 13, 3) := by decide +kernel
theorem dX3_addEaten_14 : decode cX3_addEaten 14 = .ok (.aload_n 0, 1) := by decide +kernel
theorem dX3_addEaten_15 : decode cX3_addEaten 15 = .ok (.getfield 9, 3) := by decide +kernel
theorem dX3_addEaten_18 : decode cX3_addEaten 18 = .ok (.iconst 2, 1) := by decide +kernel
theorem dX3_addEaten_19 : decode cX3_addEaten 19 = .ok (.dup2, 1) := by decide +kernel
theorem dX3_addEaten_20 : decode cX3_addEaten 20 = .ok (.iaload, 1) := by decide +kernel
theorem dX3_addEaten_21 : decode cX3_addEaten 21 = .ok (.iload_n 2, 1) := by decide +kernel
theorem dX3_addEaten_22 : decode cX3_addEaten 22 = .ok (.iadd, 1) := by decide +kernel
theorem dX3_addEaten_23 : decode cX3_addEaten 23 = .ok (.iastore, 1) := by decide +kernel
theorem dX3_addEaten_24 : decode cX3_addEaten 24 = .ok (.aload_n 0, 1) := by decide +kernel
theorem dX3_addEaten_25 : decode cX3_addEaten 25 = .ok (.getfield 9, 3) := by decide +kernel
theorem dX3_addEaten_28 : decode cX3_addEaten 28 = .ok (.iconst 0, 1) := by decide +kernel
theorem dX3_addEaten_29 : decode cX3_addEaten 29 = .ok (.dup2, 1) := by decide +kernel
theorem dX3_addEaten_30 : decode cX3_addEaten 30 = .ok (.iaload, 1) := by decide +kernel
theorem dX3_addEaten_31 : decode cX3_addEaten 31 = .ok (.iload_n 2, 1) := by decide +kernel
theorem dX3_addEaten_32 : decode cX3_addEaten 32 = .ok (.iload_n 3, 1) := by decide +kernel
theorem dX3_addEaten_33 : decode cX3_addEaten 33 = .ok (.imul, 1) := by decide +kernel
theorem dX3_addEaten_34 : decode cX3_addEaten 34 = .ok (.iadd, 1) := by decide +kernel
theorem dX3_addEaten_35 : decode cX3_addEaten 35 = .ok (.iastore, 1) := by decide +kernel
theorem dX3_addEaten_36 : decode cX3_addEaten 36 = .ok (.iconst 0, 1) := by decide +kernel
theorem dX3_addEaten_37 : decode cX3_addEaten 37 = .ok (.istore 4, 2) := by decide +kernel
theorem dX3_addEaten_39 : decode cX3_addEaten 39 = .ok (.iload 4, 2) := by decide +kernel
theorem dX3_addEaten_41 : decode cX3_addEaten 41 = .ok (.iload_n 2, 1) := by decide +kernel
theorem dX3_addEaten_42 : decode cX3_addEaten 42 = .ok (.if_icmp .ge 38, 3) := by decide +kernel
theorem dX3_addEaten_45 : decode cX3_addEaten 45 = .ok (.aload_n 0, 1) := by decide +kernel
theorem dX3_addEaten_46 : decode cX3_addEaten 46 = .ok (.getfield 24, 3) := by decide +kernel
theorem dX3_addEaten_49 : decode cX3_addEaten 49 = .ok (.bipush 20, 2) := by decide +kernel
theorem dX3_addEaten_51 : decode cX3_addEaten 51 = .ok (.if_icmp .ge 29, 3) := by decide +kernel
theorem dX3_addEaten_54 : decode cX3_addEaten 54 = .ok (.aload_n 0, 1) := by decide +kernel
theorem dX3_addEaten_55 : decode cX3_addEaten 55 = .ok (.getfield 15, 3) := by decide +kernel
theorem dX3_addEaten_58 : decode cX3_addEaten 58 = .ok (.aload_n 0, 1) := by decide +kernel
theorem dX3_addEaten_59 : decode cX3_addEaten 59 = .ok (.getfield 24, 3) := by decide +kernel
theorem dX3_addEaten_62 : decode cX3_addEaten 62 = .ok (.iload_n 1, 1) := by decide +kernel
theorem dX3_addEaten_63 : decode cX3_addEaten 63 = .ok (.iastore, 1) := by decide +kernel
theorem dX3_addEaten_64 : decode cX3_addEaten 64 = .ok (.aload_n 0, 1) := by decide +kernel
theorem dX3_addEaten_65 : decode cX3_addEaten 65 = .ok (.dup, 1) := by decide +kernel
theorem dX3_addEaten_66 : decode cX3_addEaten 66 = .ok (.getfield 24, 3) := by decide +kernel
theorem dX3_addEaten_69 : decode cX3_addEaten 69 = .ok (.iconst 1, 1) := by decide +kernel
theorem dX3_addEaten_70 : decode cX3_addEaten 70 = .ok (.iadd, 1) := by decide +kernel
theorem dX3_addEaten_71 : decode cX3_addEaten 71 = .ok (.putfield 24, 3) := by decide +kernel
theorem dX3_addEaten_74 : decode cX3_addEaten 74 = .ok (.iinc 4 1, 3) := by decide +kernel
theorem dX3_addEaten_77 : decode cX3_addEaten 77 = .ok (.goto (-38), 3) := by decide +kernel
theorem dX3_addEaten_80 : decode cX3_addEaten 80 = .ok (.return_, 1) := by decide +kernel
theorem dX3_addLacked_0 : decode cX3_addLacked 0 = .ok (.aload_n 0, 1) := by decide +kernel
theorem dX3_addLacked_1 : decode cX3_addLacked 1 = .ok (.getfield 9, 3) := by decide +kernel
theorem dX3_addLacked_4 : decode cX3_addLacked 4 = .ok (.iconst 4, 1) := by decide +kernel
theorem dX3_addLacked_5 : decode cX3_addLacked 5 = .ok (.dup2, 1) := by decide +kernel
theorem dX3_addLacked_6 : decode cX3_addLacked 6 = .ok (.iaload, 1) := by decide +kernel
theorem dX3_addLacked_7 : decode cX3_addLacked 7 = .ok (.iload_n 1, 1) := by decide +kernel
theorem dX3_addLacked_8 : decode cX3_addLacked 8 = .ok (.iadd, 1) := by decide +kernel
theorem dX3_addLacked_9 : decode cX3_addLacked 9 = .ok (.iastore, 1) := by decide +kernel
theorem dX3_addLacked_10 : decode cX3_addLacked 10 = .ok (.aload_n 0, 1) := by decide +kernel
theorem dX3_addLacked_11 : decode cX3_addLacked 11 = .ok (.getfield 9, 3) := by decide +kernel
theorem dX3_addLacked_14 : decode cX3_addLacked 14 = .ok (.iconst 0, 1) := by decide +kernel
theorem dX3_addLacked_15 : decode cX3_addLacked 15 = .ok (.dup2, 1) := by decide +kernel
theorem dX3_addLacked_16 : decode cX3_addLacked 16 = .ok (.iaload, 1) := by decide +kernel
theorem dX3_addLacked_17 : decode cX3_addLacked 17 = .ok (.iload_n 1, 1) := by decide +kernel
theorem dX3_addLacked_18 : decode cX3_addLacked 18 = .ok (.iload_n 2, 1) := by decide +kernel
theorem dX3_addLacked_19 : decode cX3_addLacked 19 = .ok (.imul, 1) := by decide +kernel
theorem dX3_addLacked_20 : decode cX3_addLacked 20 = .ok (.isub, 1) := by decide +kernel
theorem dX3_addLacked_21 : decode cX3_addLacked 21 = .ok (.iastore, 1) := by decide +kernel
theorem dX3_addLacked_22 : decode cX3_addLacked 22 = .ok (.return_, 1) := by decide +kernel
theorem dX3_addThrown_0 : decode cX3_addThrown 0 = .ok (.aload_n 0, 1) := by decide +kernel
theorem dX3_addThrown_1 : decode cX3_addThrown 1 = .ok (.getfield 9, 3) := by decide +kernel
theorem dX3_addThrown_4 : decode cX3_addThrown 4 = .ok (.iconst 3, 1) := by decide +kernel
theorem dX3_addThrown_5 : decode cX3_addThrown 5 = .ok (.dup2, 1) := by decide +kernel
theorem dX3_addThrown_6 : decode cX3_addThrown 6 = .ok (.iaload, 1) := by decide +kernel
theorem dX3_addThrown_7 : decode cX3_addThrown 7 = .ok (.iload_n 1, 1) := by decide +kernel
theorem dX3_addThrown_8 : decode cX3_addThrown 8 = .ok (.iadd, 1) := by decide +kernel
theorem dX3_addThrown_9 : decode cX3_addThrown 9 = .ok (.iastore, 1) := by decide +kernel
theorem dX3_addThrown_10 : decode cX3_addThrown 10 = .ok (.aload_n 0, 1) := by decide +kernel
theorem dX3_addThrown_11 : decode cX3_addThrown 11 = .ok (.getfield 9, 3) := by decide +kernel
theorem dX3_addThrown_14 : decode cX3_addThrown 14 = .ok (.iconst 0, 1) := by decide +kernel
theorem dX3_addThrown_15 : decode cX3_addThrown 15 = .ok (.dup2, 1) := by decide +kernel
theorem dX3_addThrown_16 : decode cX3_addThrown 16 = .ok (.iaload, 1) := by decide +kernel
theorem dX3_addThrown_17 : decode cX3_addThrown 17 = .ok (.iload_n 1, 1) := by decide +kernel
theorem dX3_addThrown_18 : decode cX3_addThrown 18 = .ok (.iload_n 2, 1) := by decide +kernel
theorem dX3_addThrown_19 : decode cX3_addThrown 19 = .ok (.imul, 1) := by decide +kernel
theorem dX3_addThrown_20 : decode cX3_addThrown 20 = .ok (.isub, 1) := by decide +kernel
theorem dX3_addThrown_21 : decode cX3_addThrown 21 = .ok (.iastore, 1) := by decide +kernel
theorem dX3_addThrown_22 : decode cX3_addThrown 22 = .ok (.return_, 1) := by decide +kernel
theorem dJ11_isValidCodePoint_9a6ad_0 : decode cJ11_isValidCodePoint_9a6ad 0 = .ok (.iload_n 0, 1) := by decide +kernel
theorem dJ11_isValidCodePoint_9a6ad_1 : decode cJ11_isValidCodePoint_9a6ad 1 = .ok (.bipush 16, 2) := by decide +kernel
theorem dJ11_isValidCodePoint_9a6ad_3 : decode cJ11_isValidCodePoint_9a6ad 3 = .ok (.iushr, 1) := by decide +kernel
theorem dJ11_isValidCodePoint_9a6ad_4 : decode cJ11_isValidCodePoint_9a6ad 4 = .ok (.istore_n 1, 1) := by decide +kernel
theorem dJ11_isValidCodePoint_9a6ad_5 : decode cJ11_isValidCodePoint_9a6ad 5 = .ok (.iload_n 1, 1) := by decide +kernel
theorem dJ11_isValidCodePoint_9a6ad_6 : decode cJ11_isValidCodePoint_9a6ad 6 = .ok (.bipush 17, 2) := by decide +kernel
theorem dJ11_isValidCodePoint_9a6ad_8 : decode cJ11_isValidCodePoint_9a6ad 8 = .ok (.if_icmp .ge 7, 3) := by decide +kernel
theorem dJ11_isValidCodePoint_9a6ad_11 : decode cJ11_isValidCodePoint_9a6ad 11 = .ok (.iconst 1, 1) := by decide +kernel
theorem dJ11_isValidCodePoint_9a6ad_12 : decode cJ11_isValidCodePoint_9a6ad 12 = .ok (.goto 4, 3) := by decide +kernel
theorem dJ11_isValidCodePoint_9a6ad_15 : decode cJ11_isValidCodePoint_9a6ad 15 = .ok (.iconst 0, 1) := by decide +kernel
theorem dJ11_isValidCodePoint_9a6ad_16 : decode cJ11_isValidCodePoint_9a6ad 16 = .ok (.ireturn, 1) := by decide +kernel
theorem dJ11_highSurrogate_5068e_0 : decode cJ11_highSurrogate_5068e 0 = .ok (.iload_n 0, 1) := by decide +kernel
theorem dJ11_highSurrogate_5068e_1 : decode cJ11_highSurrogate_5068e 1 = .ok (.bipush 10, 2) := by decide +kernel
theorem dJ11_highSurrogate_5068e_3 : decode cJ11_highSurrogate_5068e 3 = .ok (.iushr, 1) := by decide +kernel
theorem dJ11_highSurrogate_5068e_4 : decode cJ11_highSurrogate_5068e 4 = .ok (.ldc 110, 2) := by decide +kernel
theorem dJ11_highSurrogate_5068e_6 : decode cJ11_highSurrogate_5068e 6 = .ok (.iadd, 1) := by decide +kernel
theorem dJ11_highSurrogate_5068e_7 : decode cJ11_highSurrogate_5068e 7 = .ok (.i2c, 1) := by decide +kernel
theorem dJ11_highSurrogate_5068e_8 : decode cJ11_highSurrogate_5068e 8 = .ok (.ireturn, 1) := by decide +kernel
theorem dJ11_lowSurrogate_5068e_0 : decode cJ11_lowSurrogate_5068e 0 = .ok (.iload_n 0, 1) := by decide +kernel
theorem dJ11_lowSurrogate_5068e_1 : decode cJ11_lowSurrogate_5068e 1 = .ok (.sipush 1023, 3) := by decide +kernel
theorem dJ11_lowSurrogate_5068e_4 : decode cJ11_lowSurrogate_5068e 4 = .ok (.iand, 1) := by decide +kernel
theorem dJ11_lowSurrogate_5068e_5 : decode cJ11_lowSurrogate_5068e 5 = .ok (.ldc 76, 2) := by decide +kernel
theorem dJ11_lowSurrogate_5068e_7 : decode cJ11_lowSurrogate_5068e 7 = .ok (.iadd, 1) := by decide +kernel
theorem dJ11_lowSurrogate_5068e_8 : decode cJ11_lowSurrogate_5068e 8 = .ok (.i2c, 1) := by decide +kernel
theorem dJ11_lowSurrogate_5068e_9 : decode cJ11_lowSurrogate_5068e 9 = .ok (.ireturn, 1) := by decide +kernel
theorem dJ9_abs_067f4_0 : decode cJ9_abs_067f4 0 = .ok (.lload_n 0, 1) := by decide +kernel
theorem dJ9_abs_067f4_1 : decode cJ9_abs_067f4 1 = .ok (.lconst 0, 1) := by decide +kernel
theorem dJ9_abs_067f4_2 : decode cJ9_abs_067f4 2 = .ok (.lcmp, 1) := by decide +kernel
theorem dJ9_abs_067f4_3 : decode cJ9_abs_067f4 3 = .ok (.ifCond .ge 8, 3) := by decide +kernel
theorem dJ9_abs_067f4_6 : decode cJ9_abs_067f4 6 = .ok (.lload_n 0, 1) := by decide +kernel
theorem dJ9_abs_067f4_7 : decode cJ9_abs_067f4 7 = .ok (.lneg, 1) := by decide +kernel
theorem dJ9_abs_067f4_8 : decode cJ9_abs_067f4 8 = .ok (.goto 4, 3) := by decide +kernel
theorem dJ9_abs_067f4_11 : decode cJ9_abs_067f4 11 = .ok (.lload_n 0, 1) := by decide +kernel
theorem dJ9_abs_067f4_12 : decode cJ9_abs_067f4 12 = .ok (.lreturn, 1) := by decide +kernel
theorem dJ9_max_7cf53_0 : decode cJ9_max_7cf53 0 = .ok (.iload_n 0, 1) := by decide +kernel
theorem dJ9_max_7cf53_1 : decode cJ9_max_7cf53 1 = .ok (.iload_n 1, 1) := by decide +kernel
theorem dJ9_max_7cf53_2 : decode cJ9_max_7cf53 2 = .ok (.if_icmp .lt 7, 3) := by decide +kernel
theorem dJ9_max_7cf53_5 : decode cJ9_max_7cf53 5 = .ok (.iload_n 0, 1) := by decide +kernel
theorem dJ9_max_7cf53_6 : decode cJ9_max_7cf53 6 = .ok (.goto 4, 3) := by decide +kernel
theorem dJ9_max_7cf53_9 : decode cJ9_max_7cf53 9 = .ok (.iload_n 1, 1) := by decide +kernel
theorem dJ9_max_7cf53_10 : decode cJ9_max_7cf53 10 = .ok (.ireturn, 1) := by decide +kernel
theorem dJ9_max_f86c9_0 : decode cJ9_max_f86c9 0 = .ok (.lload_n 0, 1) := by decide +kernel
theorem dJ9_max_f86c9_1 : decode cJ9_max_f86c9 1 = .ok (.lload_n 2, 1) := by decide +kernel
theorem dJ9_max_f86c9_2 : decode cJ9_max_f86c9 2 = .ok (.lcmp, 1) := by decide +kernel
theorem dJ9_max_f86c9_3 : decode cJ9_max_f86c9 3 = .ok (.ifCond .lt 7, 3) := by decide +kernel
theorem dJ9_max_f86c9_6 : decode cJ9_max_f86c9 6 = .ok (.lload_n 0, 1) := by decide +kernel
theorem dJ9_max_f86c9_7 : decode cJ9_max_f86c9 7 = .ok (.goto 4, 3) := by decide +kernel
theorem dJ9_max_f86c9_10 : decode cJ9_max_f86c9 10 = .ok (.lload_n 2, 1) := by decide +kernel
theorem dJ9_max_f86c9_11 : decode cJ9_max_f86c9 11 = .ok (.lreturn, 1) := by decide +kernel
theorem dJ9_min_7cf53_0 : decode cJ9_min_7cf53 0 = .ok (.iload_n 0, 1) := by decide +kernel
theorem dJ9_min_7cf53_1 : decode cJ9_min_7cf53 1 = .ok (.iload_n 1, 1) := by decide +kernel
theorem dJ9_min_7cf53_2 : decode cJ9_min_7cf53 2 = .ok (.if_icmp .gt 7, 3) := by decide +kernel
theorem dJ9_min_7cf53_5 : decode cJ9_min_7cf53 5 = .ok (.iload_n 0, 1) := by decide +kernel
theorem dJ9_min_7cf53_6 : decode cJ9_min_7cf53 6 = .ok (.goto 4, 3) := by decide +kernel
theorem dJ9_min_7cf53_9 : decode cJ9_min_7cf53 9 = .ok (.iload_n 1, 1) := by decide +kernel
theorem dJ9_min_7cf53_10 : decode cJ9_min_7cf53 10 = .ok (.ireturn, 1) := by decide +kernel
theorem dJ0_length_8abf5_0 : decode cJ0_length_8abf5 0 = .ok (.aload_n 0, 1) := by decide +kernel
theorem dJ0_length_8abf5_1 : decode cJ0_length_8abf5 1 = .ok (.getfield 9, 3) := by decide +kernel
theorem dJ0_length_8abf5_4 : decode cJ0_length_8abf5 4 = .ok (.arraylength, 1) := by decide +kernel
theorem dJ0_length_8abf5_5 : decode cJ0_length_8abf5 5 = .ok (.aload_n 0, 1) := by decide +kernel
theorem dJ0_length_8abf5_6 : decode cJ0_length_8abf5 6 = .ok (.invokevirtual 335, 3) := by decide +kernel
theorem dJ0_length_8abf5_9 : decode cJ0_length_8abf5 9 = .ok (.ishr, 1) := by decide +kernel
theorem dJ0_length_8abf5_10 : decode cJ0_length_8abf5 10 = .ok (.ireturn, 1) := by decide +kernel
theorem dJ0_isEmpty_aae02_0 : decode cJ0_isEmpty_aae02 0 = .ok (.aload_n 0, 1) := by decide +kernel
theorem dJ0_isEmpty_aae02_1 : decode cJ0_isEmpty_aae02 1 = .ok (.getfield 9, 3) := by decide +kernel
theorem dJ0_isEmpty_aae02_4 : decode cJ0_isEmpty_aae02 4 = .ok (.arraylength, 1) := by decide +kernel
theorem dJ0_isEmpty_aae02_5 : decode cJ0_isEmpty_aae02 5 = .ok (.ifCond .ne 7, 3) := by decide +kernel
theorem dJ0_isEmpty_aae02_8 : decode cJ0_isEmpty_aae02 8 = .ok (.iconst 1, 1) := by decide +kernel
theorem dJ0_isEmpty_aae02_9 : decode cJ0_isEmpty_aae02 9 = .ok (.goto 4, 3) := by decide +kernel
theorem dJ0_isEmpty_aae02_12 : decode cJ0_isEmpty_aae02 12 = .ok (.iconst 0, 1) := by decide +kernel
theorem dJ0_isEmpty_aae02_13 : decode cJ0_isEmpty_aae02 13 = .ok (.ireturn, 1) := by decide +kernel
theorem dJ0_charAt_5068e_0 : decode cJ0_charAt_5068e 0 = .ok (.aload_n 0, 1) := by decide +kernel
theorem dJ0_charAt_5068e_1 : decode cJ0_charAt_5068e 1 = .ok (.invokevirtual 492, 3) := by decide +kernel
theorem dJ0_charAt_5068e_4 : decode cJ0_charAt_5068e 4 = .ok (.ifCond .eq 12, 3) := by decide +kernel
theorem dJ0_charAt_5068e_7 : decode cJ0_charAt_5068e 7 = .ok (.aload_n 0, 1) := by decide +kernel
theorem dJ0_charAt_5068e_8 : decode cJ0_charAt_5068e 8 = .ok (.getfield 9, 3) := by decide +kernel
theorem dJ0_charAt_5068e_11 : decode cJ0_charAt_5068e 11 = .ok (.iload_n 1, 1) := by decide +kernel
theorem dJ0_charAt_5068e_12 : decode cJ0_charAt_5068e 12 = .ok (.invokestatic 495, 3) := by decide +kernel
theorem dJ0_charAt_5068e_15 : decode cJ0_charAt_5068e 15 = .ok (.ireturn, 1) := by decide +kernel
theorem dJ0_charAt_5068e_16 : decode cJ0_charAt_5068e 16 = .ok (.aload_n 0, 1) := by decide +kernel
theorem dJ0_charAt_5068e_17 : decode cJ0_charAt_5068e 17 = .ok (.getfield 9, 3) := by decide +kernel
theorem dJ0_charAt_5068e_20 : decode cJ0_charAt_5068e 20 = .ok (.iload_n 1, 1) := by decide +kernel
theorem dJ0_charAt_5068e_21 : decode cJ0_charAt_5068e 21 = .ok (.invokestatic 498, 3) := by decide +kernel
theorem dJ0_charAt_5068e_24 : decode cJ0_charAt_5068e 24 = .ok (.ireturn, 1) := by decide +kernel
theorem dJ0_indexOf_0f7a4_0 : decode cJ0_indexOf_0f7a4 0 = .ok (.aload_n 0, 1) := by decide +kernel
theorem dJ0_indexOf_0f7a4_1 : decode cJ0_indexOf_0f7a4 1 = .ok (.iload_n 1, 1) := by decide +kernel
theorem dJ0_indexOf_0f7a4_2 : decode cJ0_indexOf_0f7a4 2 = .ok (.iconst 0, 1) := by decide +kernel
theorem dJ0_indexOf_0f7a4_3 : decode cJ0_indexOf_0f7a4 3 = .ok (.invokevirtual 633, 3) := by decide +kernel
theorem dJ0_indexOf_0f7a4_6 : decode cJ0_indexOf_0f7a4 6 = .ok (.ireturn, 1) := by decide +kernel
theorem dJ0_indexOf_7cf53_0 : decode cJ0_indexOf_7cf53 0 = .ok (.aload_n 0, 1) := by decide +kernel
theorem dJ0_indexOf_7cf53_1 : decode cJ0_indexOf_7cf53 1 = .ok (.invokevirtual 492, 3) := by decide +kernel
theorem dJ0_indexOf_7cf53_4 : decode cJ0_indexOf_7cf53 4 = .ok (.ifCond .eq 19, 3) := by decide +kernel
theorem dJ0_indexOf_7cf53_7 : decode cJ0_indexOf_7cf53 7 = .ok (.aload_n 0, 1) := by decide +kernel
theorem dJ0_indexOf_7cf53_8 : decode cJ0_indexOf_7cf53 8 = .ok (.getfield 9, 3) := by decide +kernel
theorem dJ0_indexOf_7cf53_11 : decode cJ0_indexOf_7cf53 11 = .ok (.iload_n 1, 1) := by decide +kernel
theorem dJ0_indexOf_7cf53_12 : decode cJ0_indexOf_7cf53 12 = .ok (.iload_n 2, 1) := by decide +kernel
theorem dJ0_indexOf_7cf53_13 : decode cJ0_indexOf_7cf53 13 = .ok (.aload_n 0, 1) := by decide +kernel
theorem dJ0_indexOf_7cf53_14 : decode cJ0_indexOf_7cf53 14 = .ok (.invokevirtual 505, 3) := by decide +kernel
theorem dJ0_indexOf_7cf53_17 : decode cJ0_indexOf_7cf53 17 = .ok (.invokestatic 637, 3) := by decide +kernel
theorem dJ0_indexOf_7cf53_20 : decode cJ0_indexOf_7cf53 20 = .ok (.goto 16, 3) := by decide +kernel
theorem dJ0_indexOf_7cf53_23 : decode cJ0_indexOf_7cf53 23 = .ok (.aload_n 0, 1) := by decide +kernel
theorem dJ0_indexOf_7cf53_24 : decode cJ0_indexOf_7cf53 24 = .ok (.getfield 9, 3) := by decide +kernel
theorem dJ0_indexOf_7cf53_27 : decode cJ0_indexOf_7cf53 27 = .ok (.iload_n 1, 1) := by decide +kernel
theorem dJ0_indexOf_7cf53_28 : decode cJ0_indexOf_7cf53 28 = .ok (.iload_n 2, 1) := by decide +kernel
theorem dJ0_indexOf_7cf53_29 : decode cJ0_indexOf_7cf53 29 = .ok (.aload_n 0, 1) := by decide +kernel
theorem dJ0_indexOf_7cf53_30 : decode cJ0_indexOf_7cf53 30 = .ok (.invokevirtual 505, 3) := by decide +kernel
theorem dJ0_indexOf_7cf53_33 : decode cJ0_indexOf_7cf53 33 = .ok (.invokestatic 640, 3) := by decide +kernel
theorem dJ0_indexOf_7cf53_36 : decode cJ0_indexOf_7cf53 36 = .ok (.ireturn, 1) := by decide +kernel
theorem dJ0_coder_7d493_0 : decode cJ0_coder_7d493 0 = .ok (.getstatic 38, 3) := by decide +kernel
theorem dJ0_coder_7d493_3 : decode cJ0_coder_7d493 3 = .ok (.ifCond .eq 10, 3) := by decide +kernel
theorem dJ0_coder_7d493_6 : decode cJ0_coder_7d493 6 = .ok (.aload_n 0, 1) := by decide +kernel
theorem dJ0_coder_7d493_7 : decode cJ0_coder_7d493 7 = .ok (.getfield 15, 3) := by decide +kernel
theorem dJ0_coder_7d493_10 : decode cJ0_coder_7d493 10 = .ok (.goto 4, 3) := by decide +kernel
theorem dJ0_coder_7d493_13 : decode cJ0_coder_7d493 13 = .ok (.iconst 1, 1) := by decide +kernel
theorem dJ0_coder_7d493_14 : decode cJ0_coder_7d493 14 = .ok (.ireturn, 1) := by decide +kernel
theorem dJ0_isLatin1_aae02_0 : decode cJ0_isLatin1_aae02 0 = .ok (.getstatic 38, 3) := by decide +kernel
theorem dJ0_isLatin1_aae02_3 : decode cJ0_isLatin1_aae02 3 = .ok (.ifCond .eq 14, 3) := by decide +kernel
theorem dJ0_isLatin1_aae02_6 : decode cJ0_isLatin1_aae02 6 = .ok (.aload_n 0, 1) := by decide +kernel
theorem dJ0_isLatin1_aae02_7 : decode cJ0_isLatin1_aae02 7 = .ok (.getfield 15, 3) := by decide +kernel
theorem dJ0_isLatin1_aae02_10 : decode cJ0_isLatin1_aae02 10 = .ok (.ifCond .ne 7, 3) := by decide +kernel
theorem dJ0_isLatin1_aae02_13 : decode cJ0_isLatin1_aae02 13 = .ok (.iconst 1, 1) := by decide +kernel
theorem dJ0_isLatin1_aae02_14 : decode cJ0_isLatin1_aae02 14 = .ok (.goto 4, 3) := by decide +kernel
theorem dJ0_isLatin1_aae02_17 : decode cJ0_isLatin1_aae02 17 = .ok (.iconst 0, 1) := by decide +kernel
theorem dJ0_isLatin1_aae02_18 : decode cJ0_isLatin1_aae02 18 = .ok (.ireturn, 1) := by decide +kernel
theorem dJ0_checkIndex_df160_0 : decode cJ0_checkIndex_df160 0 = .ok (.iload_n 0, 1) := by decide +kernel
theorem dJ0_checkIndex_df160_1 : decode cJ0_checkIndex_df160 1 = .ok (.iload_n 1, 1) := by decide +kernel
theorem dJ0_checkIndex_df160_2 : decode cJ0_checkIndex_df160 2 = .ok (.getstatic 1053, 3) := by decide +kernel
theorem dJ0_checkIndex_df160_5 : decode cJ0_checkIndex_df160 5 = .ok (.invokestatic 1059, 3) := by decide +kernel
theorem dJ0_checkIndex_df160_8 : decode cJ0_checkIndex_df160 8 = .ok (.pop, 1) := by decide +kernel
theorem dJ0_checkIndex_df160_9 : decode cJ0_checkIndex_df160 9 = .ok (.return_, 1) := by decide +kernel
theorem dJ0_checkBoundsBeginEnd_23922_0 : decode cJ0_checkBoundsBeginEnd_23922 0 = .ok (.iload_n 0, 1) := by decide +kernel
theorem dJ0_checkBoundsBeginEnd_23922_1 : decode cJ0_checkBoundsBeginEnd_23922 1 = .ok (.iload_n 1, 1) := by decide +kernel
theorem dJ0_checkBoundsBeginEnd_23922_2 : decode cJ0_checkBoundsBeginEnd_23922 2 = .ok (.iload_n 2, 1) := by decide +kernel
theorem dJ0_checkBoundsBeginEnd_23922_3 : decode cJ0_checkBoundsBeginEnd_23922 3 = .ok (.getstatic 1053, 3) := by decide +kernel
theorem dJ0_checkBoundsBeginEnd_23922_6 : decode cJ0_checkBoundsBeginEnd_23922 6 = .ok (.invokestatic 1062, 3) := by decide +kernel
theorem dJ0_checkBoundsBeginEnd_23922_9 : decode cJ0_checkBoundsBeginEnd_23922 9 = .ok (.pop, 1) := by decide +kernel
theorem dJ0_checkBoundsBeginEnd_23922_10 : decode cJ0_checkBoundsBeginEnd_23922 10 = .ok (.return_, 1) := by decide +kernel
theorem dJ1_charAt_3b067_0 : decode cJ1_charAt_3b067 0 = .ok (.iload_n 1, 1) := by decide +kernel
theorem dJ1_charAt_3b067_1 : decode cJ1_charAt_3b067 1 = .ok (.aload_n 0, 1) := by decide +kernel
theorem dJ1_charAt_3b067_2 : decode cJ1_charAt_3b067 2 = .ok (.arraylength, 1) := by decide +kernel
theorem dJ1_charAt_3b067_3 : decode cJ1_charAt_3b067 3 = .ok (.invokestatic 9, 3) := by decide +kernel
theorem dJ1_charAt_3b067_6 : decode cJ1_charAt_3b067 6 = .ok (.aload_n 0, 1) := by decide +kernel
theorem dJ1_charAt_3b067_7 : decode cJ1_charAt_3b067 7 = .ok (.iload_n 1, 1) := by decide +kernel
theorem dJ1_charAt_3b067_8 : decode cJ1_charAt_3b067 8 = .ok (.baload, 1) := by decide +kernel
theorem dJ1_charAt_3b067_9 : decode cJ1_charAt_3b067 9 = .ok (.sipush 255, 3) := by decide +kernel
theorem dJ1_charAt_3b067_12 : decode cJ1_charAt_3b067 12 = .ok (.iand, 1) := by decide +kernel
theorem dJ1_charAt_3b067_13 : decode cJ1_charAt_3b067 13 = .ok (.i2c, 1) := by decide +kernel
theorem dJ1_charAt_3b067_14 : decode cJ1_charAt_3b067 14 = .ok (.ireturn, 1) := by decide +kernel
theorem dJ1_canEncode_9a6ad_0 : decode cJ1_canEncode_9a6ad 0 = .ok (.iload_n 0, 1) := by decide +kernel
theorem dJ1_canEncode_9a6ad_1 : decode cJ1_canEncode_9a6ad 1 = .ok (.ifCond .lt 14, 3) := by decide +kernel
theorem dJ1_canEncode_9a6ad_4 : decode cJ1_canEncode_9a6ad 4 = .ok (.iload_n 0, 1) := by decide +kernel
theorem dJ1_canEncode_9a6ad_5 : decode cJ1_canEncode_9a6ad 5 = .ok (.sipush 255, 3) := by decide +kernel
theorem dJ1_canEncode_9a6ad_8 : decode cJ1_canEncode_9a6ad 8 = .ok (.if_icmp .gt 7, 3) := by decide +kernel
theorem dJ1_canEncode_9a6ad_11 : decode cJ1_canEncode_9a6ad 11 = .ok (.iconst 1, 1) := by decide +kernel
theorem dJ1_canEncode_9a6ad_12 : decode cJ1_canEncode_9a6ad 12 = .ok (.goto 4, 3) := by decide +kernel
theorem dJ1_canEncode_9a6ad_15 : decode cJ1_canEncode_9a6ad 15 = .ok (.iconst 0, 1) := by decide +kernel
theorem dJ1_canEncode_9a6ad_16 : decode cJ1_canEncode_9a6ad 16 = .ok (.ireturn, 1) := by decide +kernel
theorem dJ1_indexOf_4cfef_0 : decode cJ1_indexOf_4cfef 0 = .ok (.iload_n 1, 1) := by decide +kernel
theorem dJ1_indexOf_4cfef_1 : decode cJ1_indexOf_4cfef 1 = .ok (.invokestatic 88, 3) := by decide +kernel
theorem dJ1_indexOf_4cfef_4 : decode cJ1_indexOf_4cfef 4 = .ok (.ifCond .ne 5, 3) := by decide +kernel
theorem dJ1_indexOf_4cfef_7 : decode cJ1_indexOf_4cfef 7 = .ok (.iconst (-1), 1) := by decide +kernel
theorem dJ1_indexOf_4cfef_8 : decode cJ1_indexOf_4cfef 8 = .ok (.ireturn, 1) := by decide +kernel
theorem dJ1_indexOf_4cfef_9 : decode cJ1_indexOf_4cfef 9 = .ok (.iload_n 2, 1) := by decide +kernel
theorem dJ1_indexOf_4cfef_10 : decode cJ1_indexOf_4cfef 10 = .ok (.iconst 0, 1) := by decide +kernel
theorem dJ1_indexOf_4cfef_11 : decode cJ1_indexOf_4cfef 11 = .ok (.invokestatic 92, 3) := by decide +kernel
theorem dJ1_indexOf_4cfef_14 : decode cJ1_indexOf_4cfef 14 = .ok (.istore_n 2, 1) := by decide +kernel
theorem dJ1_indexOf_4cfef_15 : decode cJ1_indexOf_4cfef 15 = .ok (.iload_n 3, 1) := by decide +kernel
theorem dJ1_indexOf_4cfef_16 : decode cJ1_indexOf_4cfef 16 = .ok (.aload_n 0, 1) := by decide +kernel
theorem dJ1_indexOf_4cfef_17 : decode cJ1_indexOf_4cfef 17 = .ok (.arraylength, 1) := by decide +kernel
theorem dJ1_indexOf_4cfef_18 : decode cJ1_indexOf_4cfef 18 = .ok (.invokestatic 38, 3) := by decide +kernel
theorem dJ1_indexOf_4cfef_21 : decode cJ1_indexOf_4cfef 21 = .ok (.istore_n 3, 1) := by decide +kernel
theorem dJ1_indexOf_4cfef_22 : decode cJ1_indexOf_4cfef 22 = .ok (.iload_n 2, 1) := by decide +kernel
theorem dJ1_indexOf_4cfef_23 : decode cJ1_indexOf_4cfef 23 = .ok (.iload_n 3, 1) := by decide +kernel
theorem dJ1_indexOf_4cfef_24 : decode cJ1_indexOf_4cfef 24 = .ok (.if_icmp .lt 5, 3) := by decide +kernel
theorem dJ1_indexOf_4cfef_27 : decode cJ1_indexOf_4cfef 27 = .ok (.iconst (-1), 1) := by decide +kernel
theorem dJ1_indexOf_4cfef_28 : decode cJ1_indexOf_4cfef 28 = .ok (.ireturn, 1) := by decide +kernel
theorem dJ1_indexOf_4cfef_29 : decode cJ1_indexOf_4cfef 29 = .ok (.aload_n 0, 1) := by decide +kernel
theorem dJ1_indexOf_4cfef_30 : decode cJ1_indexOf_4cfef 30 = .ok (.iload_n 1, 1) := by decide +kernel
theorem dJ1_indexOf_4cfef_31 : decode cJ1_indexOf_4cfef 31 = .ok (.iload_n 2, 1) := by decide +kernel
theorem dJ1_indexOf_4cfef_32 : decode cJ1_indexOf_4cfef 32 = .ok (.iload_n 3, 1) := by decide +kernel
theorem dJ1_indexOf_4cfef_33 : decode cJ1_indexOf_4cfef 33 = .ok (.invokestatic 95, 3) := by decide +kernel
theorem dJ1_indexOf_4cfef_36 : decode cJ1_indexOf_4cfef 36 = .ok (.ireturn, 1) := by decide +kernel
theorem dJ1_indexOfChar_4cfef_0 : decode cJ1_indexOfChar_4cfef 0 = .ok (.iload_n 1, 1) := by decide +kernel
theorem dJ1_indexOfChar_4cfef_1 : decode cJ1_indexOfChar_4cfef 1 = .ok (.i2b, 1) := by decide +kernel
theorem dJ1_indexOfChar_4cfef_2 : decode cJ1_indexOfChar_4cfef 2 = .ok (.istore 4, 2) := by decide +kernel
theorem dJ1_indexOfChar_4cfef_4 : decode cJ1_indexOfChar_4cfef 4 = .ok (.iload_n 2, 1) := by decide +kernel
theorem dJ1_indexOfChar_4cfef_5 : decode cJ1_indexOfChar_4cfef 5 = .ok (.istore 5, 2) := by decide +kernel
theorem dJ1_indexOfChar_4cfef_7 : decode cJ1_indexOfChar_4cfef 7 = .ok (.iload 5, 2) := by decide +kernel
theorem dJ1_indexOfChar_4cfef_9 : decode cJ1_indexOfChar_4cfef 9 = .ok (.iload_n 3, 1) := by decide +kernel
theorem dJ1_indexOfChar_4cfef_10 : decode cJ1_indexOfChar_4cfef 10 = .ok (.if_icmp .ge 21, 3) := by decide +kernel
theorem dJ1_indexOfChar_4cfef_13 : decode cJ1_indexOfChar_4cfef 13 = .ok (.aload_n 0, 1) := by decide +kernel
theorem dJ1_indexOfChar_4cfef_14 : decode cJ1_indexOfChar_4cfef 14 = .ok (.iload 5, 2) := by decide +kernel
theorem dJ1_indexOfChar_4cfef_16 : decode cJ1_indexOfChar_4cfef 16 = .ok (.baload, 1) := by decide +kernel
theorem dJ1_indexOfChar_4cfef_17 : decode cJ1_indexOfChar_4cfef 17 = .ok (.iload 4, 2) := by decide +kernel
theorem dJ1_indexOfChar_4cfef_19 : decode cJ1_indexOfChar_4cfef 19 = .ok (.if_icmp .ne 6, 3) := by decide +kernel
theorem dJ1_indexOfChar_4cfef_22 : decode cJ1_indexOfChar_4cfef 22 = .ok (.iload 5, 2) := by decide +kernel
theorem dJ1_indexOfChar_4cfef_24 : decode cJ1_indexOfChar_4cfef 24 = .ok (.ireturn, 1) := by decide +kernel
theorem dJ1_indexOfChar_4cfef_25 : decode cJ1_indexOfChar_4cfef 25 = .ok (.iinc 5 1, 3) := by decide +kernel
theorem dJ1_indexOfChar_4cfef_28 : decode cJ1_indexOfChar_4cfef 28 = .ok (.goto (-21), 3) := by decide +kernel
theorem dJ1_indexOfChar_4cfef_31 : decode cJ1_indexOfChar_4cfef 31 = .ok (.iconst (-1), 1) := by decide +kernel
theorem dJ1_indexOfChar_4cfef_32 : decode cJ1_indexOfChar_4cfef 32 = .ok (.ireturn, 1) := by decide +kernel
theorem dJ2_getChar_3b067_0 : decode cJ2_getChar_3b067 0 = .ok (.getstatic 44, 3) := by decide +kernel
theorem dJ2_getChar_3b067_3 : decode cJ2_getChar_3b067 3 = .ok (.ifCond .ne 25, 3) := by decide +kernel
theorem dJ2_getChar_3b067_6 : decode cJ2_getChar_3b067 6 = .ok (.iload_n 1, 1) := by decide +kernel
theorem dJ2_getChar_3b067_7 : decode cJ2_getChar_3b067 7 = .ok (.ifCond .lt 11, 3) := by decide +kernel
theorem dJ2_getChar_3b067_10 : decode cJ2_getChar_3b067 10 = .ok (.iload_n 1, 1) := by decide +kernel
theorem dJ2_getChar_3b067_11 : decode cJ2_getChar_3b067 11 = .ok (.aload_n 0, 1) := by decide +kernel
theorem dJ2_getChar_3b067_12 : decode cJ2_getChar_3b067 12 = .ok (.invokestatic 48, 3) := by decide +kernel
theorem dJ2_getChar_3b067_15 : decode cJ2_getChar_3b067 15 = .ok (.if_icmp .lt 13, 3) := by decide +kernel
theorem dJ2_getChar_3b067_18 : decode cJ2_getChar_3b067 18 = .ok (.new 52, 3) := by decide +kernel
theorem dJ2_getChar_3b067_21 : decode cJ2_getChar_3b067 21 = .ok (.dup, 1) := by decide +kernel
theorem dJ2_getChar_3b067_22 : decode cJ2_getChar_3b067 22 = .ok (.ldc 54, 2) := by decide +kernel
theorem dJ2_getChar_3b067_24 : decode cJ2_getChar_3b067 24 = .ok (.invokespecial 56, 3) := by decide +kernel
theorem dJ2_getChar_3b067_27 : decode cJ2_getChar_3b067 27 = .ok (.athrow, 1) := by decide +kernel
theorem dJ2_getChar_3b067_28 : decode cJ2_getChar_3b067 28 = .ok (.iload_n 1, 1) := by decide +kernel
theorem dJ2_getChar_3b067_29 : decode cJ2_getChar_3b067 29 = .ok (.iconst 1, 1) := by decide +kernel
theorem dJ2_getChar_3b067_30 : decode cJ2_getChar_3b067 30 = .ok (.ishl, 1) := by decide +kernel
theorem dJ2_getChar_3b067_31 : decode cJ2_getChar_3b067 31 = .ok (.istore_n 1, 1) := by decide +kernel
theorem dJ2_getChar_3b067_32 : decode cJ2_getChar_3b067 32 = .ok (.aload_n 0, 1) := by decide +kernel
theorem dJ2_getChar_3b067_33 : decode cJ2_getChar_3b067 33 = .ok (.iload_n 1, 1) := by decide +kernel
theorem dJ2_getChar_3b067_34 : decode cJ2_getChar_3b067 34 = .ok (.iinc 1 1, 3) := by decide +kernel
theorem dJ2_getChar_3b067_37 : decode cJ2_getChar_3b067 37 = .ok (.baload, 1) := by decide +kernel
theorem dJ2_getChar_3b067_38 : decode cJ2_getChar_3b067 38 = .ok (.sipush 255, 3) := by decide +kernel
theorem dJ2_getChar_3b067_41 : decode cJ2_getChar_3b067 41 = .ok (.iand, 1) := by decide +kernel
theorem dJ2_getChar_3b067_42 : decode cJ2_getChar_3b067 42 = .ok (.getstatic 59, 3) := by decide +kernel
theorem dJ2_getChar_3b067_45 : decode cJ2_getChar_3b067 45 = .ok (.ishl, 1) := by decide +kernel
theorem dJ2_getChar_3b067_46 : decode cJ2_getChar_3b067 46 = .ok (.aload_n 0, 1) := by decide +kernel
theorem dJ2_getChar_3b067_47 : decode cJ2_getChar_3b067 47 = .ok (.iload_n 1, 1) := by decide +kernel
theorem dJ2_getChar_3b067_48 : decode cJ2_getChar_3b067 48 = .ok (.baload, 1) := by decide +kernel
theorem dJ2_getChar_3b067_49 : decode cJ2_getChar_3b067 49 = .ok (.sipush 255, 3) := by decide +kernel
theorem dJ2_getChar_3b067_52 : decode cJ2_getChar_3b067 52 = .ok (.iand, 1) := by decide +kernel
theorem dJ2_getChar_3b067_53 : decode cJ2_getChar_3b067 53 = .ok (.getstatic 63, 3) := by decide +kernel
theorem dJ2_getChar_3b067_56 : decode cJ2_getChar_3b067 56 = .ok (.ishl, 1) := by decide +kernel
theorem dJ2_getChar_3b067_57 : decode cJ2_getChar_3b067 57 = .ok (.ior, 1) := by decide +kernel
theorem dJ2_getChar_3b067_58 : decode cJ2_getChar_3b067 58 = .ok (.i2c, 1) := by decide +kernel
theorem dJ2_getChar_3b067_59 : decode cJ2_getChar_3b067 59 = .ok (.ireturn, 1) := by decide +kernel
theorem dJ2_length_9d52b_0 : decode cJ2_length_9d52b 0 = .ok (.aload_n 0, 1) := by decide +kernel
theorem dJ2_length_9d52b_1 : decode cJ2_length_9d52b 1 = .ok (.arraylength, 1) := by decide +kernel
theorem dJ2_length_9d52b_2 : decode cJ2_length_9d52b 2 = .ok (.iconst 1, 1) := by decide +kernel
theorem dJ2_length_9d52b_3 : decode cJ2_length_9d52b 3 = .ok (.ishr, 1) := by decide +kernel
theorem dJ2_length_9d52b_4 : decode cJ2_length_9d52b 4 = .ok (.ireturn, 1) := by decide +kernel
theorem dJ2_indexOf_4cfef_0 : decode cJ2_indexOf_4cfef 0 = .ok (.iload_n 2, 1) := by decide +kernel
theorem dJ2_indexOf_4cfef_1 : decode cJ2_indexOf_4cfef 1 = .ok (.iconst 0, 1) := by decide +kernel
theorem dJ2_indexOf_4cfef_2 : decode cJ2_indexOf_4cfef 2 = .ok (.invokestatic 224, 3) := by decide +kernel
theorem dJ2_indexOf_4cfef_5 : decode cJ2_indexOf_4cfef 5 = .ok (.istore_n 2, 1) := by decide +kernel
theorem dJ2_indexOf_4cfef_6 : decode cJ2_indexOf_4cfef 6 = .ok (.iload_n 3, 1) := by decide +kernel
theorem dJ2_indexOf_4cfef_7 : decode cJ2_indexOf_4cfef 7 = .ok (.aload_n 0, 1) := by decide +kernel
theorem dJ2_indexOf_4cfef_8 : decode cJ2_indexOf_4cfef 8 = .ok (.arraylength, 1) := by decide +kernel
theorem dJ2_indexOf_4cfef_9 : decode cJ2_indexOf_4cfef 9 = .ok (.iconst 1, 1) := by decide +kernel
theorem dJ2_indexOf_4cfef_10 : decode cJ2_indexOf_4cfef 10 = .ok (.ishr, 1) := by decide +kernel
theorem dJ2_indexOf_4cfef_11 : decode cJ2_indexOf_4cfef 11 = .ok (.invokestatic 183, 3) := by decide +kernel
theorem dJ2_indexOf_4cfef_14 : decode cJ2_indexOf_4cfef 14 = .ok (.istore_n 3, 1) := by decide +kernel
theorem dJ2_indexOf_4cfef_15 : decode cJ2_indexOf_4cfef 15 = .ok (.iload_n 2, 1) := by decide +kernel
theorem dJ2_indexOf_4cfef_16 : decode cJ2_indexOf_4cfef 16 = .ok (.iload_n 3, 1) := by decide +kernel
theorem dJ2_indexOf_4cfef_17 : decode cJ2_indexOf_4cfef 17 = .ok (.if_icmp .lt 5, 3) := by decide +kernel
theorem dJ2_indexOf_4cfef_20 : decode cJ2_indexOf_4cfef 20 = .ok (.iconst (-1), 1) := by decide +kernel
theorem dJ2_indexOf_4cfef_21 : decode cJ2_indexOf_4cfef 21 = .ok (.ireturn, 1) := by decide +kernel
theorem dJ2_indexOf_4cfef_22 : decode cJ2_indexOf_4cfef 22 = .ok (.iload_n 1, 1) := by decide +kernel
theorem dJ2_indexOf_4cfef_23 : decode cJ2_indexOf_4cfef 23 = .ok (.ldc 227, 2) := by decide +kernel
theorem dJ2_indexOf_4cfef_25 : decode cJ2_indexOf_4cfef 25 = .ok (.if_icmp .ge 11, 3) := by decide +kernel
theorem dJ2_indexOf_4cfef_28 : decode cJ2_indexOf_4cfef 28 = .ok (.aload_n 0, 1) := by decide +kernel
theorem dJ2_indexOf_4cfef_29 : decode cJ2_indexOf_4cfef 29 = .ok (.iload_n 1, 1) := by decide +kernel
theorem dJ2_indexOf_4cfef_30 : decode cJ2_indexOf_4cfef 30 = .ok (.iload_n 2, 1) := by decide +kernel
theorem dJ2_indexOf_4cfef_31 : decode cJ2_indexOf_4cfef 31 = .ok (.iload_n 3, 1) := by decide +kernel
theorem dJ2_indexOf_4cfef_32 : decode cJ2_indexOf_4cfef 32 = .ok (.invokestatic 228, 3) := by decide +kernel
theorem dJ2_indexOf_4cfef_35 : decode cJ2_indexOf_4cfef 35 = .ok (.ireturn, 1) := by decide +kernel
theorem dJ2_indexOf_4cfef_36 : decode cJ2_indexOf_4cfef 36 = .ok (.aload_n 0, 1) := by decide +kernel
theorem dJ2_indexOf_4cfef_37 : decode cJ2_indexOf_4cfef 37 = .ok (.iload_n 1, 1) := by decide +kernel
theorem dJ2_indexOf_4cfef_38 : decode cJ2_indexOf_4cfef 38 = .ok (.iload_n 2, 1) := by decide +kernel
theorem dJ2_indexOf_4cfef_39 : decode cJ2_indexOf_4cfef 39 = .ok (.iload_n 3, 1) := by decide +kernel
theorem dJ2_indexOf_4cfef_40 : decode cJ2_indexOf_4cfef 40 = .ok (.invokestatic 232, 3) := by decide +kernel
theorem dJ2_indexOf_4cfef_43 : decode cJ2_indexOf_4cfef 43 = .ok (.ireturn, 1) := by decide +kernel
theorem dJ2_indexOfChar_4cfef_0 : decode cJ2_indexOfChar_4cfef 0 = .ok (.iload_n 2, 1) := by decide +kernel
theorem dJ2_indexOfChar_4cfef_1 : decode cJ2_indexOfChar_4cfef 1 = .ok (.iload_n 3, 1) := by decide +kernel
theorem dJ2_indexOfChar_4cfef_2 : decode cJ2_indexOfChar_4cfef 2 = .ok (.aload_n 0, 1) := by decide +kernel
theorem dJ2_indexOfChar_4cfef_3 : decode cJ2_indexOfChar_4cfef 3 = .ok (.invokestatic 96, 3) := by decide +kernel
theorem dJ2_indexOfChar_4cfef_6 : decode cJ2_indexOfChar_4cfef 6 = .ok (.aload_n 0, 1) := by decide +kernel
theorem dJ2_indexOfChar_4cfef_7 : decode cJ2_indexOfChar_4cfef 7 = .ok (.iload_n 1, 1) := by decide +kernel
theorem dJ2_indexOfChar_4cfef_8 : decode cJ2_indexOfChar_4cfef 8 = .ok (.iload_n 2, 1) := by decide +kernel
theorem dJ2_indexOfChar_4cfef_9 : decode cJ2_indexOfChar_4cfef 9 = .ok (.iload_n 3, 1) := by decide +kernel
theorem dJ2_indexOfChar_4cfef_10 : decode cJ2_indexOfChar_4cfef 10 = .ok (.invokestatic 244, 3) := by decide +kernel
theorem dJ2_indexOfChar_4cfef_13 : decode cJ2_indexOfChar_4cfef 13 = .ok (.ireturn, 1) := by decide +kernel
theorem dJ2_indexOfCharUnsafe_4cfef_0 : decode cJ2_indexOfCharUnsafe_4cfef 0 = .ok (.iload_n 2, 1) := by decide +kernel
theorem dJ2_indexOfCharUnsafe_4cfef_1 : decode cJ2_indexOfCharUnsafe_4cfef 1 = .ok (.istore 4, 2) := by decide +kernel
theorem dJ2_indexOfCharUnsafe_4cfef_3 : decode cJ2_indexOfCharUnsafe_4cfef 3 = .ok (.iload 4, 2) := by decide +kernel
theorem dJ2_indexOfCharUnsafe_4cfef_5 : decode cJ2_indexOfCharUnsafe_4cfef 5 = .ok (.iload_n 3, 1) := by decide +kernel
theorem dJ2_indexOfCharUnsafe_4cfef_6 : decode cJ2_indexOfCharUnsafe_4cfef 6 = .ok (.if_icmp .ge 22, 3) := by decide +kernel
theorem dJ2_indexOfCharUnsafe_4cfef_9 : decode cJ2_indexOfCharUnsafe_4cfef 9 = .ok (.aload_n 0, 1) := by decide +kernel
theorem dJ2_indexOfCharUnsafe_4cfef_10 : decode cJ2_indexOfCharUnsafe_4cfef 10 = .ok (.iload 4, 2) := by decide +kernel
theorem dJ2_indexOfCharUnsafe_4cfef_12 : decode cJ2_indexOfCharUnsafe_4cfef 12 = .ok (.invokestatic 71, 3) := by decide +kernel
theorem dJ2_indexOfCharUnsafe_4cfef_15 : decode cJ2_indexOfCharUnsafe_4cfef 15 = .ok (.iload_n 1, 1) := by decide +kernel
theorem dJ2_indexOfCharUnsafe_4cfef_16 : decode cJ2_indexOfCharUnsafe_4cfef 16 = .ok (.if_icmp .ne 6, 3) := by decide +kernel
theorem dJ2_indexOfCharUnsafe_4cfef_19 : decode cJ2_indexOfCharUnsafe_4cfef 19 = .ok (.iload 4, 2) := by decide +kernel
theorem dJ2_indexOfCharUnsafe_4cfef_21 : decode cJ2_indexOfCharUnsafe_4cfef 21 = .ok (.ireturn, 1) := by decide +kernel
theorem dJ2_indexOfCharUnsafe_4cfef_22 : decode cJ2_indexOfCharUnsafe_4cfef 22 = .ok (.iinc 4 1, 3) := by decide +kernel
theorem dJ2_indexOfCharUnsafe_4cfef_25 : decode cJ2_indexOfCharUnsafe_4cfef 25 = .ok (.goto (-22), 3) := by decide +kernel
theorem dJ2_indexOfCharUnsafe_4cfef_28 : decode cJ2_indexOfCharUnsafe_4cfef 28 = .ok (.iconst (-1), 1) := by decide +kernel
theorem dJ2_indexOfCharUnsafe_4cfef_29 : decode cJ2_indexOfCharUnsafe_4cfef 29 = .ok (.ireturn, 1) := by decide +kernel
theorem dJ2_indexOfSupplementary_4cfef_0 : decode cJ2_indexOfSupplementary_4cfef 0 = .ok (.iload_n 1, 1) := by decide +kernel
theorem dJ2_indexOfSupplementary_4cfef_1 : decode cJ2_indexOfSupplementary_4cfef 1 = .ok (.invokestatic 164, 3) := by decide +kernel
theorem dJ2_indexOfSupplementary_4cfef_4 : decode cJ2_indexOfSupplementary_4cfef 4 = .ok (.ifCond .eq 65, 3) := by decide +kernel
theorem dJ2_indexOfSupplementary_4cfef_7 : decode cJ2_indexOfSupplementary_4cfef 7 = .ok (.iload_n 1, 1) := by decide +kernel
theorem dJ2_indexOfSupplementary_4cfef_8 : decode cJ2_indexOfSupplementary_4cfef 8 = .ok (.invokestatic 157, 3) := by decide +kernel
theorem dJ2_indexOfSupplementary_4cfef_11 : decode cJ2_indexOfSupplementary_4cfef 11 = .ok (.istore 4, 2) := by decide +kernel
theorem dJ2_indexOfSupplementary_4cfef_13 : decode cJ2_indexOfSupplementary_4cfef 13 = .ok (.iload_n 1, 1) := by decide +kernel
theorem dJ2_indexOfSupplementary_4cfef_14 : decode cJ2_indexOfSupplementary_4cfef 14 = .ok (.invokestatic 161, 3) := by decide +kernel
theorem dJ2_indexOfSupplementary_4cfef_17 : decode cJ2_indexOfSupplementary_4cfef 17 = .ok (.istore 5, 2) := by decide +kernel
theorem dJ2_indexOfSupplementary_4cfef_19 : decode cJ2_indexOfSupplementary_4cfef 19 = .ok (.iload_n 2, 1) := by decide +kernel
theorem dJ2_indexOfSupplementary_4cfef_20 : decode cJ2_indexOfSupplementary_4cfef 20 = .ok (.iload_n 3, 1) := by decide +kernel
theorem dJ2_indexOfSupplementary_4cfef_21 : decode cJ2_indexOfSupplementary_4cfef 21 = .ok (.aload_n 0, 1) := by decide +kernel
theorem dJ2_indexOfSupplementary_4cfef_22 : decode cJ2_indexOfSupplementary_4cfef 22 = .ok (.invokestatic 96, 3) := by decide +kernel
theorem dJ2_indexOfSupplementary_4cfef_25 : decode cJ2_indexOfSupplementary_4cfef 25 = .ok (.iload_n 2, 1) := by decide +kernel
theorem dJ2_indexOfSupplementary_4cfef_26 : decode cJ2_indexOfSupplementary_4cfef 26 = .ok (.istore 6, 2) := by decide +kernel
theorem dJ2_indexOfSupplementary_4cfef_28 : decode cJ2_indexOfSupplementary_4cfef 28 = .ok (.iload 6, 2) := by decide +kernel
theorem dJ2_indexOfSupplementary_4cfef_30 : decode cJ2_indexOfSupplementary_4cfef 30 = .ok (.iload_n 3, 1) := by decide +kernel
theorem dJ2_indexOfSupplementary_4cfef_31 : decode cJ2_indexOfSupplementary_4cfef 31 = .ok (.iconst 1, 1) := by decide +kernel
theorem dJ2_indexOfSupplementary_4cfef_32 : decode cJ2_indexOfSupplementary_4cfef 32 = .ok (.isub, 1) := by decide +kernel
theorem dJ2_indexOfSupplementary_4cfef_33 : decode cJ2_indexOfSupplementary_4cfef 33 = .ok (.if_icmp .ge 36, 3) := by decide +kernel
theorem dJ2_indexOfSupplementary_4cfef_36 : decode cJ2_indexOfSupplementary_4cfef 36 = .ok (.aload_n 0, 1) := by decide +kernel
theorem dJ2_indexOfSupplementary_4cfef_37 : decode cJ2_indexOfSupplementary_4cfef 37 = .ok (.iload 6, 2) := by decide +kernel
theorem dJ2_indexOfSupplementary_4cfef_39 : decode cJ2_indexOfSupplementary_4cfef 39 = .ok (.invokestatic 71, 3) := by decide +kernel
theorem dJ2_indexOfSupplementary_4cfef_42 : decode cJ2_indexOfSupplementary_4cfef 42 = .ok (.iload 4, 2) := by decide +kernel
theorem dJ2_indexOfSupplementary_4cfef_44 : decode cJ2_indexOfSupplementary_4cfef 44 = .ok (.if_icmp .ne 19, 3) := by decide +kernel
theorem dJ2_indexOfSupplementary_4cfef_47 : decode cJ2_indexOfSupplementary_4cfef 47 = .ok (.aload_n 0, 1) := by decide +kernel
theorem dJ2_indexOfSupplementary_4cfef_48 : decode cJ2_indexOfSupplementary_4cfef 48 = .ok (.iload 6, 2) := by decide +kernel
theorem dJ2_indexOfSupplementary_4cfef_50 : decode cJ2_indexOfSupplementary_4cfef 50 = .ok (.iconst 1, 1) := by decide +kernel
theorem dJ2_indexOfSupplementary_4cfef_51 : decode cJ2_indexOfSupplementary_4cfef 51 = .ok (.iadd, 1) := by decide +kernel
theorem dJ2_indexOfSupplementary_4cfef_52 : decode cJ2_indexOfSupplementary_4cfef 52 = .ok (.invokestatic 71, 3) := by decide +kernel
theorem dJ2_indexOfSupplementary_4cfef_55 : decode cJ2_indexOfSupplementary_4cfef 55 = .ok (.iload 5, 2) := by decide +kernel
theorem dJ2_indexOfSupplementary_4cfef_57 : decode cJ2_indexOfSupplementary_4cfef 57 = .ok (.if_icmp .ne 6, 3) := by decide +kernel
theorem dJ2_indexOfSupplementary_4cfef_60 : decode cJ2_indexOfSupplementary_4cfef 60 = .ok (.iload 6, 2) := by decide +kernel
theorem dJ2_indexOfSupplementary_4cfef_62 : decode cJ2_indexOfSupplementary_4cfef 62 = .ok (.ireturn, 1) := by decide +kernel
theorem dJ2_indexOfSupplementary_4cfef_63 : decode cJ2_indexOfSupplementary_4cfef 63 = .ok (.iinc 6 1, 3) := by decide +kernel
theorem dJ2_indexOfSupplementary_4cfef_66 : decode cJ2_indexOfSupplementary_4cfef 66 = .ok (.goto (-38), 3) := by decide +kernel
theorem dJ2_indexOfSupplementary_4cfef_69 : decode cJ2_indexOfSupplementary_4cfef 69 = .ok (.iconst (-1), 1) := by decide +kernel
theorem dJ2_indexOfSupplementary_4cfef_70 : decode cJ2_indexOfSupplementary_4cfef 70 = .ok (.ireturn, 1) := by decide +kernel
theorem dJ2_charAt_3b067_0 : decode cJ2_charAt_3b067 0 = .ok (.iload_n 1, 1) := by decide +kernel
theorem dJ2_charAt_3b067_1 : decode cJ2_charAt_3b067 1 = .ok (.aload_n 0, 1) := by decide +kernel
theorem dJ2_charAt_3b067_2 : decode cJ2_charAt_3b067 2 = .ok (.invokestatic 67, 3) := by decide +kernel
theorem dJ2_charAt_3b067_5 : decode cJ2_charAt_3b067 5 = .ok (.aload_n 0, 1) := by decide +kernel
theorem dJ2_charAt_3b067_6 : decode cJ2_charAt_3b067 6 = .ok (.iload_n 1, 1) := by decide +kernel
theorem dJ2_charAt_3b067_7 : decode cJ2_charAt_3b067 7 = .ok (.invokestatic 71, 3) := by decide +kernel
theorem dJ2_charAt_3b067_10 : decode cJ2_charAt_3b067 10 = .ok (.ireturn, 1) := by decide +kernel
theorem dJ2_checkIndex_2214a_0 : decode cJ2_checkIndex_2214a 0 = .ok (.iload_n 0, 1) := by decide +kernel
theorem dJ2_checkIndex_2214a_1 : decode cJ2_checkIndex_2214a 1 = .ok (.aload_n 1, 1) := by decide +kernel
theorem dJ2_checkIndex_2214a_2 : decode cJ2_checkIndex_2214a 2 = .ok (.invokestatic 48, 3) := by decide +kernel
theorem dJ2_checkIndex_2214a_5 : decode cJ2_checkIndex_2214a 5 = .ok (.invokestatic 414, 3) := by decide +kernel
theorem dJ2_checkIndex_2214a_8 : decode cJ2_checkIndex_2214a 8 = .ok (.return_, 1) := by decide +kernel
theorem dJ2_checkBoundsBeginEnd_d044e_0 : decode cJ2_checkBoundsBeginEnd_d044e 0 = .ok (.iload_n 0, 1) := by decide +kernel
theorem dJ2_checkBoundsBeginEnd_d044e_1 : decode cJ2_checkBoundsBeginEnd_d044e 1 = .ok (.iload_n 1, 1) := by decide +kernel
theorem dJ2_checkBoundsBeginEnd_d044e_2 : decode cJ2_checkBoundsBeginEnd_d044e 2 = .ok (.aload_n 2, 1) := by decide +kernel
theorem dJ2_checkBoundsBeginEnd_d044e_3 : decode cJ2_checkBoundsBeginEnd_d044e 3 = .ok (.invokestatic 48, 3) := by decide +kernel
theorem dJ2_checkBoundsBeginEnd_d044e_6 : decode cJ2_checkBoundsBeginEnd_d044e 6 = .ok (.invokestatic 241, 3) := by decide +kernel
theorem dJ2_checkBoundsBeginEnd_d044e_9 : decode cJ2_checkBoundsBeginEnd_d044e 9 = .ok (.return_, 1) := by decide +kernel
theorem dJ7_fill_53178_0 : decode cJ7_fill_53178 0 = .ok (.iconst 0, 1) := by decide +kernel
theorem dJ7_fill_53178_1 : decode cJ7_fill_53178 1 = .ok (.istore_n 2, 1) := by decide +kernel
theorem dJ7_fill_53178_2 : decode cJ7_fill_53178 2 = .ok (.aload_n 0, 1) := by decide +kernel
theorem dJ7_fill_53178_3 : decode cJ7_fill_53178 3 = .ok (.arraylength, 1) := by decide +kernel
theorem dJ7_fill_53178_4 : decode cJ7_fill_53178 4 = .ok (.istore_n 3, 1) := by decide +kernel
theorem dJ7_fill_53178_5 : decode cJ7_fill_53178 5 = .ok (.iload_n 2, 1) := by decide +kernel
theorem dJ7_fill_53178_6 : decode cJ7_fill_53178 6 = .ok (.iload_n 3, 1) := by decide +kernel
theorem dJ7_fill_53178_7 : decode cJ7_fill_53178 7 = .ok (.if_icmp .ge 13, 3) := by decide +kernel
theorem dJ7_fill_53178_10 : decode cJ7_fill_53178 10 = .ok (.aload_n 0, 1) := by decide +kernel
theorem dJ7_fill_53178_11 : decode cJ7_fill_53178 11 = .ok (.iload_n 2, 1) := by decide +kernel
theorem dJ7_fill_53178_12 : decode cJ7_fill_53178 12 = .ok (.iload_n 1, 1) := by decide +kernel
theorem dJ7_fill_53178_13 : decode cJ7_fill_53178 13 = .ok (.iastore, 1) := by decide +kernel
theorem dJ7_fill_53178_14 : decode cJ7_fill_53178 14 = .ok (.iinc 2 1, 3) := by decide +kernel
theorem dJ7_fill_53178_17 : decode cJ7_fill_53178 17 = .ok (.goto (-12), 3) := by decide +kernel
theorem dJ7_fill_53178_20 : decode cJ7_fill_53178 20 = .ok (.return_, 1) := by decide +kernel
theorem dJ3_checkIndex_8e157_0 : decode cJ3_checkIndex_8e157 0 = .ok (.iload_n 0, 1) := by decide +kernel
theorem dJ3_checkIndex_8e157_1 : decode cJ3_checkIndex_8e157 1 = .ok (.ifCond .lt 8, 3) := by decide +kernel
theorem dJ3_checkIndex_8e157_4 : decode cJ3_checkIndex_8e157 4 = .ok (.iload_n 0, 1) := by decide +kernel
theorem dJ3_checkIndex_8e157_5 : decode cJ3_checkIndex_8e157 5 = .ok (.iload_n 1, 1) := by decide +kernel
theorem dJ3_checkIndex_8e157_6 : decode cJ3_checkIndex_8e157 6 = .ok (.if_icmp .lt 10, 3) := by decide +kernel
theorem dJ3_checkIndex_8e157_9 : decode cJ3_checkIndex_8e157 9 = .ok (.aload_n 2, 1) := by decide +kernel
theorem dJ3_checkIndex_8e157_10 : decode cJ3_checkIndex_8e157 10 = .ok (.iload_n 0, 1) := by decide +kernel
theorem dJ3_checkIndex_8e157_11 : decode cJ3_checkIndex_8e157 11 = .ok (.iload_n 1, 1) := by decide +kernel
theorem dJ3_checkIndex_8e157_12 : decode cJ3_checkIndex_8e157 12 = .ok (.invokestatic 95, 3) := by decide +kernel
theorem dJ3_checkIndex_8e157_15 : decode cJ3_checkIndex_8e157 15 = .ok (.athrow, 1) := by decide +kernel
theorem dJ3_checkIndex_8e157_16 : decode cJ3_checkIndex_8e157 16 = .ok (.iload_n 0, 1) := by decide +kernel
theorem dJ3_checkIndex_8e157_17 : decode cJ3_checkIndex_8e157 17 = .ok (.ireturn, 1) := by decide +kernel
theorem dJ3_checkFromToIndex_8c36e_0 : decode cJ3_checkFromToIndex_8c36e 0 = .ok (.iload_n 0, 1) := by decide +kernel
theorem dJ3_checkFromToIndex_8c36e_1 : decode cJ3_checkFromToIndex_8c36e 1 = .ok (.ifCond .lt 13, 3) := by decide +kernel
theorem dJ3_checkFromToIndex_8c36e_4 : decode cJ3_checkFromToIndex_8c36e 4 = .ok (.iload_n 0, 1) := by decide +kernel
theorem dJ3_checkFromToIndex_8c36e_5 : decode cJ3_checkFromToIndex_8c36e 5 = .ok (.iload_n 1, 1) := by decide +kernel
theorem dJ3_checkFromToIndex_8c36e_6 : decode cJ3_checkFromToIndex_8c36e 6 = .ok (.if_icmp .gt 8, 3) := by decide +kernel
theorem dJ3_checkFromToIndex_8c36e_9 : decode cJ3_checkFromToIndex_8c36e 9 = .ok (.iload_n 1, 1) := by decide +kernel
theorem dJ3_checkFromToIndex_8c36e_10 : decode cJ3_checkFromToIndex_8c36e 10 = .ok (.iload_n 2, 1) := by decide +kernel
theorem dJ3_checkFromToIndex_8c36e_11 : decode cJ3_checkFromToIndex_8c36e 11 = .ok (.if_icmp .le 11, 3) := by decide +kernel
theorem dJ3_checkFromToIndex_8c36e_14 : decode cJ3_checkFromToIndex_8c36e 14 = .ok (.aload_n 3, 1) := by decide +kernel
theorem dJ3_checkFromToIndex_8c36e_15 : decode cJ3_checkFromToIndex_8c36e 15 = .ok (.iload_n 0, 1) := by decide +kernel
theorem dJ3_checkFromToIndex_8c36e_16 : decode cJ3_checkFromToIndex_8c36e 16 = .ok (.iload_n 1, 1) := by decide +kernel
theorem dJ3_checkFromToIndex_8c36e_17 : decode cJ3_checkFromToIndex_8c36e 17 = .ok (.iload_n 2, 1) := by decide +kernel
theorem dJ3_checkFromToIndex_8c36e_18 : decode cJ3_checkFromToIndex_8c36e 18 = .ok (.invokestatic 99, 3) := by decide +kernel
theorem dJ3_checkFromToIndex_8c36e_21 : decode cJ3_checkFromToIndex_8c36e 21 = .ok (.athrow, 1) := by decide +kernel
theorem dJ3_checkFromToIndex_8c36e_22 : decode cJ3_checkFromToIndex_8c36e 22 = .ok (.iload_n 0, 1) := by decide +kernel
theorem dJ3_checkFromToIndex_8c36e_23 : decode cJ3_checkFromToIndex_8c36e 23 = .ok (.ireturn, 1) := by decide +kernel
