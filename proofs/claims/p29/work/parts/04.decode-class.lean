theorem dX0_init_0 : decode cX0_init 0 = .ok (.aload_n 0, 1) := by decide +kernel
theorem dX0_init_1 : decode cX0_init 1 = .ok (.invokespecial 3, 3) := by decide +kernel
theorem dX0_init_4 : decode cX0_init 4 = .ok (.aload_n 0, 1) := by decide +kernel
theorem dX0_init_5 : decode cX0_init 5 = .ok (.sipush 600, 3) := by decide +kernel
theorem dX0_init_8 : decode cX0_init 8 = .ok (.newarray .int, 2) := by decide +kernel
theorem dX0_init_10 : decode cX0_init 10 = .ok (.putfield 11, 3) := by decide +kernel
theorem dX0_init_13 : decode cX0_init 13 = .ok (.aload_n 0, 1) := by decide +kernel
theorem dX0_init_14 : decode cX0_init 14 = .ok (.sipush 600, 3) := by decide +kernel
theorem dX0_init_17 : decode cX0_init 17 = .ok (.newarray .int, 2) := by decide +kernel
theorem dX0_init_19 : decode cX0_init 19 = .ok (.putfield 15, 3) := by decide +kernel
theorem dX0_init_22 : decode cX0_init 22 = .ok (.aload_n 0, 1) := by decide +kernel
theorem dX0_init_23 : decode cX0_init 23 = .ok (.sipush 600, 3) := by decide +kernel
theorem dX0_init_26 : decode cX0_init 26 = .ok (.newarray .int, 2) := by decide +kernel
theorem dX0_init_28 : decode cX0_init 28 = .ok (.putfield 18, 3) := by decide +kernel
theorem dX0_init_31 : decode cX0_init 31 = .ok (.aload_n 0, 1) := by decide +kernel
theorem dX0_init_32 : decode cX0_init 32 = .ok (.iconst 0, 1) := by decide +kernel
theorem dX0_init_33 : decode cX0_init 33 = .ok (.putfield 21, 3) := by decide +kernel
theorem dX0_init_36 : decode cX0_init 36 = .ok (.aload_n 0, 1) := by decide +kernel
theorem dX0_init_37 : decode cX0_init 37 = .ok (.bipush 6, 2) := by decide +kernel
theorem dX0_init_39 : decode cX0_init 39 = .ok (.newarray .int, 2) := by decide +kernel
theorem dX0_init_41 : decode cX0_init 41 = .ok (.putfield 25, 3) := by decide +kernel
theorem dX0_init_44 : decode cX0_init 44 = .ok (.aload_n 0, 1) := by decide +kernel
theorem dX0_init_45 : decode cX0_init 45 = .ok (.bipush 6, 2) := by decide +kernel
theorem dX0_init_47 : decode cX0_init 47 = .ok (.sipush 200, 3) := by decide +kernel
theorem dX0_init_50 : decode cX0_init 50 = .ok (.multianewarray 28 2, 4) := by decide +kernel
theorem dX0_init_54 : decode cX0_init 54 = .ok (.putfield 30, 3) := by decide +kernel
theorem dX0_init_57 : decode cX0_init 57 = .ok (.iconst 0, 1) := by decide +kernel
theorem dX0_init_58 : decode cX0_init 58 = .ok (.istore_n 1, 1) := by decide +kernel
theorem dX0_init_59 : decode cX0_init 59 = .ok (.iload_n 1, 1) := by decide +kernel
theorem dX0_init_60 : decode cX0_init 60 = .ok (.bipush 6, 2) := by decide +kernel
theorem dX0_init_62 : decode cX0_init 62 = .ok (.if_icmp .ge 20, 3) := by decide +kernel
theorem dX0_init_65 : decode cX0_init 65 = .ok (.aload_n 0, 1) := by decide +kernel
theorem dX0_init_66 : decode cX0_init 66 = .ok (.getfield 30, 3) := by decide +kernel
theorem dX0_init_69 : decode cX0_init 69 = .ok (.iload_n 1, 1) := by decide +kernel
theorem dX0_init_70 : decode cX0_init 70 = .ok (.aaload, 1) := by decide +kernel
theorem dX0_init_71 : decode cX0_init 71 = .ok (.bipush 6, 2) := by decide +kernel
theorem dX0_init_73 : decode cX0_init 73 = .ok (.invokestatic 33, 3) := by decide +kernel
theorem dX0_init_76 : decode cX0_init 76 = .ok (.iinc 1 1, 3) := by decide +kernel
theorem dX0_init_79 : decode cX0_init 79 = .ok (.goto (-20), 3) := by decide +kernel
theorem dX0_init_82 : decode cX0_init 82 = .ok (.return_, 1) := by decide +kernel
theorem dX0_add_0 : decode cX0_add 0 = .ok (.aload_n 0, 1) := by decide +kernel
theorem dX0_add_1 : decode cX0_add 1 = .ok (.getfield 21, 3) := by decide +kernel
theorem dX0_add_4 : decode cX0_add 4 = .ok (.sipush 600, 3) := by decide +kernel
theorem dX0_add_7 : decode cX0_add 7 = .ok (.if_icmp .ge 43, 3) := by decide +kernel
theorem dX0_add_10 : decode cX0_add 10 = .ok (.aload_n 0, 1) := by decide +kernel
theorem dX0_add_11 : decode cX0_add 11 = .ok (.getfield 11, 3) := by decide +kernel
theorem dX0_add_14 : decode cX0_add 14 = .ok (.aload_n 0, 1) := by decide +kernel
theorem dX0_add_15 : decode cX0_add 15 = .ok (.getfield 21, 3) := by decide +kernel
theorem dX0_add_18 : decode cX0_add 18 = .ok (.iload_n 1, 1) := by decide +kernel
theorem dX0_add_19 : decode cX0_add 19 = .ok (.iastore, 1) := by decide +kernel
theorem dX0_add_20 : decode cX0_add 20 = .ok (.aload_n 0, 1) := by decide +kernel
theorem dX0_add_21 : decode cX0_add 21 = .ok (.getfield 15, 3) := by decide +kernel
theorem dX0_add_24 : decode cX0_add 24 = .ok (.aload_n 0, 1) := by decide +kernel
theorem dX0_add_25 : decode cX0_add 25 = .ok (.getfield 21, 3) := by decide +kernel
theorem dX0_add_28 : decode cX0_add 28 = .ok (.iload_n 2, 1) := by decide +kernel
theorem dX0_add_29 : decode cX0_add 29 = .ok (.iastore, 1) := by decide +kernel
theorem dX0_add_30 : decode cX0_add 30 = .ok (.aload_n 0, 1) := by decide +kernel
theorem dX0_add_31 : decode cX0_add 31 = .ok (.getfield 18, 3) := by decide +kernel
theorem dX0_add_34 : decode cX0_add 34 = .ok (.aload_n 0, 1) := by decide +kernel
theorem dX0_add_35 : decode cX0_add 35 = .ok (.getfield 21, 3) := by decide +kernel
theorem dX0_add_38 : decode cX0_add 38 = .ok (.iload_n 3, 1) := by decide +kernel
theorem dX0_add_39 : decode cX0_add 39 = .ok (.iastore, 1) := by decide +kernel
theorem dX0_add_40 : decode cX0_add 40 = .ok (.aload_n 0, 1) := by decide +kernel
theorem dX0_add_41 : decode cX0_add 41 = .ok (.dup, 1) := by decide +kernel
theorem dX0_add_42 : decode cX0_add 42 = .ok (.getfield 21, 3) := by decide +kernel
theorem dX0_add_45 : decode cX0_add 45 = .ok (.iconst 1, 1) := by decide +kernel
theorem dX0_add_46 : decode cX0_add 46 = .ok (.iadd, 1) := by decide +kernel
theorem dX0_add_47 : decode cX0_add 47 = .ok (.putfield 21, 3) := by decide +kernel
theorem dX0_add_50 : decode cX0_add 50 = .ok (.return_, 1) := by decide +kernel
theorem dX0_countUnknown_0 : decode cX0_countUnknown 0 = .ok (.aload_n 0, 1) := by decide +kernel
theorem dX0_countUnknown_1 : decode cX0_countUnknown 1 = .ok (.getfield 21, 3) := by decide +kernel
theorem dX0_countUnknown_4 : decode cX0_countUnknown 4 = .ok (.aload_n 0, 1) := by decide +kernel
theorem dX0_countUnknown_5 : decode cX0_countUnknown 5 = .ok (.getfield 25, 3) := by decide +kernel
theorem dX0_countUnknown_8 : decode cX0_countUnknown 8 = .ok (.iload_n 1, 1) := by decide +kernel
theorem dX0_countUnknown_9 : decode cX0_countUnknown 9 = .ok (.iaload, 1) := by decide +kernel
theorem dX0_countUnknown_10 : decode cX0_countUnknown 10 = .ok (.isub, 1) := by decide +kernel
theorem dX0_countUnknown_11 : decode cX0_countUnknown 11 = .ok (.ireturn, 1) := by decide +kernel
theorem dX0_learnAll_0 : decode cX0_learnAll 0 = .ok (.aload_n 0, 1) := by decide +kernel
theorem dX0_learnAll_1 : decode cX0_learnAll 1 = .ok (.getfield 25, 3) := by decide +kernel
theorem dX0_learnAll_4 : decode cX0_learnAll 4 = .ok (.iload_n 1, 1) := by decide +kernel
theorem dX0_learnAll_5 : decode cX0_learnAll 5 = .ok (.iaload, 1) := by decide +kernel
theorem dX0_learnAll_6 : decode cX0_learnAll 6 = .ok (.istore_n 2, 1) := by decide +kernel
theorem dX0_learnAll_7 : decode cX0_learnAll 7 = .ok (.iload_n 2, 1) := by decide +kernel
theorem dX0_learnAll_8 : decode cX0_learnAll 8 = .ok (.aload_n 0, 1) := by decide +kernel
theorem dX0_learnAll_9 : decode cX0_learnAll 9 = .ok (.getfield 21, 3) := by decide +kernel
theorem dX0_learnAll_12 : decode cX0_learnAll 12 = .ok (.if_icmp .ge 28, 3) := by decide +kernel
theorem dX0_learnAll_15 : decode cX0_learnAll 15 = .ok (.aload_n 0, 1) := by decide +kernel
theorem dX0_learnAll_16 : decode cX0_learnAll 16 = .ok (.getfield 30, 3) := by decide +kernel
theorem dX0_learnAll_19 : decode cX0_learnAll 19 = .ok (.iload_n 1, 1) := by decide +kernel
theorem dX0_learnAll_20 : decode cX0_learnAll 20 = .ok (.aaload, 1) := by decide +kernel
theorem dX0_learnAll_21 : decode cX0_learnAll 21 = .ok (.aload_n 0, 1) := by decide +kernel
theorem dX0_learnAll_22 : decode cX0_learnAll 22 = .ok (.getfield 15, 3) := by decide +kernel
theorem dX0_learnAll_25 : decode cX0_learnAll 25 = .ok (.iload_n 2, 1) := by decide +kernel
theorem dX0_learnAll_26 : decode cX0_learnAll 26 = .ok (.iaload, 1) := by decide +kernel
theorem dX0_learnAll_27 : decode cX0_learnAll 27 = .ok (.aload_n 0, 1) := by decide +kernel
theorem dX0_learnAll_28 : decode cX0_learnAll 28 = .ok (.getfield 18, 3) := by decide +kernel
theorem dX0_learnAll_31 : decode cX0_learnAll 31 = .ok (.iload_n 2, 1) := by decide +kernel
theorem dX0_learnAll_32 : decode cX0_learnAll 32 = .ok (.iaload, 1) := by decide +kernel
theorem dX0_learnAll_33 : decode cX0_learnAll 33 = .ok (.iastore, 1) := by decide +kernel
theorem dX0_learnAll_34 : decode cX0_learnAll 34 = .ok (.iinc 2 1, 3) := by decide +kernel
theorem dX0_learnAll_37 : decode cX0_learnAll 37 = .ok (.goto (-30), 3) := by decide +kernel
theorem dX0_learnAll_40 : decode cX0_learnAll 40 = .ok (.aload_n 0, 1) := by decide +kernel
theorem dX0_learnAll_41 : decode cX0_learnAll 41 = .ok (.getfield 25, 3) := by decide +kernel
theorem dX0_learnAll_44 : decode cX0_learnAll 44 = .ok (.iload_n 1, 1) := by decide +kernel
theorem dX0_learnAll_45 : decode cX0_learnAll 45 = .ok (.aload_n 0, 1) := by decide +kernel
theorem dX0_learnAll_46 : decode cX0_learnAll 46 = .ok (.getfield 21, 3) := by decide +kernel
theorem dX0_learnAll_49 : decode cX0_learnAll 49 = .ok (.iastore, 1) := by decide +kernel
theorem dX0_learnAll_50 : decode cX0_learnAll 50 = .ok (.return_, 1) := by decide +kernel
theorem dX0_learnUpTo_0 : decode cX0_learnUpTo 0 = .ok (.aload_n 0, 1) := by decide +kernel
theorem dX0_learnUpTo_1 : decode cX0_learnUpTo 1 = .ok (.getfield 25, 3) := by decide +kernel
theorem dX0_learnUpTo_4 : decode cX0_learnUpTo 4 = .ok (.iload_n 1, 1) := by decide +kernel
theorem dX0_learnUpTo_5 : decode cX0_learnUpTo 5 = .ok (.iaload, 1) := by decide +kernel
theorem dX0_learnUpTo_6 : decode cX0_learnUpTo 6 = .ok (.istore_n 3, 1) := by decide +kernel
theorem dX0_learnUpTo_7 : decode cX0_learnUpTo 7 = .ok (.iload_n 3, 1) := by decide +kernel
theorem dX0_learnUpTo_8 : decode cX0_learnUpTo 8 = .ok (.aload_n 0, 1) := by decide +kernel
theorem dX0_learnUpTo_9 : decode cX0_learnUpTo 9 = .ok (.getfield 21, 3) := by decide +kernel
theorem dX0_learnUpTo_12 : decode cX0_learnUpTo 12 = .ok (.if_icmp .ge 38, 3) := by decide +kernel
theorem dX0_learnUpTo_15 : decode cX0_learnUpTo 15 = .ok (.aload_n 0, 1) := by decide +kernel
theorem dX0_learnUpTo_16 : decode cX0_learnUpTo 16 = .ok (.getfield 11, 3) := by decide +kernel
theorem dX0_learnUpTo_19 : decode cX0_learnUpTo 19 = .ok (.iload_n 3, 1) := by decide +kernel
theorem dX0_learnUpTo_20 : decode cX0_learnUpTo 20 = .ok (.iaload, 1) := by decide +kernel
theorem dX0_learnUpTo_21 : decode cX0_learnUpTo 21 = .ok (.iload_n 2, 1) := by decide +kernel
theorem dX0_learnUpTo_22 : decode cX0_learnUpTo 22 = .ok (.if_icmp .gt 28, 3) := by decide +kernel
theorem dX0_learnUpTo_25 : decode cX0_learnUpTo 25 = .ok (.aload_n 0, 1) := by decide +kernel
theorem dX0_learnUpTo_26 : decode cX0_learnUpTo 26 = .ok (.getfield 30, 3) := by decide +kernel
theorem dX0_learnUpTo_29 : decode cX0_learnUpTo 29 = .ok (.iload_n 1, 1) := by decide +kernel
theorem dX0_learnUpTo_30 : decode cX0_learnUpTo 30 = .ok (.aaload, 1) := by decide +kernel
theorem dX0_learnUpTo_31 : decode cX0_learnUpTo 31 = .ok (.aload_n 0, 1) := by decide +kernel
theorem dX0_learnUpTo_32 : decode cX0_learnUpTo 32 = .ok (.getfield 15, 3) := by decide +kernel
theorem dX0_learnUpTo_35 : decode cX0_learnUpTo 35 = .ok (.iload_n 3, 1) := by decide +kernel
theorem dX0_learnUpTo_36 : decode cX0_learnUpTo 36 = .ok (.iaload, 1) := by decide +kernel
theorem dX0_learnUpTo_37 : decode cX0_learnUpTo 37 = .ok (.aload_n 0, 1) := by decide +kernel
theorem dX0_learnUpTo_38 : decode cX0_learnUpTo 38 = .ok (.getfield 18, 3) := by decide +kernel
theorem dX0_learnUpTo_41 : decode cX0_learnUpTo 41 = .ok (.iload_n 3, 1) := by decide +kernel
theorem dX0_learnUpTo_42 : decode cX0_learnUpTo 42 = .ok (.iaload, 1) := by decide +kernel
theorem dX0_learnUpTo_43 : decode cX0_learnUpTo 43 = .ok (.iastore, 1) := by decide +kernel
theorem dX0_learnUpTo_44 : decode cX0_learnUpTo 44 = .ok (.iinc 3 1, 3) := by decide +kernel
theorem dX0_learnUpTo_47 : decode cX0_learnUpTo 47 = .ok (.goto (-40), 3) := by decide +kernel
theorem dX0_learnUpTo_50 : decode cX0_learnUpTo 50 = .ok (.aload_n 0, 1) := by decide +kernel
theorem dX0_learnUpTo_51 : decode cX0_learnUpTo 51 = .ok (.getfield 25, 3) := by decide +kernel
theorem dX0_learnUpTo_54 : decode cX0_learnUpTo 54 = .ok (.iload_n 1, 1) := by decide +kernel
theorem dX0_learnUpTo_55 : decode cX0_learnUpTo 55 = .ok (.iload_n 3, 1) := by decide +kernel
theorem dX0_learnUpTo_56 : decode cX0_learnUpTo 56 = .ok (.iastore, 1) := by decide +kernel
theorem dX0_learnUpTo_57 : decode cX0_learnUpTo 57 = .ok (.return_, 1) := by decide +kernel
theorem dX1_init_0 : decode cX1_init 0 = .ok (.aload_n 0, 1) := by decide +kernel
theorem dX1_init_1 : decode cX1_init 1 = .ok (.invokespecial 3, 3) := by decide +kernel
theorem dX1_init_4 : decode cX1_init 4 = .ok (.aload_n 0, 1) := by decide +kernel
theorem dX1_init_5 : decode cX1_init 5 = .ok (.sipush 200, 3) := by decide +kernel
theorem dX1_init_8 : decode cX1_init 8 = .ok (.newarray .int, 2) := by decide +kernel
theorem dX1_init_10 : decode cX1_init 10 = .ok (.putfield 9, 3) := by decide +kernel
theorem dX1_init_13 : decode cX1_init 13 = .ok (.aload_n 0, 1) := by decide +kernel
theorem dX1_init_14 : decode cX1_init 14 = .ok (.sipush 200, 3) := by decide +kernel
theorem dX1_init_17 : decode cX1_init 17 = .ok (.newarray .int, 2) := by decide +kernel
theorem dX1_init_19 : decode cX1_init 19 = .ok (.putfield 15, 3) := by decide +kernel
theorem dX1_init_22 : decode cX1_init 22 = .ok (.aload_n 0, 1) := by decide +kernel
theorem dX1_init_23 : decode cX1_init 23 = .ok (.sipush 200, 3) := by decide +kernel
theorem dX1_init_26 : decode cX1_init 26 = .ok (.newarray .int, 2) := by decide +kernel
theorem dX1_init_28 : decode cX1_init 28 = .ok (.putfield 18, 3) := by decide +kernel
theorem dX1_init_31 : decode cX1_init 31 = .ok (.aload_n 0, 1) := by decide +kernel
theorem dX1_init_32 : decode cX1_init 32 = .ok (.sipush 200, 3) := by decide +kernel
theorem dX1_init_35 : decode cX1_init 35 = .ok (.newarray .int, 2) := by decide +kernel
theorem dX1_init_37 : decode cX1_init 37 = .ok (.putfield 21, 3) := by decide +kernel
theorem dX1_init_40 : decode cX1_init 40 = .ok (.aload_n 0, 1) := by decide +kernel
theorem dX1_init_41 : decode cX1_init 41 = .ok (.sipush 200, 3) := by decide +kernel
theorem dX1_init_44 : decode cX1_init 44 = .ok (.newarray .int, 2) := by decide +kernel
theorem dX1_init_46 : decode cX1_init 46 = .ok (.putfield 24, 3) := by decide +kernel
theorem dX1_init_49 : decode cX1_init 49 = .ok (.aload_n 0, 1) := by decide +kernel
theorem dX1_init_50 : decode cX1_init 50 = .ok (.sipush 200, 3) := by decide +kernel
theorem dX1_init_53 : decode cX1_init 53 = .ok (.newarray .int, 2) := by decide +kernel
theorem dX1_init_55 : decode cX1_init 55 = .ok (.putfield 27, 3) := by decide +kernel
theorem dX1_init_58 : decode cX1_init 58 = .ok (.aload_n 0, 1) := by decide +kernel
theorem dX1_init_59 : decode cX1_init 59 = .ok (.getfield 9, 3) := by decide +kernel
theorem dX1_init_62 : decode cX1_init 62 = .ok (.iconst (-1), 1) := by decide +kernel
theorem dX1_init_63 : decode cX1_init 63 = .ok (.invokestatic 30, 3) := by decide +kernel
theorem dX1_init_66 : decode cX1_init 66 = .ok (.aload_n 0, 1) := by decide +kernel
theorem dX1_init_67 : decode cX1_init 67 = .ok (.getfield 18, 3) := by decide +kernel
theorem dX1_init_70 : decode cX1_init 70 = .ok (.iconst (-1), 1) := by decide +kernel
theorem dX1_init_71 : decode cX1_init 71 = .ok (.invokestatic 30, 3) := by decide +kernel
theorem dX1_init_74 : decode cX1_init 74 = .ok (.aload_n 0, 1) := by decide +kernel
theorem dX1_init_75 : decode cX1_init 75 = .ok (.getfield 21, 3) := by decide +kernel
theorem dX1_init_78 : decode cX1_init 78 = .ok (.iconst (-1), 1) := by decide +kernel
theorem dX1_init_79 : decode cX1_init 79 = .ok (.invokestatic 30, 3) := by decide +kernel
theorem dX1_init_82 : decode cX1_init 82 = .ok (.aload_n 0, 1) := by decide +kernel
theorem dX1_init_83 : decode cX1_init 83 = .ok (.getfield 24, 3) := by decide +kernel
theorem dX1_init_86 : decode cX1_init 86 = .ok (.iconst (-1), 1) := by decide +kernel
theorem dX1_init_87 : decode cX1_init 87 = .ok (.invokestatic 30, 3) := by decide +kernel
theorem dX1_init_90 : decode cX1_init 90 = .ok (.aload_n 0, 1) := by decide +kernel
theorem dX1_init_91 : decode cX1_init 91 = .ok (.getfield 27, 3) := by decide +kernel
theorem dX1_init_94 : decode cX1_init 94 = .ok (.iconst (-1), 1) := by decide +kernel
theorem dX1_init_95 : decode cX1_init 95 = .ok (.invokestatic 30, 3) := by decide +kernel
theorem dX1_init_98 : decode cX1_init 98 = .ok (.return_, 1) := by decide +kernel
theorem dX1_isInUse_0 : decode cX1_isInUse 0 = .ok (.aload_n 0, 1) := by decide +kernel
theorem dX1_isInUse_1 : decode cX1_isInUse 1 = .ok (.getfield 9, 3) := by decide +kernel
theorem dX1_isInUse_4 : decode cX1_isInUse 4 = .ok (.iload_n 1, 1) := by decide +kernel
theorem dX1_isInUse_5 : decode cX1_isInUse 5 = .ok (.iaload, 1) := by decide +kernel
theorem dX1_isInUse_6 : decode cX1_isInUse 6 = .ok (.iconst (-1), 1) := by decide +kernel
theorem dX1_isInUse_7 : decode cX1_isInUse 7 = .ok (.if_icmp .eq 7, 3) := by decide +kernel
theorem dX1_isInUse_10 : decode cX1_isInUse 10 = .ok (.iconst 1, 1) := by decide +kernel
theorem dX1_isInUse_11 : decode cX1_isInUse 11 = .ok (.goto 4, 3) := by decide +kernel
theorem dX1_isInUse_14 : decode cX1_isInUse 14 = .ok (.iconst 0, 1) := by decide +kernel
theorem dX1_isInUse_15 : decode cX1_isInUse 15 = .ok (.ireturn, 1) := by decide +kernel
theorem dX1_isInQuarantine_0 : decode cX1_isInQuarantine 0 = .ok (.iload_n 2, 1) := by decide +kernel
theorem dX1_isInQuarantine_1 : decode cX1_isInQuarantine 1 = .ok (.aload_n 0, 1) := by decide +kernel
theorem dX1_isInQuarantine_2 : decode cX1_isInQuarantine 2 = .ok (.getfield 18, 3) := by decide +kernel
theorem dX1_isInQuarantine_5 : decode cX1_isInQuarantine 5 = .ok (.iload_n 1, 1) := by decide +kernel
theorem dX1_isInQuarantine_6 : decode cX1_isInQuarantine 6 = .ok (.iaload, 1) := by decide +kernel
theorem dX1_isInQuarantine_7 : decode cX1_isInQuarantine 7 = .ok (.if_icmp .gt 7, 3) := by decide +kernel
theorem dX1_isInQuarantine_10 : decode cX1_isInQuarantine 10 = .ok (.iconst 1, 1) := by decide +kernel
theorem dX1_isInQuarantine_11 : decode cX1_isInQuarantine 11 = .ok (.goto 4, 3) := by decide +kernel
theorem dX1_isInQuarantine_14 : decode cX1_isInQuarantine 14 = .ok (.iconst 0, 1) := by decide +kernel
theorem dX1_isInQuarantine_15 : decode cX1_isInQuarantine 15 = .ok (.ireturn, 1) := by decide +kernel
theorem dX1_isSilent_0 : decode cX1_isSilent 0 = .ok (.iload_n 2, 1) := by decide +kernel
theorem dX1_isSilent_1 : decode cX1_isSilent 1 = .ok (.aload_n 0, 1) := by decide +kernel
theorem dX1_isSilent_2 : decode cX1_isSilent 2 = .ok (.getfield 21, 3) := by decide +kernel
theorem dX1_isSilent_5 : decode cX1_isSilent 5 = .ok (.iload_n 1, 1) := by decide +kernel
theorem dX1_isSilent_6 : decode cX1_isSilent 6 = .ok (.iaload, 1) := by decide +kernel
theorem dX1_isSilent_7 : decode cX1_isSilent 7 = .ok (.if_icmp .gt 7, 3) := by decide +kernel
theorem dX1_isSilent_10 : decode cX1_isSilent 10 = .ok (.iconst 1, 1) := by decide +kernel
theorem dX1_isSilent_11 : decode cX1_isSilent 11 = .ok (.goto 4, 3) := by decide +kernel
theorem dX1_isSilent_14 : decode cX1_isSilent 14 = .ok (.iconst 0, 1) := by decide +kernel
theorem dX1_isSilent_15 : decode cX1_isSilent 15 = .ok (.ireturn, 1) := by decide +kernel
theorem dX1_mayBeCalledBack_0 : decode cX1_mayBeCalledBack 0 = .ok (.iload_n 2, 1) := by decide +kernel
theorem dX1_mayBeCalledBack_1 : decode cX1_mayBeCalledBack 1 = .ok (.aload_n 0, 1) := by decide +kernel
theorem dX1_mayBeCalledBack_2 : decode cX1_mayBeCalledBack 2 = .ok (.getfield 24, 3) := by decide +kernel
theorem dX1_mayBeCalledBack_5 : decode cX1_mayBeCalledBack 5 = .ok (.iload_n 1, 1) := by decide +kernel
theorem dX1_mayBeCalledBack_6 : decode cX1_mayBeCalledBack 6 = .ok (.iaload, 1) := by decide +kernel
theorem dX1_mayBeCalledBack_7 : decode cX1_mayBeCalledBack 7 = .ok (.if_icmp .gt 7, 3) := by decide +kernel
theorem dX1_mayBeCalledBack_10 : decode cX1_mayBeCalledBack 10 = .ok (.iconst 1, 1) := by decide +kernel
theorem dX1_mayBeCalledBack_11 : decode cX1_mayBeCalledBack 11 = .ok (.goto 4, 3) := by decide +kernel
theorem dX1_mayBeCalledBack_14 : decode cX1_mayBeCalledBack 14 = .ok (.iconst 0, 1) := by decide +kernel
theorem dX1_mayBeCalledBack_15 : decode cX1_mayBeCalledBack 15 = .ok (.ireturn, 1) := by decide +kernel
theorem dX1_begin_0 : decode cX1_begin 0 = .ok (.aload_n 0, 1) := by decide +kernel
theorem dX1_begin_1 : decode cX1_begin 1 = .ok (.getfield 9, 3) := by decide +kernel
theorem dX1_begin_4 : decode cX1_begin 4 = .ok (.iload_n 1, 1) := by decide +kernel
theorem dX1_begin_5 : decode cX1_begin 5 = .ok (.iload_n 2, 1) := by decide +kernel
theorem dX1_begin_6 : decode cX1_begin 6 = .ok (.iastore, 1) := by decide +kernel
theorem dX1_begin_7 : decode cX1_begin 7 = .ok (.aload_n 0, 1) := by decide +kernel
theorem dX1_begin_8 : decode cX1_begin 8 = .ok (.getfield 15, 3) := by decide +kernel
theorem dX1_begin_11 : decode cX1_begin 11 = .ok (.iload_n 1, 1) := by decide +kernel
theorem dX1_begin_12 : decode cX1_begin 12 = .ok (.iload_n 3, 1) := by decide +kernel
theorem dX1_begin_13 : decode cX1_begin 13 = .ok (.iastore, 1) := by decide +kernel
theorem dX1_begin_14 : decode cX1_begin 14 = .ok (.return_, 1) := by decide +kernel
theorem dX1_finish_0 : decode cX1_finish 0 = .ok (.aload_n 0, 1) := by decide +kernel
theorem dX1_finish_1 : decode cX1_finish 1 = .ok (.getfield 9, 3) := by decide +kernel
theorem dX1_finish_4 : decode cX1_finish 4 = .ok (.iload_n 1, 1) := by decide +kernel
theorem dX1_finish_5 : decode cX1_finish 5 = .ok (.iconst (-1), 1) := by decide +kernel
theorem dX1_finish_6 : decode cX1_finish 6 = .ok (.iastore, 1) := by decide +kernel
theorem dX1_finish_7 : decode cX1_finish 7 = .ok (.aload_n 0, 1) := by decide +kernel
theorem dX1_finish_8 : decode cX1_finish 8 = .ok (.getfield 18, 3) := by decide +kernel
theorem dX1_finish_11 : decode cX1_finish 11 = .ok (.iload_n 1, 1) := by decide +kernel
theorem dX1_finish_12 : decode cX1_finish 12 = .ok (.iload_n 2, 1) := by decide +kernel
theorem dX1_finish_13 : decode cX1_finish 13 = .ok (.bipush 99, 2) := by decide +kernel
theorem dX1_finish_15 : decode cX1_finish 15 = .ok (.iadd, 1) := by decide +kernel
theorem dX1_finish_16 : decode cX1_finish 16 = .ok (.iastore, 1) := by decide +kernel
theorem dX1_finish_17 : decode cX1_finish 17 = .ok (.aload_n 0, 1) := by decide +kernel
theorem dX1_finish_18 : decode cX1_finish 18 = .ok (.getfield 21, 3) := by decide +kernel
theorem dX1_finish_21 : decode cX1_finish 21 = .ok (.iload_n 1, 1) := by decide +kernel
theorem dX1_finish_22 : decode cX1_finish 22 = .ok (.iconst (-1), 1) := by decide +kernel
theorem dX1_finish_23 : decode cX1_finish 23 = .ok (.iastore, 1) := by decide +kernel
theorem dX1_finish_24 : decode cX1_finish 24 = .ok (.aload_n 0, 1) := by decide +kernel
theorem dX1_finish_25 : decode cX1_finish 25 = .ok (.getfield 24, 3) := by decide +kernel
theorem dX1_finish_28 : decode cX1_finish 28 = .ok (.iload_n 1, 1) := by decide +kernel
theorem dX1_finish_29 : decode cX1_finish 29 = .ok (.iconst (-1), 1) := by decide +kernel
theorem dX1_finish_30 : decode cX1_finish 30 = .ok (.iastore, 1) := by decide +kernel
theorem dX1_finish_31 : decode cX1_finish 31 = .ok (.aload_n 0, 1) := by decide +kernel
theorem dX1_finish_32 : decode cX1_finish 32 = .ok (.getfield 27, 3) := by decide +kernel
theorem dX1_finish_35 : decode cX1_finish 35 = .ok (.iload_n 1, 1) := by decide +kernel
theorem dX1_finish_36 : decode cX1_finish 36 = .ok (.iconst (-1), 1) := by decide +kernel
theorem dX1_finish_37 : decode cX1_finish 37 = .ok (.iastore, 1) := by decide +kernel
theorem dX1_finish_38 : decode cX1_finish 38 = .ok (.return_, 1) := by decide +kernel
theorem dX1_countServedBy_0 : decode cX1_countServedBy 0 = .ok (.iconst 0, 1) := by decide +kernel
theorem dX1_countServedBy_1 : decode cX1_countServedBy 1 = .ok (.istore_n 2, 1) := by decide +kernel
theorem dX1_countServedBy_2 : decode cX1_countServedBy 2 = .ok (.iconst 0, 1) := by decide +kernel
theorem dX1_countServedBy_3 : decode cX1_countServedBy 3 = .ok (.istore_n 3, 1) := by decide +kernel
theorem dX1_countServedBy_4 : decode cX1_countServedBy 4 = .ok (.iload_n 3, 1) := by decide +kernel
theorem dX1_countServedBy_5 : decode cX1_countServedBy 5 = .ok (.sipush 200, 3) := by decide +kernel
theorem dX1_countServedBy_8 : decode cX1_countServedBy 8 = .ok (.if_icmp .ge 22, 3) := by decide +kernel
theorem dX1_countServedBy_11 : decode cX1_countServedBy 11 = .ok (.aload_n 0, 1) := by decide +kernel
theorem dX1_countServedBy_12 : decode cX1_countServedBy 12 = .ok (.getfield 9, 3) := by decide +kernel
theorem dX1_countServedBy_15 : decode cX1_countServedBy 15 = .ok (.iload_n 3, 1) := by decide +kernel
theorem dX1_countServedBy_16 : decode cX1_countServedBy 16 = .ok (.iaload, 1) := by decide +kernel
theorem dX1_countServedBy_17 : decode cX1_countServedBy 17 = .ok (.iload_n 1, 1) := by decide +kernel
theorem dX1_countServedBy_18 : decode cX1_countServedBy 18 = .ok (.if_icmp .ne 6, 3) := by decide +kernel
theorem dX1_countServedBy_21 : decode cX1_countServedBy 21 = .ok (.iinc 2 1, 3) := by decide +kernel
theorem dX1_countServedBy_24 : decode cX1_countServedBy 24 = .ok (.iinc 3 1, 3) := by decide +kernel
theorem dX1_countServedBy_27 : decode cX1_countServedBy 27 = .ok (.goto (-23), 3) := by decide +kernel
theorem dX1_countServedBy_30 : decode cX1_countServedBy 30 = .ok (.iload_n 2, 1) := by decide +kernel
theorem dX1_countServedBy_31 : decode cX1_countServedBy 31 = .ok (.ireturn, 1) := by decide +kernel
theorem dX2_init_0 : decode cX2_init 0 = .ok (.aload_n 0, 1) := by decide +kernel
theorem dX2_init_1 : decode cX2_init 1 = .ok (.invokespecial 3, 3) := by decide +kernel
theorem dX2_init_4 : decode cX2_init 4 = .ok (.aload_n 0, 1) := by decide +kernel
theorem dX2_init_5 : decode cX2_init 5 = .ok (.bipush 6, 2) := by decide +kernel
theorem dX2_init_7 : decode cX2_init 7 = .ok (.newarray .boolean, 2) := by decide +kernel
theorem dX2_init_9 : decode cX2_init 9 = .ok (.putfield 9, 3) := by decide +kernel
theorem dX2_init_12 : decode cX2_init 12 = .ok (.aload_n 0, 1) := by decide +kernel
theorem dX2_init_13 : decode cX2_init 13 = .ok (.bipush 6, 2) := by decide +kernel
theorem dX2_init_15 : decode cX2_init 15 = .ok (.newarray .boolean, 2) := by decide +kernel
theorem dX2_init_17 : decode cX2_init 17 = .ok (.putfield 15, 3) := by decide +kernel
theorem dX2_init_20 : decode cX2_init 20 = .ok (.aload_n 0, 1) := by decide +kernel
theorem dX2_init_21 : decode cX2_init 21 = .ok (.bipush 6, 2) := by decide +kernel
theorem dX2_init_23 : decode cX2_init 23 = .ok (.newarray .int, 2) := by decide +kernel
theorem dX2_init_25 : decode cX2_init 25 = .ok (.putfield 18, 3) := by decide +kernel
theorem dX2_init_28 : decode cX2_init 28 = .ok (.aload_n 0, 1) := by decide +kernel
theorem dX2_init_29 : decode cX2_init 29 = .ok (.bipush 6, 2) := by decide +kernel
theorem dX2_init_31 : decode cX2_init 31 = .ok (.newarray .int, 2) := by decide +kernel
theorem dX2_init_33 : decode cX2_init 33 = .ok (.putfield 22, 3) := by decide +kernel
theorem dX2_init_36 : decode cX2_init 36 = .ok (.return_, 1) := by decide +kernel
theorem dX2_pay_0 : decode cX2_pay 0 = .ok (.iload_n 1, 1) := by decide +kernel
theorem dX2_pay_1 : decode cX2_pay 1 = .ok (.invokestatic 25, 3) := by decide +kernel
theorem dX2_pay_4 : decode cX2_pay 4 = .ok (.ifCond .eq 30, 3) := by decide +kernel
theorem dX2_pay_7 : decode cX2_pay 7 = .ok (.iload_n 2, 1) := by decide +kernel
theorem dX2_pay_8 : decode cX2_pay 8 = .ok (.invokestatic 25, 3) := by decide +kernel
theorem dX2_pay_11 : decode cX2_pay 11 = .ok (.ifCond .eq 23, 3) := by decide +kernel
theorem dX2_pay_14 : decode cX2_pay 14 = .ok (.aload_n 0, 1) := by decide +kernel
theorem dX2_pay_15 : decode cX2_pay 15 = .ok (.getfield 22, 3) := by decide +kernel
theorem dX2_pay_18 : decode cX2_pay 18 = .ok (.iload_n 1, 1) := by decide +kernel
theorem dX2_pay_19 : decode cX2_pay 19 = .ok (.dup2, 1) := by decide +kernel
theorem dX2_pay_20 : decode cX2_pay 20 = .ok (.iaload, 1) := by decide +kernel
theorem dX2_pay_21 : decode cX2_pay 21 = .ok (.iload_n 3, 1) := by decide +kernel
theorem dX2_pay_22 : decode cX2_pay 22 = .ok (.isub, 1) := by decide +kernel
theorem dX2_pay_23 : decode cX2_pay 23 = .ok (.iastore, 1) := by decide +kernel
theorem dX2_pay_24 : decode cX2_pay 24 = .ok (.aload_n 0, 1) := by decide +kernel
theorem dX2_pay_25 : decode cX2_pay 25 = .ok (.getfield 22, 3) := by decide +kernel
theorem dX2_pay_28 : decode cX2_pay 28 = .ok (.iload_n 2, 1) := by decide +kernel
theorem dX2_pay_29 : decode cX2_pay 29 = .ok (.dup2, 1) := by decide +kernel
theorem dX2_pay_30 : decode cX2_pay 30 = .ok (.iaload, 1) := by decide +kernel
theorem dX2_pay_31 : decode cX2_pay 31 = .ok (.iload_n 3, 1) := by decide +kernel
theorem dX2_pay_32 : decode cX2_pay 32 = .ok (.iadd, 1) := by decide +kernel
theorem dX2_pay_33 : decode cX2_pay 33 = .ok (.iastore, 1) := by decide +kernel
theorem dX2_pay_34 : decode cX2_pay 34 = .ok (.return_, 1) := by decide +kernel
theorem dX3_init_0 : decode cX3_init 0 = .ok (.aload_n 0, 1) := by decide +kernel
theorem dX3_init_1 : decode cX3_init 1 = .ok (.invokespecial 3, 3) := by decide +kernel
theorem dX3_init_4 : decode cX3_init 4 = .ok (.aload_n 0, 1) := by decide +kernel
theorem dX3_init_5 : decode cX3_init 5 = .ok (.sipush 572, 3) := by decide +kernel
theorem dX3_init_8 : decode cX3_init 8 = .ok (.newarray .boolean, 2) := by decide +kernel
theorem dX3_init_10 : decode cX3_init 10 = .ok (.putfield 11, 3) := by decide +kernel
theorem dX3_init_13 : decode cX3_init 13 = .ok (.aload_n 0, 1) := by decide +kernel
theorem dX3_init_14 : decode cX3_init 14 = .ok (.sipush 572, 3) := by decide +kernel
theorem dX3_init_17 : decode cX3_init 17 = .ok (.newarray .int, 2) := by decide +kernel
theorem dX3_init_19 : decode cX3_init 19 = .ok (.putfield 15, 3) := by decide +kernel
theorem dX3_init_22 : decode cX3_init 22 = .ok (.aload_n 0, 1) := by decide +kernel
theorem dX3_init_23 : decode cX3_init 23 = .ok (.sipush 572, 3) := by decide +kernel
theorem dX3_init_26 : decode cX3_init 26 = .ok (.newarray .int, 2) := by decide +kernel
theorem dX3_init_28 : decode cX3_init 28 = .ok (.putfield 19, 3) := by decide +kernel
theorem dX3_init_31 : decode cX3_init 31 = .ok (.aload_n 0, 1) := by decide +kernel
theorem dX3_init_32 : decode cX3_init 32 = .ok (.iconst 0, 1) := by decide +kernel
theorem dX3_init_33 : decode cX3_init 33 = .ok (.putfield 22, 3) := by decide +kernel
theorem dX3_init_36 : decode cX3_init 36 = .ok (.return_, 1) := by decide +kernel
theorem dX3_serves_0 : decode cX3_serves 0 = .ok (.aload_n 0, 1) := by decide +kernel
theorem dX3_serves_1 : decode cX3_serves 1 = .ok (.iconst 0, 1) := by decide +kernel
theorem dX3_serves_2 : decode cX3_serves 2 = .ok (.iload_n 1, 1) := by decide +kernel
theorem dX3_serves_3 : decode cX3_serves 3 = .ok (.iload_n 2, 1) := by decide +kernel
theorem dX3_serves_4 : decode cX3_serves 4 = .ok (.invokevirtual 26, 3) := by decide +kernel
theorem dX3_serves_7 : decode cX3_serves 7 = .ok (.return_, 1) := by decide +kernel
theorem dX3_firmEnds_0 : decode cX3_firmEnds 0 = .ok (.aload_n 0, 1) := by decide +kernel
theorem dX3_firmEnds_1 : decode cX3_firmEnds 1 = .ok (.iconst 1, 1) := by decide +kernel
theorem dX3_firmEnds_2 : decode cX3_firmEnds 2 = .ok (.iload_n 1, 1) := by decide +kernel
theorem dX3_firmEnds_3 : decode cX3_firmEnds 3 = .ok (.iload_n 2, 1) := by decide +kernel
theorem dX3_firmEnds_4 : decode cX3_firmEnds 4 = .ok (.invokevirtual 26, 3) := by decide +kernel
theorem dX3_firmEnds_7 : decode cX3_firmEnds 7 = .ok (.return_, 1) := by decide +kernel
theorem dX3_note_0 : decode cX3_note 0 = .ok (.aload_n 0, 1) := by decide +kernel
theorem dX3_note_1 : decode cX3_note 1 = .ok (.getfield 22, 3) := by decide +kernel
theorem dX3_note_4 : decode cX3_note 4 = .ok (.sipush 572, 3) := by decide +kernel
theorem dX3_note_7 : decode cX3_note 7 = .ok (.if_icmp .ge 43, 3) := by decide +kernel
theorem dX3_note_10 : decode cX3_note 10 = .ok (.aload_n 0, 1) := by decide +kernel
theorem dX3_note_11 : decode cX3_note 11 = .ok (.getfield 11, 3) := by decide +kernel
theorem dX3_note_14 : decode cX3_note 14 = .ok (.aload_n 0, 1) := by decide +kernel
theorem dX3_note_15 : decode cX3_note 15 = .ok (.getfield 22, 3) := by decide +kernel
theorem dX3_note_18 : decode cX3_note 18 = .ok (.iload_n 1, 1) := by decide +kernel
theorem dX3_note_19 : decode cX3_note 19 = .ok (.bastore, 1) := by decide +kernel
theorem dX3_note_20 : decode cX3_note 20 = .ok (.aload_n 0, 1) := by decide +kernel
theorem dX3_note_21 : decode cX3_note 21 = .ok (.getfield 15, 3) := by decide +kernel
theorem dX3_note_24 : decode cX3_note 24 = .ok (.aload_n 0, 1) := by decide +kernel
theorem dX3_note_25 : decode cX3_note 25 = .ok (.getfield 22, 3) := by decide +kernel
theorem dX3_note_28 : decode cX3_note 28 = .ok (.iload_n 2, 1) := by decide +kernel
theorem dX3_note_29 : decode cX3_note 29 = .ok (.iastore, 1) := by decide +kernel
theorem dX3_note_30 : decode cX3_note 30 = .ok (.aload_n 0, 1) := by decide +kernel
theorem dX3_note_31 : decode cX3_note 31 = .ok (.getfield 19, 3) := by decide +kernel
theorem dX3_note_34 : decode cX3_note 34 = .ok (.aload_n 0, 1) := by decide +kernel
theorem dX3_note_35 : decode cX3_note 35 = .ok (.getfield 22, 3) := by decide +kernel
theorem dX3_note_38 : decode cX3_note 38 = .ok (.iload_n 3, 1) := by decide +kernel
theorem dX3_note_39 : decode cX3_note 39 = .ok (.iastore, 1) := by decide +kernel
theorem dX3_note_40 : decode cX3_note 40 = .ok (.aload_n 0, 1) := by decide +kernel
theorem dX3_note_41 : decode cX3_note 41 = .ok (.dup, 1) := by decide +kernel
theorem dX3_note_42 : decode cX3_note 42 = .ok (.getfield 22, 3) := by decide +kernel
theorem dX3_note_45 : decode cX3_note 45 = .ok (.iconst 1, 1) := by decide +kernel
theorem dX3_note_46 : decode cX3_note 46 = .ok (.iadd, 1) := by decide +kernel
theorem dX3_note_47 : decode cX3_note 47 = .ok (.putfield 22, 3) := by decide +kernel
theorem dX3_note_50 : decode cX3_note 50 = .ok (.return_, 1) := by decide +kernel
theorem dX3_replay_0 : decode cX3_replay 0 = .ok (.iconst (-1), 1) := by decide +kernel
theorem dX3_replay_1 : decode cX3_replay 1 = .ok (.istore_n 2, 1) := by decide +kernel
theorem dX3_replay_2 : decode cX3_replay 2 = .ok (.iconst 0, 1) := by decide +kernel
theorem dX3_replay_3 : decode cX3_replay 3 = .ok (.istore_n 3, 1) := by decide +kernel
theorem dX3_replay_4 : decode cX3_replay 4 = .ok (.iload_n 3, 1) := by decide +kernel
theorem dX3_replay_5 : decode cX3_replay 5 = .ok (.aload_n 0, 1) := by decide +kernel
theorem dX3_replay_6 : decode cX3_replay 6 = .ok (.getfield 22, 3) := by decide +kernel
theorem dX3_replay_9 : decode cX3_replay 9 = .ok (.if_icmp .ge 43, 3) := by decide +kernel
theorem dX3_replay_12 : decode cX3_replay 12 = .ok (.aload_n 0, 1) := by decide +kernel
theorem dX3_replay_13 : decode cX3_replay 13 = .ok (.getfield 11, 3) := by decide +kernel
theorem dX3_replay_16 : decode cX3_replay 16 = .ok (.iload_n 3, 1) := by decide +kernel
theorem dX3_replay_17 : decode cX3_replay 17 = .ok (.baload, 1) := by decide +kernel
theorem dX3_replay_18 : decode cX3_replay 18 = .ok (.ifCond .eq 7, 3) := by decide +kernel
theorem dX3_replay_21 : decode cX3_replay 21 = .ok (.iload_n 2, 1) := by decide +kernel
theorem dX3_replay_22 : decode cX3_replay 22 = .ok (.goto 4, 3) := by decide +kernel
theorem dX3_replay_25 : decode cX3_replay 25 = .ok (.iload_n 1, 1) := by decide +kernel
theorem dX3_replay_26 : decode cX3_replay 26 = .ok (.istore 4, 2) := by decide +kernel
theorem dX3_replay_28 : decode cX3_replay 28 = .ok (.aload_n 0, 1) := by decide +kernel
theorem dX3_replay_29 : decode cX3_replay 29 = .ok (.getfield 15, 3) := by decide +kernel
theorem dX3_replay_32 : decode cX3_replay 32 = .ok (.iload_n 3, 1) := by decide +kernel
theorem dX3_replay_33 : decode cX3_replay 33 = .ok (.iaload, 1) := by decide +kernel
theorem dX3_replay_34 : decode cX3_replay 34 = .ok (.iload 4, 2) := by decide +kernel
theorem dX3_replay_36 : decode cX3_replay 36 = .ok (.if_icmp .ne 10, 3) := by decide +kernel
theorem dX3_replay_39 : decode cX3_replay 39 = .ok (.aload_n 0, 1) := by decide +kernel
theorem dX3_replay_40 : decode cX3_replay 40 = .ok (.getfield 19, 3) := by decide +kernel
theorem dX3_replay_43 : decode cX3_replay 43 = .ok (.iload_n 3, 1) := by decide +kernel
theorem dX3_replay_44 : decode cX3_replay 44 = .ok (.iaload, 1) := by decide +kernel
theorem dX3_replay_45 : decode cX3_replay 45 = .ok (.istore_n 2, 1) := by decide +kernel
theorem dX3_replay_46 : decode cX3_replay 46 = .ok (.iinc 3 1, 3) := by decide +kernel
theorem dX3_replay_49 : decode cX3_replay 49 = .ok (.goto (-45), 3) := by decide +kernel
theorem dX3_replay_52 : decode cX3_replay 52 = .ok (.iload_n 2, 1) := by decide +kernel
theorem dX3_replay_53 : decode cX3_replay 53 = .ok (.ireturn, 1) := by decide +kernel
theorem dX4_init_0 : decode cX4_init 0 = .ok (.aload_n 0, 1) := by decide +kernel
theorem dX4_init_1 : decode cX4_init 1 = .ok (.invokespecial 3, 3) := by decide +kernel
theorem dX4_init_4 : decode cX4_init 4 = .ok (.aload_n 0, 1) := by decide +kernel
theorem dX4_init_5 : decode cX4_init 5 = .ok (.bipush 60, 2) := by decide +kernel
theorem dX4_init_7 : decode cX4_init 7 = .ok (.newarray .int, 2) := by decide +kernel
theorem dX4_init_9 : decode cX4_init 9 = .ok (.putfield 9, 3) := by decide +kernel
theorem dX4_init_12 : decode cX4_init 12 = .ok (.aload_n 0, 1) := by decide +kernel
theorem dX4_init_13 : decode cX4_init 13 = .ok (.bipush 60, 2) := by decide +kernel
theorem dX4_init_15 : decode cX4_init 15 = .ok (.newarray .int, 2) := by decide +kernel
theorem dX4_init_17 : decode cX4_init 17 = .ok (.putfield 15, 3) := by decide +kernel
theorem dX4_init_20 : decode cX4_init 20 = .ok (.aload_n 0, 1) := by decide +kernel
theorem dX4_init_21 : decode cX4_init 21 = .ok (.bipush 60, 2) := by decide +kernel
theorem dX4_init_23 : decode cX4_init 23 = .ok (.newarray .int, 2) := by decide +kernel
theorem dX4_init_25 : decode cX4_init 25 = .ok (.putfield 18, 3) := by decide +kernel
theorem dX4_init_28 : decode cX4_init 28 = .ok (.aload_n 0, 1) := by decide +kernel
theorem dX4_init_29 : decode cX4_init 29 = .ok (.bipush 60, 2) := by decide +kernel
theorem dX4_init_31 : decode cX4_init 31 = .ok (.newarray .int, 2) := by decide +kernel
theorem dX4_init_33 : decode cX4_init 33 = .ok (.putfield 21, 3) := by decide +kernel
theorem dX4_init_36 : decode cX4_init 36 = .ok (.aload_n 0, 1) := by decide +kernel
theorem dX4_init_37 : decode cX4_init 37 = .ok (.bipush 60, 2) := by decide +kernel
theorem dX4_init_39 : decode cX4_init 39 = .ok (.newarray .int, 2) := by decide +kernel
theorem dX4_init_41 : decode cX4_init 41 = .ok (.putfield 24, 3) := by decide +kernel
theorem dX4_init_44 : decode cX4_init 44 = .ok (.aload_n 0, 1) := by decide +kernel
theorem dX4_init_45 : decode cX4_init 45 = .ok (.bipush 60, 2) := by decide +kernel
theorem dX4_init_47 : decode cX4_init 47 = .ok (.newarray .int, 2) := by decide +kernel
theorem dX4_init_49 : decode cX4_init 49 = .ok (.putfield 27, 3) := by decide +kernel
theorem dX4_init_52 : decode cX4_init 52 = .ok (.aload_n 0, 1) := by decide +kernel
theorem dX4_init_53 : decode cX4_init 53 = .ok (.iconst 0, 1) := by decide +kernel
theorem dX4_init_54 : decode cX4_init 54 = .ok (.putfield 30, 3) := by decide +kernel
theorem dX4_init_57 : decode cX4_init 57 = .ok (.return_, 1) := by decide +kernel
theorem dX4_add_0 : decode cX4_add 0 = .ok (.aload_n 0, 1) := by decide +kernel
theorem dX4_add_1 : decode cX4_add 1 = .ok (.getfield 30, 3) := by decide +kernel
theorem dX4_add_4 : decode cX4_add 4 = .ok (.bipush 60, 2) := by decide +kernel
theorem dX4_add_6 : decode cX4_add 6 = .ok (.if_icmp .lt 5, 3) := by decide +kernel
theorem dX4_add_9 : decode cX4_add 9 = .ok (.iconst (-1), 1) := by decide +kernel
theorem dX4_add_10 : decode cX4_add 10 = .ok (.ireturn, 1) := by decide +kernel
theorem dX4_add_11 : decode cX4_add 11 = .ok (.aload_n 0, 1) := by decide +kernel
theorem dX4_add_12 : decode cX4_add 12 = .ok (.getfield 30, 3) := by decide +kernel
theorem dX4_add_15 : decode cX4_add 15 = .ok (.istore 6, 2) := by decide +kernel
theorem dX4_add_17 : decode cX4_add 17 = .ok (.aload_n 0, 1) := by decide +kernel
theorem dX4_add_18 : decode cX4_add 18 = .ok (.getfield 9, 3) := by decide +kernel
theorem dX4_add_21 : decode cX4_add 21 = .ok (.iload 6, 2) := by decide +kernel
theorem dX4_add_23 : decode cX4_add 23 = .ok (.iload 5, 2) := by decide +kernel
theorem dX4_add_25 : decode cX4_add 25 = .ok (.ifCond .ne 7, 3) := by decide +kernel
theorem dX4_add_28 : decode cX4_add 28 = .ok (.iconst 1, 1) := by decide +kernel
theorem dX4_add_29 : decode cX4_add 29 = .ok (.goto 4, 3) := by decide +kernel
theorem dX4_add_32 : decode cX4_add 32 = .ok (.iconst 0, 1) := by decide +kernel
theorem dX4_add_33 : decode cX4_add 33 = .ok (.iastore, 1) := by decide +kernel
theorem dX4_add_34 : decode cX4_add 34 = .ok (.aload_n 0, 1) := by decide +kernel
theorem dX4_add_35 : decode cX4_add 35 = .ok (.getfield 15, 3) := by decide +kernel
theorem dX4_add_38 : decode cX4_add 38 = .ok (.iload 6, 2) := by decide +kernel
theorem dX4_add_40 : decode cX4_add 40 = .ok (.iload 5, 2) := by decide +kernel
theorem dX4_add_42 : decode cX4_add 42 = .ok (.iastore, 1) := by decide +kernel
theorem dX4_add_43 : decode cX4_add 43 = .ok (.aload_n 0, 1) := by decide +kernel
theorem dX4_add_44 : decode cX4_add 44 = .ok (.getfield 18, 3) := by decide +kernel
theorem dX4_add_47 : decode cX4_add 47 = .ok (.iload 6, 2) := by decide +kernel
theorem dX4_add_49 : decode cX4_add 49 = .ok (.iload_n 2, 1) := by decide +kernel
theorem dX4_add_50 : decode cX4_add 50 = .ok (.iastore, 1) := by decide +kernel
theorem dX4_add_51 : decode cX4_add 51 = .ok (.aload_n 0, 1) := by decide +kernel
theorem dX4_add_52 : decode cX4_add 52 = .ok (.getfield 21, 3) := by decide +kernel
theorem dX4_add_55 : decode cX4_add 55 = .ok (.iload 6, 2) := by decide +kernel
theorem dX4_add_57 : decode cX4_add 57 = .ok (.iload_n 1, 1) := by decide +kernel
theorem dX4_add_58 : decode cX4_add 58 = .ok (.iastore, 1) := by decide +kernel
theorem dX4_add_59 : decode cX4_add 59 = .ok (.aload_n 0, 1) := by decide +kernel
theorem dX4_add_60 : decode cX4_add 60 = .ok (.getfield 24, 3) := by decide +kernel
theorem dX4_add_63 : decode cX4_add 63 = .ok (.iload 6, 2) := by decide +kernel
theorem dX4_add_65 : decode cX4_add 65 = .ok (.iload_n 3, 1) := by decide +kernel
theorem dX4_add_66 : decode cX4_add 66 = .ok (.iastore, 1) := by decide +kernel
theorem dX4_add_67 : decode cX4_add 67 = .ok (.aload_n 0, 1) := by decide +kernel
theorem dX4_add_68 : decode cX4_add 68 = .ok (.getfield 27, 3) := by decide +kernel
theorem dX4_add_71 : decode cX4_add 71 = .ok (.iload 6, 2) := by decide +kernel
theorem dX4_add_73 : decode cX4_add 73 = .ok (.iload 4, 2) := by decide +kernel
theorem dX4_add_75 : decode cX4_add 75 = .ok (.iastore, 1) := by decide +kernel
theorem dX4_add_76 : decode cX4_add 76 = .ok (.aload_n 0, 1) := by decide +kernel
theorem dX4_add_77 : decode cX4_add 77 = .ok (.dup, 1) := by decide +kernel
theorem dX4_add_78 : decode cX4_add 78 = .ok (.getfield 30, 3) := by decide +kernel
theorem dX4_add_81 : decode cX4_add 81 = .ok (.iconst 1, 1) := by decide +kernel
theorem dX4_add_82 : decode cX4_add 82 = .ok (.iadd, 1) := by decide +kernel
theorem dX4_add_83 : decode cX4_add 83 = .ok (.putfield 30, 3) := by decide +kernel
theorem dX4_add_86 : decode cX4_add 86 = .ok (.iload 6, 2) := by decide +kernel
theorem dX4_add_88 : decode cX4_add 88 = .ok (.ireturn, 1) := by decide +kernel
theorem dX4_waitingFor_0 : decode cX4_waitingFor 0 = .ok (.iconst 0, 1) := by decide +kernel
theorem dX4_waitingFor_1 : decode cX4_waitingFor 1 = .ok (.istore_n 2, 1) := by decide +kernel
theorem dX4_waitingFor_2 : decode cX4_waitingFor 2 = .ok (.iload_n 2, 1) := by decide +kernel
theorem dX4_waitingFor_3 : decode cX4_waitingFor 3 = .ok (.aload_n 0, 1) := by decide +kernel
theorem dX4_waitingFor_4 : decode cX4_waitingFor 4 = .ok (.getfield 30, 3) := by decide +kernel
theorem dX4_waitingFor_7 : decode cX4_waitingFor 7 = .ok (.if_icmp .ge 31, 3) := by decide +kernel
theorem dX4_waitingFor_10 : decode cX4_waitingFor 10 = .ok (.aload_n 0, 1) := by decide +kernel
theorem dX4_waitingFor_11 : decode cX4_waitingFor 11 = .ok (.getfield 9, 3) := by decide +kernel
theorem dX4_waitingFor_14 : decode cX4_waitingFor 14 = .ok (.iload_n 2, 1) := by decide +kernel
theorem dX4_waitingFor_15 : decode cX4_waitingFor 15 = .ok (.iaload, 1) := by decide +kernel
theorem dX4_waitingFor_16 : decode cX4_waitingFor 16 = .ok (.iconst 1, 1) := by decide +kernel
theorem dX4_waitingFor_17 : decode cX4_waitingFor 17 = .ok (.if_icmp .ne 15, 3) := by decide +kernel
theorem dX4_waitingFor_20 : decode cX4_waitingFor 20 = .ok (.aload_n 0, 1) := by decide +kernel
theorem dX4_waitingFor_21 : decode cX4_waitingFor 21 = .ok (.getfield 18, 3) := by decide +kernel
theorem dX4_waitingFor_24 : decode cX4_waitingFor 24 = .ok (.iload_n 2, 1) := by decide +kernel
theorem dX4_waitingFor_25 : decode cX4_waitingFor 25 = .ok (.iaload, 1) := by decide +kernel
theorem dX4_waitingFor_26 : decode cX4_waitingFor 26 = .ok (.iload_n 1, 1) := by decide +kernel
theorem dX4_waitingFor_27 : decode cX4_waitingFor 27 = .ok (.if_icmp .ne 5, 3) := by decide +kernel
theorem dX4_waitingFor_30 : decode cX4_waitingFor 30 = .ok (.iload_n 2, 1) := by decide +kernel
theorem dX4_waitingFor_31 : decode cX4_waitingFor 31 = .ok (.ireturn, 1) := by decide +kernel
theorem dX4_waitingFor_32 : decode cX4_waitingFor 32 = .ok (.iinc 2 1, 3) := by decide +kernel
theorem dX4_waitingFor_35 : decode cX4_waitingFor 35 = .ok (.goto (-33), 3) := by decide +kernel
theorem dX4_waitingFor_38 : decode cX4_waitingFor 38 = .ok (.iconst (-1), 1) := by decide +kernel
theorem dX4_waitingFor_39 : decode cX4_waitingFor 39 = .ok (.ireturn, 1) := by decide +kernel
theorem dX4_countWaiting_0 : decode cX4_countWaiting 0 = .ok (.iconst 0, 1) := by decide +kernel
theorem dX4_countWaiting_1 : decode cX4_countWaiting 1 = .ok (.istore_n 1, 1) := by decide +kernel
theorem dX4_countWaiting_2 : decode cX4_countWaiting 2 = .ok (.iconst 0, 1) := by decide +kernel
theorem dX4_countWaiting_3 : decode cX4_countWaiting 3 = .ok (.istore_n 2, 1) := by decide +kernel
theorem dX4_countWaiting_4 : decode cX4_countWaiting 4 = .ok (.iload_n 2, 1) := by decide +kernel
theorem dX4_countWaiting_5 : decode cX4_countWaiting 5 = .ok (.aload_n 0, 1) := by decide +kernel
theorem dX4_countWaiting_6 : decode cX4_countWaiting 6 = .ok (.getfield 30, 3) := by decide +kernel
theorem dX4_countWaiting_9 : decode cX4_countWaiting 9 = .ok (.if_icmp .ge 22, 3) := by decide +kernel
theorem dX4_countWaiting_12 : decode cX4_countWaiting 12 = .ok (.aload_n 0, 1) := by decide +kernel
theorem dX4_countWaiting_13 : decode cX4_countWaiting 13 = .ok (.getfield 9, 3) := by decide +kernel
theorem dX4_countWaiting_16 : decode cX4_countWaiting 16 = .ok (.iload_n 2, 1) := by decide +kernel
theorem dX4_countWaiting_17 : decode cX4_countWaiting 17 = .ok (.iaload, 1) := by decide +kernel
theorem dX4_countWaiting_18 : decode cX4_countWaiting 18 = .ok (.iconst 1, 1) := by decide +kernel
theorem dX4_countWaiting_19 : decode cX4_countWaiting 19 = .ok (.if_icmp .ne 6, 3) := by decide +kernel
theorem dX4_countWaiting_22 : decode cX4_countWaiting 22 = .ok (.iinc 1 1, 3) := by decide +kernel
theorem dX4_countWaiting_25 : decode cX4_countWaiting 25 = .ok (.iinc 2 1, 3) := by decide +kernel
theorem dX4_countWaiting_28 : decode cX4_countWaiting 28 = .ok (.goto (-24), 3) := by decide +kernel
theorem dX4_countWaiting_31 : decode cX4_countWaiting 31 = .ok (.iload_n 1, 1) := by decide +kernel
theorem dX4_countWaiting_32 : decode cX4_countWaiting 32 = .ok (.ireturn, 1) := by decide +kernel
theorem dX4_countWaitingAt_0 : decode cX4_countWaitingAt 0 = .ok (.iconst 0, 1) := by decide +kernel
theorem dX4_countWaitingAt_1 : decode cX4_countWaitingAt 1 = .ok (.istore_n 2, 1) := by decide +kernel
theorem dX4_countWaitingAt_2 : decode cX4_countWaitingAt 2 = .ok (.iconst 0, 1) := by decide +kernel
theorem dX4_countWaitingAt_3 : decode cX4_countWaitingAt 3 = .ok (.istore_n 3, 1) := by decide +kernel
theorem dX4_countWaitingAt_4 : decode cX4_countWaitingAt 4 = .ok (.iload_n 3, 1) := by decide +kernel
theorem dX4_countWaitingAt_5 : decode cX4_countWaitingAt 5 = .ok (.aload_n 0, 1) := by decide +kernel
theorem dX4_countWaitingAt_6 : decode cX4_countWaitingAt 6 = .ok (.getfield 30, 3) := by decide +kernel
theorem dX4_countWaitingAt_9 : decode cX4_countWaitingAt 9 = .ok (.if_icmp .ge 32, 3) := by decide +kernel
theorem dX4_countWaitingAt_12 : decode cX4_countWaitingAt 12 = .ok (.aload_n 0, 1) := by decide +kernel
theorem dX4_countWaitingAt_13 : decode cX4_countWaitingAt 13 = .ok (.getfield 9, 3) := by decide +kernel
theorem dX4_countWaitingAt_16 : decode cX4_countWaitingAt 16 = .ok (.iload_n 3, 1) := by decide +kernel
theorem dX4_countWaitingAt_17 : decode cX4_countWaitingAt 17 = .ok (.iaload, 1) := by decide +kernel
theorem dX4_countWaitingAt_18 : decode cX4_countWaitingAt 18 = .ok (.iconst 1, 1) := by decide +kernel
theorem dX4_countWaitingAt_19 : decode cX4_countWaitingAt 19 = .ok (.if_icmp .ne 16, 3) := by decide +kernel
theorem dX4_countWaitingAt_22 : decode cX4_countWaitingAt 22 = .ok (.aload_n 0, 1) := by decide +kernel
theorem dX4_countWaitingAt_23 : decode cX4_countWaitingAt 23 = .ok (.getfield 27, 3) := by decide +kernel
theorem dX4_countWaitingAt_26 : decode cX4_countWaitingAt 26 = .ok (.iload_n 3, 1) := by decide +kernel
theorem dX4_countWaitingAt_27 : decode cX4_countWaitingAt 27 = .ok (.iaload, 1) := by decide +kernel
theorem dX4_countWaitingAt_28 : decode cX4_countWaitingAt 28 = .ok (.iload_n 1, 1) := by decide +kernel
theorem dX4_countWaitingAt_29 : decode cX4_countWaitingAt 29 = .ok (.if_icmp .ne 6, 3) := by decide +kernel
theorem dX4_countWaitingAt_32 : decode cX4_countWaitingAt 32 = .ok (.iinc 2 1, 3) := by decide +kernel
theorem dX4_countWaitingAt_35 : decode cX4_countWaitingAt 35 = .ok (.iinc 3 1, 3) := by decide +kernel
theorem dX4_countWaitingAt_38 : decode cX4_countWaitingAt 38 = .ok (.goto (-34), 3) := by decide +kernel
theorem dX4_countWaitingAt_41 : decode cX4_countWaitingAt 41 = .ok (.iload_n 2, 1) := by decide +kernel
theorem dX4_countWaitingAt_42 : decode cX4_countWaitingAt 42 = .ok (.ireturn, 1) := by decide +kernel
theorem dX4_cancelFor_0 : decode cX4_cancelFor 0 = .ok (.aload_n 0, 1) := by decide +kernel
theorem dX4_cancelFor_1 : decode cX4_cancelFor 1 = .ok (.iload_n 1, 1) := by decide +kernel
theorem dX4_cancelFor_2 : decode cX4_cancelFor 2 = .ok (.invokevirtual 34, 3) := by decide +kernel
theorem dX4_cancelFor_5 : decode cX4_cancelFor 5 = .ok (.istore_n 2, 1) := by decide +kernel
theorem dX4_cancelFor_6 : decode cX4_cancelFor 6 = .ok (.iload_n 2, 1) := by decide +kernel
theorem dX4_cancelFor_7 : decode cX4_cancelFor 7 = .ok (.iconst (-1), 1) := by decide +kernel
theorem dX4_cancelFor_8 : decode cX4_cancelFor 8 = .ok (.if_icmp .eq 10, 3) := by decide +kernel
theorem dX4_cancelFor_11 : decode cX4_cancelFor 11 = .ok (.aload_n 0, 1) := by decide +kernel
theorem dX4_cancelFor_12 : decode cX4_cancelFor 12 = .ok (.getfield 9, 3) := by decide +kernel
theorem dX4_cancelFor_15 : decode cX4_cancelFor 15 = .ok (.iload_n 2, 1) := by decide +kernel
theorem dX4_cancelFor_16 : decode cX4_cancelFor 16 = .ok (.iconst 3, 1) := by decide +kernel
theorem dX4_cancelFor_17 : decode cX4_cancelFor 17 = .ok (.iastore, 1) := by decide +kernel
theorem dX4_cancelFor_18 : decode cX4_cancelFor 18 = .ok (.return_, 1) := by decide +kernel
theorem dX4_cancelBy_0 : decode cX4_cancelBy 0 = .ok (.iconst 0, 1) := by decide +kernel
theorem dX4_cancelBy_1 : decode cX4_cancelBy 1 = .ok (.istore_n 2, 1) := by decide +kernel
theorem dX4_cancelBy_2 : decode cX4_cancelBy 2 = .ok (.iload_n 2, 1) := by decide +kernel
theorem dX4_cancelBy_3 : decode cX4_cancelBy 3 = .ok (.aload_n 0, 1) := by decide +kernel
theorem dX4_cancelBy_4 : decode cX4_cancelBy 4 = .ok (.getfield 30, 3) := by decide +kernel
theorem dX4_cancelBy_7 : decode cX4_cancelBy 7 = .ok (.if_icmp .ge 36, 3) := by decide +kernel
theorem dX4_cancelBy_10 : decode cX4_cancelBy 10 = .ok (.aload_n 0, 1) := by decide +kernel
theorem dX4_cancelBy_11 : decode cX4_cancelBy 11 = .ok (.getfield 9, 3) := by decide +kernel
theorem dX4_cancelBy_14 : decode cX4_cancelBy 14 = .ok (.iload_n 2, 1) := by decide +kernel
theorem dX4_cancelBy_15 : decode cX4_cancelBy 15 = .ok (.iaload, 1) := by decide +kernel
theorem dX4_cancelBy_16 : decode cX4_cancelBy 16 = .ok (.iconst 1, 1) := by decide +kernel
theorem dX4_cancelBy_17 : decode cX4_cancelBy 17 = .ok (.if_icmp .ne 20, 3) := by decide +kernel
theorem dX4_cancelBy_20 : decode cX4_cancelBy 20 = .ok (.aload_n 0, 1) := by decide +kernel
theorem dX4_cancelBy_21 : decode cX4_cancelBy 21 = .ok (.getfield 21, 3) := by decide +kernel
theorem dX4_cancelBy_24 : decode cX4_cancelBy 24 = .ok (.iload_n 2, 1) := by decide +kernel
theorem dX4_cancelBy_25 : decode cX4_cancelBy 25 = .ok (.iaload, 1) := by decide +kernel
theorem dX4_cancelBy_26 : decode cX4_cancelBy 26 = .ok (.iload_n 1, 1) := by decide +kernel
theorem dX4_cancelBy_27 : decode cX4_cancelBy 27 = .ok (.if_icmp .ne 10, 3) := by decide +kernel
theorem dX4_cancelBy_30 : decode cX4_cancelBy 30 = .ok (.aload_n 0, 1) := by decide +kernel
theorem dX4_cancelBy_31 : decode cX4_cancelBy 31 = .ok (.getfield 9, 3) := by decide +kernel
theorem dX4_cancelBy_34 : decode cX4_cancelBy 34 = .ok (.iload_n 2, 1) := by decide +kernel
theorem dX4_cancelBy_35 : decode cX4_cancelBy 35 = .ok (.iconst 3, 1) := by decide +kernel
theorem dX4_cancelBy_36 : decode cX4_cancelBy 36 = .ok (.iastore, 1) := by decide +kernel
theorem dX4_cancelBy_37 : decode cX4_cancelBy 37 = .ok (.iinc 2 1, 3) := by decide +kernel
theorem dX4_cancelBy_40 : decode cX4_cancelBy 40 = .ok (.goto (-38), 3) := by decide +kernel
theorem dX4_cancelBy_43 : decode cX4_cancelBy 43 = .ok (.return_, 1) := by decide +kernel
theorem dX4_putOff_0 : decode cX4_putOff 0 = .ok (.aload_n 0, 1) := by decide +kernel
theorem dX4_putOff_1 : decode cX4_putOff 1 = .ok (.getfield 27, 3) := by decide +kernel
theorem dX4_putOff_4 : decode cX4_putOff 4 = .ok (.iload_n 1, 1) := by decide +kernel
theorem dX4_putOff_5 : decode cX4_putOff 5 = .ok (.iaload, 1) := by decide +kernel
theorem dX4_putOff_6 : decode cX4_putOff 6 = .ok (.bipush 100, 2) := by decide +kernel
theorem dX4_putOff_8 : decode cX4_putOff 8 = .ok (.iadd, 1) := by decide +kernel
theorem dX4_putOff_9 : decode cX4_putOff 9 = .ok (.istore_n 2, 1) := by decide +kernel
theorem dX4_putOff_10 : decode cX4_putOff 10 = .ok (.iconst 0, 1) := by decide +kernel
theorem dX4_putOff_11 : decode cX4_putOff 11 = .ok (.istore_n 3, 1) := by decide +kernel
theorem dX4_putOff_12 : decode cX4_putOff 12 = .ok (.iload_n 3, 1) := by decide +kernel
theorem dX4_putOff_13 : decode cX4_putOff 13 = .ok (.bipush 60, 2) := by decide +kernel
theorem dX4_putOff_15 : decode cX4_putOff 15 = .ok (.if_icmp .ge 21, 3) := by decide +kernel
theorem dX4_putOff_18 : decode cX4_putOff 18 = .ok (.aload_n 0, 1) := by decide +kernel
theorem dX4_putOff_19 : decode cX4_putOff 19 = .ok (.iload_n 2, 1) := by decide +kernel
theorem dX4_putOff_20 : decode cX4_putOff 20 = .ok (.invokevirtual 38, 3) := by decide +kernel
theorem dX4_putOff_23 : decode cX4_putOff 23 = .ok (.iconst 3, 1) := by decide +kernel
theorem dX4_putOff_24 : decode cX4_putOff 24 = .ok (.if_icmp .lt 12, 3) := by decide +kernel
theorem dX4_putOff_27 : decode cX4_putOff 27 = .ok (.iinc 2 100, 3) := by decide +kernel
theorem dX4_putOff_30 : decode cX4_putOff 30 = .ok (.iinc 3 1, 3) := by decide +kernel
theorem dX4_putOff_33 : decode cX4_putOff 33 = .ok (.goto (-21), 3) := by decide +kernel
theorem dX4_putOff_36 : decode cX4_putOff 36 = .ok (.aload_n 0, 1) := by decide +kernel
theorem dX4_putOff_37 : decode cX4_putOff 37 = .ok (.getfield 27, 3) := by decide +kernel
theorem dX4_putOff_40 : decode cX4_putOff 40 = .ok (.iload_n 1, 1) := by decide +kernel
theorem dX4_putOff_41 : decode cX4_putOff 41 = .ok (.iload_n 2, 1) := by decide +kernel
theorem dX4_putOff_42 : decode cX4_putOff 42 = .ok (.iastore, 1) := by decide +kernel
theorem dX4_putOff_43 : decode cX4_putOff 43 = .ok (.return_, 1) := by decide +kernel
theorem dX5_init_0 : decode cX5_init 0 = .ok (.aload_n 0, 1) := by decide +kernel
theorem dX5_init_1 : decode cX5_init 1 = .ok (.invokespecial 3, 3) := by decide +kernel
theorem dX5_init_4 : decode cX5_init 4 = .ok (.aload_n 0, 1) := by decide +kernel
theorem dX5_init_5 : decode cX5_init 5 = .ok (.bipush 7, 2) := by decide +kernel
theorem dX5_init_7 : decode cX5_init 7 = .ok (.newarray .int, 2) := by decide +kernel
theorem dX5_init_9 : decode cX5_init 9 = .ok (.putfield 9, 3) := by decide +kernel
theorem dX5_init_12 : decode cX5_init 12 = .ok (.aload_n 0, 1) := by decide +kernel
theorem dX5_init_13 : decode cX5_init 13 = .ok (.iconst 0, 1) := by decide +kernel
theorem dX5_init_14 : decode cX5_init 14 = .ok (.putfield 15, 3) := by decide +kernel
theorem dX5_init_17 : decode cX5_init 17 = .ok (.return_, 1) := by decide +kernel
theorem dX5_begin_0 : decode cX5_begin 0 = .ok (.aload_n 0, 1) := by decide +kernel
theorem dX5_begin_1 : decode cX5_begin 1 = .ok (.getfield 9, 3) := by decide +kernel
theorem dX5_begin_4 : decode cX5_begin 4 = .ok (.iconst 0, 1) := by decide +kernel
theorem dX5_begin_5 : decode cX5_begin 5 = .ok (.iload_n 1, 1) := by decide +kernel
theorem dX5_begin_6 : decode cX5_begin 6 = .ok (.iastore, 1) := by decide +kernel
theorem dX5_begin_7 : decode cX5_begin 7 = .ok (.aload_n 0, 1) := by decide +kernel
theorem dX5_begin_8 : decode cX5_begin 8 = .ok (.iconst 1, 1) := by decide +kernel
theorem dX5_begin_9 : decode cX5_begin 9 = .ok (.putfield 15, 3) := by decide +kernel
theorem dX5_begin_12 : decode cX5_begin 12 = .ok (.return_, 1) := by decide +kernel
theorem dX5_add_0 : decode cX5_add 0 = .ok (.aload_n 0, 1) := by decide +kernel
theorem dX5_add_1 : decode cX5_add 1 = .ok (.getfield 15, 3) := by decide +kernel
theorem dX5_add_4 : decode cX5_add 4 = .ok (.aload_n 0, 1) := by decide +kernel
theorem dX5_add_5 : decode cX5_add 5 = .ok (.getfield 9, 3) := by decide +kernel
theorem dX5_add_8 : decode cX5_add 8 = .ok (.arraylength, 1) := by decide +kernel
theorem dX5_add_9 : decode cX5_add 9 = .ok (.if_icmp .ge 23, 3) := by decide +kernel
theorem dX5_add_12 : decode cX5_add 12 = .ok (.aload_n 0, 1) := by decide +kernel
theorem dX5_add_13 : decode cX5_add 13 = .ok (.getfield 9, 3) := by decide +kernel
theorem dX5_add_16 : decode cX5_add 16 = .ok (.aload_n 0, 1) := by decide +kernel
theorem dX5_add_17 : decode cX5_add 17 = .ok (.getfield 15, 3) := by decide +kernel
theorem dX5_add_20 : decode cX5_add 20 = .ok (.iload_n 1, 1) := by decide +kernel
theorem dX5_add_21 : decode cX5_add 21 = .ok (.iastore, 1) := by decide +kernel
theorem dX5_add_22 : decode cX5_add 22 = .ok (.aload_n 0, 1) := by decide +kernel
theorem dX5_add_23 : decode cX5_add 23 = .ok (.dup, 1) := by decide +kernel
theorem dX5_add_24 : decode cX5_add 24 = .ok (.getfield 15, 3) := by decide +kernel
theorem dX5_add_27 : decode cX5_add 27 = .ok (.iconst 1, 1) := by decide +kernel
theorem dX5_add_28 : decode cX5_add 28 = .ok (.iadd, 1) := by decide +kernel
theorem dX5_add_29 : decode cX5_add 29 = .ok (.putfield 15, 3) := by decide +kernel
theorem dX5_add_32 : decode cX5_add 32 = .ok (.return_, 1) := by decide +kernel
theorem dX5_hopAt_0 : decode cX5_hopAt 0 = .ok (.iload_n 1, 1) := by decide +kernel
theorem dX5_hopAt_1 : decode cX5_hopAt 1 = .ok (.ifCond .lt 20, 3) := by decide +kernel
theorem dX5_hopAt_4 : decode cX5_hopAt 4 = .ok (.iload_n 1, 1) := by decide +kernel
theorem dX5_hopAt_5 : decode cX5_hopAt 5 = .ok (.aload_n 0, 1) := by decide +kernel
theorem dX5_hopAt_6 : decode cX5_hopAt 6 = .ok (.getfield 15, 3) := by decide +kernel
theorem dX5_hopAt_9 : decode cX5_hopAt 9 = .ok (.if_icmp .ge 12, 3) := by decide +kernel
theorem dX5_hopAt_12 : decode cX5_hopAt 12 = .ok (.aload_n 0, 1) := by decide +kernel
theorem dX5_hopAt_13 : decode cX5_hopAt 13 = .ok (.getfield 9, 3) := by decide +kernel
theorem dX5_hopAt_16 : decode cX5_hopAt 16 = .ok (.iload_n 1, 1) := by decide +kernel
theorem dX5_hopAt_17 : decode cX5_hopAt 17 = .ok (.iaload, 1) := by decide +kernel
theorem dX5_hopAt_18 : decode cX5_hopAt 18 = .ok (.goto 4, 3) := by decide +kernel
theorem dX5_hopAt_21 : decode cX5_hopAt 21 = .ok (.iconst (-1), 1) := by decide +kernel
theorem dX5_hopAt_22 : decode cX5_hopAt 22 = .ok (.ireturn, 1) := by decide +kernel
theorem dX5_has_0 : decode cX5_has 0 = .ok (.iconst 0, 1) := by decide +kernel
theorem dX5_has_1 : decode cX5_has 1 = .ok (.istore_n 2, 1) := by decide +kernel
theorem dX5_has_2 : decode cX5_has 2 = .ok (.iload_n 2, 1) := by decide +kernel
theorem dX5_has_3 : decode cX5_has 3 = .ok (.aload_n 0, 1) := by decide +kernel
theorem dX5_has_4 : decode cX5_has 4 = .ok (.getfield 15, 3) := by decide +kernel
theorem dX5_has_7 : decode cX5_has 7 = .ok (.if_icmp .ge 21, 3) := by decide +kernel
theorem dX5_has_10 : decode cX5_has 10 = .ok (.aload_n 0, 1) := by decide +kernel
theorem dX5_has_11 : decode cX5_has 11 = .ok (.getfield 9, 3) := by decide +kernel
theorem dX5_has_14 : decode cX5_has 14 = .ok (.iload_n 2, 1) := by decide +kernel
theorem dX5_has_15 : decode cX5_has 15 = .ok (.iaload, 1) := by decide +kernel
theorem dX5_has_16 : decode cX5_has 16 = .ok (.iload_n 1, 1) := by decide +kernel
theorem dX5_has_17 : decode cX5_has 17 = .ok (.if_icmp .ne 5, 3) := by decide +kernel
theorem dX5_has_20 : decode cX5_has 20 = .ok (.iconst 1, 1) := by decide +kernel
theorem dX5_has_21 : decode cX5_has 21 = .ok (.ireturn, 1) := by decide +kernel
theorem dX5_has_22 : decode cX5_has 22 = .ok (.iinc 2 1, 3) := by decide +kernel
theorem dX5_has_25 : decode cX5_has 25 = .ok (.goto (-23), 3) := by decide +kernel
theorem dX5_has_28 : decode cX5_has 28 = .ok (.iconst 0, 1) := by decide +kernel
theorem dX5_has_29 : decode cX5_has 29 = .ok (.ireturn, 1) := by decide +kernel
theorem dX6_init_0 : decode cX6_init 0 = .ok (.aload_n 0, 1) := by decide +kernel
theorem dX6_init_1 : decode cX6_init 1 = .ok (.invokespecial 1, 3) := by decide +kernel
theorem dX6_init_4 : decode cX6_init 4 = .ok (.aload_n 0, 1) := by decide +kernel
theorem dX6_init_5 : decode cX6_init 5 = .ok (.bipush 20, 2) := by decide +kernel
theorem dX6_init_7 : decode cX6_init 7 = .ok (.newarray .int, 2) := by decide +kernel
theorem dX6_init_9 : decode cX6_init 9 = .ok (.putfield 9, 3) := by decide +kernel
theorem dX6_init_12 : decode cX6_init 12 = .ok (.aload_n 0, 1) := by decide +kernel
theorem dX6_init_13 : decode cX6_init 13 = .ok (.new 13, 3) := by decide +kernel
theorem dX6_init_16 : decode cX6_init 16 = .ok (.dup, 1) := by decide +kernel
theorem dX6_init_17 : decode cX6_init 17 = .ok (.invokespecial 15, 3) := by decide +kernel
theorem dX6_init_20 : decode cX6_init 20 = .ok (.putfield 16, 3) := by decide +kernel
theorem dX6_init_23 : decode cX6_init 23 = .ok (.aload_n 0, 1) := by decide +kernel
theorem dX6_init_24 : decode cX6_init 24 = .ok (.new 20, 3) := by decide +kernel
theorem dX6_init_27 : decode cX6_init 27 = .ok (.dup, 1) := by decide +kernel
theorem dX6_init_28 : decode cX6_init 28 = .ok (.invokespecial 22, 3) := by decide +kernel
theorem dX6_init_31 : decode cX6_init 31 = .ok (.putfield 23, 3) := by decide +kernel
theorem dX6_init_34 : decode cX6_init 34 = .ok (.aload_n 0, 1) := by decide +kernel
theorem dX6_init_35 : decode cX6_init 35 = .ok (.new 27, 3) := by decide +kernel
theorem dX6_init_38 : decode cX6_init 38 = .ok (.dup, 1) := by decide +kernel
theorem dX6_init_39 : decode cX6_init 39 = .ok (.invokespecial 29, 3) := by decide +kernel
theorem dX6_init_42 : decode cX6_init 42 = .ok (.putfield 30, 3) := by decide +kernel
theorem dX6_init_45 : decode cX6_init 45 = .ok (.aload_n 0, 1) := by decide +kernel
theorem dX6_init_46 : decode cX6_init 46 = .ok (.new 34, 3) := by decide +kernel
theorem dX6_init_49 : decode cX6_init 49 = .ok (.dup, 1) := by decide +kernel
theorem dX6_init_50 : decode cX6_init 50 = .ok (.invokespecial 36, 3) := by decide +kernel
theorem dX6_init_53 : decode cX6_init 53 = .ok (.putfield 37, 3) := by decide +kernel
theorem dX6_init_56 : decode cX6_init 56 = .ok (.aload_n 0, 1) := by decide +kernel
theorem dX6_init_57 : decode cX6_init 57 = .ok (.new 41, 3) := by decide +kernel
theorem dX6_init_60 : decode cX6_init 60 = .ok (.dup, 1) := by decide +kernel
theorem dX6_init_61 : decode cX6_init 61 = .ok (.invokespecial 43, 3) := by decide +kernel
theorem dX6_init_64 : decode cX6_init 64 = .ok (.putfield 44, 3) := by decide +kernel
theorem dX6_init_67 : decode cX6_init 67 = .ok (.aload_n 0, 1) := by decide +kernel
theorem dX6_init_68 : decode cX6_init 68 = .ok (.new 48, 3) := by decide +kernel
theorem dX6_init_71 : decode cX6_init 71 = .ok (.dup, 1) := by decide +kernel
theorem dX6_init_72 : decode cX6_init 72 = .ok (.invokespecial 50, 3) := by decide +kernel
theorem dX6_init_75 : decode cX6_init 75 = .ok (.putfield 51, 3) := by decide +kernel
theorem dX6_init_78 : decode cX6_init 78 = .ok (.aload_n 0, 1) := by decide +kernel
theorem dX6_init_79 : decode cX6_init 79 = .ok (.iconst 0, 1) := by decide +kernel
theorem dX6_init_80 : decode cX6_init 80 = .ok (.putfield 55, 3) := by decide +kernel
theorem dX6_init_83 : decode cX6_init 83 = .ok (.aload_n 0, 1) := by decide +kernel
theorem dX6_init_84 : decode cX6_init 84 = .ok (.getfield 9, 3) := by decide +kernel
theorem dX6_init_87 : decode cX6_init 87 = .ok (.iconst (-1), 1) := by decide +kernel
theorem dX6_init_88 : decode cX6_init 88 = .ok (.invokestatic 59, 3) := by decide +kernel
theorem dX6_init_91 : decode cX6_init 91 = .ok (.return_, 1) := by decide +kernel
theorem dX6_give_0 : decode cX6_give 0 = .ok (.iload_n 1, 1) := by decide +kernel
theorem dX6_give_1 : decode cX6_give 1 = .ok (.invokestatic 65, 3) := by decide +kernel
theorem dX6_give_4 : decode cX6_give 4 = .ok (.ifCond .eq 10, 3) := by decide +kernel
theorem dX6_give_7 : decode cX6_give 7 = .ok (.iload_n 2, 1) := by decide +kernel
theorem dX6_give_8 : decode cX6_give 8 = .ok (.invokestatic 69, 3) := by decide +kernel
theorem dX6_give_11 : decode cX6_give 11 = .ok (.ifCond .ne 13, 3) := by decide +kernel
theorem dX6_give_14 : decode cX6_give 14 = .ok (.new 72, 3) := by decide +kernel
theorem dX6_give_17 : decode cX6_give 17 = .ok (.dup, 1) := by decide +kernel
theorem dX6_give_18 : decode cX6_give 18 = .ok (.ldc 74, 2) := by decide +kernel
theorem dX6_give_20 : decode cX6_give 20 = .ok (.invokespecial 76, 3) := by decide +kernel
theorem dX6_give_23 : decode cX6_give 23 = .ok (.athrow, 1) := by decide +kernel
theorem dX6_give_24 : decode cX6_give 24 = .ok (.aload_n 0, 1) := by decide +kernel
theorem dX6_give_25 : decode cX6_give 25 = .ok (.getfield 9, 3) := by decide +kernel
theorem dX6_give_28 : decode cX6_give 28 = .ok (.iload_n 1, 1) := by decide +kernel
theorem dX6_give_29 : decode cX6_give 29 = .ok (.iaload, 1) := by decide +kernel
theorem dX6_give_30 : decode cX6_give 30 = .ok (.iconst (-1), 1) := by decide +kernel
theorem dX6_give_31 : decode cX6_give 31 = .ok (.if_icmp .ne 15, 3) := by decide +kernel
theorem dX6_give_34 : decode cX6_give 34 = .ok (.aload_n 0, 1) := by decide +kernel
theorem dX6_give_35 : decode cX6_give 35 = .ok (.getfield 16, 3) := by decide +kernel
theorem dX6_give_38 : decode cX6_give 38 = .ok (.getfield 79, 3) := by decide +kernel
theorem dX6_give_41 : decode cX6_give 41 = .ok (.iload_n 2, 1) := by decide +kernel
theorem dX6_give_42 : decode cX6_give 42 = .ok (.baload, 1) := by decide +kernel
theorem dX6_give_43 : decode cX6_give 43 = .ok (.ifCond .eq 13, 3) := by decide +kernel
theorem dX6_give_46 : decode cX6_give 46 = .ok (.new 83, 3) := by decide +kernel
theorem dX6_give_49 : decode cX6_give 49 = .ok (.dup, 1) := by decide +kernel
theorem dX6_give_50 : decode cX6_give 50 = .ok (.ldc 85, 2) := by decide +kernel
theorem dX6_give_52 : decode cX6_give 52 = .ok (.invokespecial 87, 3) := by decide +kernel
theorem dX6_give_55 : decode cX6_give 55 = .ok (.athrow, 1) := by decide +kernel
theorem dX6_give_56 : decode cX6_give 56 = .ok (.aload_n 0, 1) := by decide +kernel
theorem dX6_give_57 : decode cX6_give 57 = .ok (.getfield 9, 3) := by decide +kernel
theorem dX6_give_60 : decode cX6_give 60 = .ok (.iload_n 1, 1) := by decide +kernel
theorem dX6_give_61 : decode cX6_give 61 = .ok (.iload_n 2, 1) := by decide +kernel
theorem dX6_give_62 : decode cX6_give 62 = .ok (.iastore, 1) := by decide +kernel
theorem dX6_give_63 : decode cX6_give 63 = .ok (.aload_n 0, 1) := by decide +kernel
theorem dX6_give_64 : decode cX6_give 64 = .ok (.iload_n 2, 1) := by decide +kernel
theorem dX6_give_65 : decode cX6_give 65 = .ok (.invokevirtual 88, 3) := by decide +kernel
theorem dX6_give_68 : decode cX6_give 68 = .ok (.ireturn, 1) := by decide +kernel
theorem dX6_giveBack_0 : decode cX6_giveBack 0 = .ok (.iload_n 1, 1) := by decide +kernel
theorem dX6_giveBack_1 : decode cX6_giveBack 1 = .ok (.invokestatic 65, 3) := by decide +kernel
theorem dX6_giveBack_4 : decode cX6_giveBack 4 = .ok (.ifCond .ne 13, 3) := by decide +kernel
theorem dX6_giveBack_7 : decode cX6_giveBack 7 = .ok (.new 72, 3) := by decide +kernel
theorem dX6_giveBack_10 : decode cX6_giveBack 10 = .ok (.dup, 1) := by decide +kernel
theorem dX6_giveBack_11 : decode cX6_giveBack 11 = .ok (.ldc 92, 2) := by decide +kernel
theorem dX6_giveBack_13 : decode cX6_giveBack 13 = .ok (.invokespecial 76, 3) := by decide +kernel
theorem dX6_giveBack_16 : decode cX6_giveBack 16 = .ok (.athrow, 1) := by decide +kernel
theorem dX6_giveBack_17 : decode cX6_giveBack 17 = .ok (.aload_n 0, 1) := by decide +kernel
theorem dX6_giveBack_18 : decode cX6_giveBack 18 = .ok (.getfield 9, 3) := by decide +kernel
theorem dX6_giveBack_21 : decode cX6_giveBack 21 = .ok (.iload_n 1, 1) := by decide +kernel
theorem dX6_giveBack_22 : decode cX6_giveBack 22 = .ok (.iaload, 1) := by decide +kernel
theorem dX6_giveBack_23 : decode cX6_giveBack 23 = .ok (.iconst (-1), 1) := by decide +kernel
theorem dX6_giveBack_24 : decode cX6_giveBack 24 = .ok (.if_icmp .eq 11, 3) := by decide +kernel
theorem dX6_giveBack_27 : decode cX6_giveBack 27 = .ok (.aload_n 0, 1) := by decide +kernel
theorem dX6_giveBack_28 : decode cX6_giveBack 28 = .ok (.iload_n 1, 1) := by decide +kernel
theorem dX6_giveBack_29 : decode cX6_giveBack 29 = .ok (.invokevirtual 94, 3) := by decide +kernel
theorem dX6_giveBack_32 : decode cX6_giveBack 32 = .ok (.ifCond .eq 13, 3) := by decide +kernel
theorem dX6_giveBack_35 : decode cX6_giveBack 35 = .ok (.new 83, 3) := by decide +kernel
theorem dX6_giveBack_38 : decode cX6_giveBack 38 = .ok (.dup, 1) := by decide +kernel
theorem dX6_giveBack_39 : decode cX6_giveBack 39 = .ok (.ldc 97, 2) := by decide +kernel
theorem dX6_giveBack_41 : decode cX6_giveBack 41 = .ok (.invokespecial 87, 3) := by decide +kernel
theorem dX6_giveBack_44 : decode cX6_giveBack 44 = .ok (.athrow, 1) := by decide +kernel
theorem dX6_giveBack_45 : decode cX6_giveBack 45 = .ok (.aload_n 0, 1) := by decide +kernel
theorem dX6_giveBack_46 : decode cX6_giveBack 46 = .ok (.getfield 9, 3) := by decide +kernel
theorem dX6_giveBack_49 : decode cX6_giveBack 49 = .ok (.iload_n 1, 1) := by decide +kernel
theorem dX6_giveBack_50 : decode cX6_giveBack 50 = .ok (.iaload, 1) := by decide +kernel
theorem dX6_giveBack_51 : decode cX6_giveBack 51 = .ok (.istore_n 2, 1) := by decide +kernel
theorem dX6_giveBack_52 : decode cX6_giveBack 52 = .ok (.aload_n 0, 1) := by decide +kernel
theorem dX6_giveBack_53 : decode cX6_giveBack 53 = .ok (.getfield 9, 3) := by decide +kernel
theorem dX6_giveBack_56 : decode cX6_giveBack 56 = .ok (.iload_n 1, 1) := by decide +kernel
theorem dX6_giveBack_57 : decode cX6_giveBack 57 = .ok (.iconst (-1), 1) := by decide +kernel
theorem dX6_giveBack_58 : decode cX6_giveBack 58 = .ok (.iastore, 1) := by decide +kernel
theorem dX6_giveBack_59 : decode cX6_giveBack 59 = .ok (.iload_n 2, 1) := by decide +kernel
theorem dX6_giveBack_60 : decode cX6_giveBack 60 = .ok (.ireturn, 1) := by decide +kernel
theorem dX6_assign_0 : decode cX6_assign 0 = .ok (.iload_n 1, 1) := by decide +kernel
theorem dX6_assign_1 : decode cX6_assign 1 = .ok (.invokestatic 99, 3) := by decide +kernel
theorem dX6_assign_4 : decode cX6_assign 4 = .ok (.iload_n 2, 1) := by decide +kernel
theorem dX6_assign_5 : decode cX6_assign 5 = .ok (.invokestatic 103, 3) := by decide +kernel
theorem dX6_assign_8 : decode cX6_assign 8 = .ok (.aload_n 0, 1) := by decide +kernel
theorem dX6_assign_9 : decode cX6_assign 9 = .ok (.iload_n 1, 1) := by decide +kernel
theorem dX6_assign_10 : decode cX6_assign 10 = .ok (.invokevirtual 106, 3) := by decide +kernel
theorem dX6_assign_13 : decode cX6_assign 13 = .ok (.istore_n 3, 1) := by decide +kernel
theorem dX6_assign_14 : decode cX6_assign 14 = .ok (.iload_n 3, 1) := by decide +kernel
theorem dX6_assign_15 : decode cX6_assign 15 = .ok (.iconst (-1), 1) := by decide +kernel
theorem dX6_assign_16 : decode cX6_assign 16 = .ok (.if_icmp .eq 29, 3) := by decide +kernel
theorem dX6_assign_19 : decode cX6_assign 19 = .ok (.aload_n 0, 1) := by decide +kernel
theorem dX6_assign_20 : decode cX6_assign 20 = .ok (.getfield 23, 3) := by decide +kernel
theorem dX6_assign_23 : decode cX6_assign 23 = .ok (.iload_n 1, 1) := by decide +kernel
theorem dX6_assign_24 : decode cX6_assign 24 = .ok (.invokevirtual 109, 3) := by decide +kernel
theorem dX6_assign_27 : decode cX6_assign 27 = .ok (.ifCond .ne 18, 3) := by decide +kernel
theorem dX6_assign_30 : decode cX6_assign 30 = .ok (.aload_n 0, 1) := by decide +kernel
theorem dX6_assign_31 : decode cX6_assign 31 = .ok (.getfield 23, 3) := by decide +kernel
theorem dX6_assign_34 : decode cX6_assign 34 = .ok (.iload_n 1, 1) := by decide +kernel
theorem dX6_assign_35 : decode cX6_assign 35 = .ok (.aload_n 0, 1) := by decide +kernel
theorem dX6_assign_36 : decode cX6_assign 36 = .ok (.getfield 55, 3) := by decide +kernel
theorem dX6_assign_39 : decode cX6_assign 39 = .ok (.invokevirtual 112, 3) := by decide +kernel
theorem dX6_assign_42 : decode cX6_assign 42 = .ok (.ifCond .eq 13, 3) := by decide +kernel
theorem dX6_assign_45 : decode cX6_assign 45 = .ok (.new 83, 3) := by decide +kernel
theorem dX6_assign_48 : decode cX6_assign 48 = .ok (.dup, 1) := by decide +kernel
theorem dX6_assign_49 : decode cX6_assign 49 = .ok (.ldc 116, 2) := by decide +kernel
theorem dX6_assign_51 : decode cX6_assign 51 = .ok (.invokespecial 87, 3) := by decide +kernel
theorem dX6_assign_54 : decode cX6_assign 54 = .ok (.athrow, 1) := by decide +kernel
theorem dX6_assign_55 : decode cX6_assign 55 = .ok (.aload_n 0, 1) := by decide +kernel
theorem dX6_assign_56 : decode cX6_assign 56 = .ok (.getfield 23, 3) := by decide +kernel
theorem dX6_assign_59 : decode cX6_assign 59 = .ok (.iload_n 1, 1) := by decide +kernel
theorem dX6_assign_60 : decode cX6_assign 60 = .ok (.iload_n 3, 1) := by decide +kernel
theorem dX6_assign_61 : decode cX6_assign 61 = .ok (.iload_n 2, 1) := by decide +kernel
theorem dX6_assign_62 : decode cX6_assign 62 = .ok (.invokevirtual 118, 3) := by decide +kernel
theorem dX6_assign_65 : decode cX6_assign 65 = .ok (.aload_n 0, 1) := by decide +kernel
theorem dX6_assign_66 : decode cX6_assign 66 = .ok (.getfield 44, 3) := by decide +kernel
theorem dX6_assign_69 : decode cX6_assign 69 = .ok (.iload_n 1, 1) := by decide +kernel
theorem dX6_assign_70 : decode cX6_assign 70 = .ok (.iload_n 3, 1) := by decide +kernel
theorem dX6_assign_71 : decode cX6_assign 71 = .ok (.invokevirtual 122, 3) := by decide +kernel
theorem dX6_assign_74 : decode cX6_assign 74 = .ok (.iload_n 3, 1) := by decide +kernel
theorem dX6_assign_75 : decode cX6_assign 75 = .ok (.ireturn, 1) := by decide +kernel
theorem dX6_end_0 : decode cX6_end 0 = .ok (.iload_n 1, 1) := by decide +kernel
theorem dX6_end_1 : decode cX6_end 1 = .ok (.invokestatic 99, 3) := by decide +kernel
theorem dX6_end_4 : decode cX6_end 4 = .ok (.aload_n 0, 1) := by decide +kernel
theorem dX6_end_5 : decode cX6_end 5 = .ok (.iload_n 1, 1) := by decide +kernel
theorem dX6_end_6 : decode cX6_end 6 = .ok (.invokevirtual 126, 3) := by decide +kernel
theorem dX6_end_9 : decode cX6_end 9 = .ok (.aload_n 0, 1) := by decide +kernel
theorem dX6_end_10 : decode cX6_end 10 = .ok (.getfield 23, 3) := by decide +kernel
theorem dX6_end_13 : decode cX6_end 13 = .ok (.getfield 129, 3) := by decide +kernel
theorem dX6_end_16 : decode cX6_end 16 = .ok (.iload_n 1, 1) := by decide +kernel
theorem dX6_end_17 : decode cX6_end 17 = .ok (.iaload, 1) := by decide +kernel
theorem dX6_end_18 : decode cX6_end 18 = .ok (.istore_n 2, 1) := by decide +kernel
theorem dX6_end_19 : decode cX6_end 19 = .ok (.aload_n 0, 1) := by decide +kernel
theorem dX6_end_20 : decode cX6_end 20 = .ok (.getfield 23, 3) := by decide +kernel
theorem dX6_end_23 : decode cX6_end 23 = .ok (.iload_n 1, 1) := by decide +kernel
theorem dX6_end_24 : decode cX6_end 24 = .ok (.aload_n 0, 1) := by decide +kernel
theorem dX6_end_25 : decode cX6_end 25 = .ok (.getfield 55, 3) := by decide +kernel
theorem dX6_end_28 : decode cX6_end 28 = .ok (.invokevirtual 132, 3) := by decide +kernel
theorem dX6_end_31 : decode cX6_end 31 = .ok (.aload_n 0, 1) := by decide +kernel
theorem dX6_end_32 : decode cX6_end 32 = .ok (.getfield 44, 3) := by decide +kernel
theorem dX6_end_35 : decode cX6_end 35 = .ok (.iload_n 1, 1) := by decide +kernel
theorem dX6_end_36 : decode cX6_end 36 = .ok (.iconst (-1), 1) := by decide +kernel
theorem dX6_end_37 : decode cX6_end 37 = .ok (.invokevirtual 122, 3) := by decide +kernel
theorem dX6_end_40 : decode cX6_end 40 = .ok (.aload_n 0, 1) := by decide +kernel
theorem dX6_end_41 : decode cX6_end 41 = .ok (.getfield 30, 3) := by decide +kernel
theorem dX6_end_44 : decode cX6_end 44 = .ok (.iload_n 1, 1) := by decide +kernel
theorem dX6_end_45 : decode cX6_end 45 = .ok (.invokevirtual 135, 3) := by decide +kernel
theorem dX6_end_48 : decode cX6_end 48 = .ok (.iload_n 2, 1) := by decide +kernel
theorem dX6_end_49 : decode cX6_end 49 = .ok (.aload_n 0, 1) := by decide +kernel
theorem dX6_end_50 : decode cX6_end 50 = .ok (.iload_n 1, 1) := by decide +kernel
theorem dX6_end_51 : decode cX6_end 51 = .ok (.invokevirtual 106, 3) := by decide +kernel
theorem dX6_end_54 : decode cX6_end 54 = .ok (.if_icmp .eq 17, 3) := by decide +kernel
theorem dX6_end_57 : decode cX6_end 57 = .ok (.aload_n 0, 1) := by decide +kernel
theorem dX6_end_58 : decode cX6_end 58 = .ok (.getfield 37, 3) := by decide +kernel
theorem dX6_end_61 : decode cX6_end 61 = .ok (.aload_n 0, 1) := by decide +kernel
theorem dX6_end_62 : decode cX6_end 62 = .ok (.getfield 55, 3) := by decide +kernel
theorem dX6_end_65 : decode cX6_end 65 = .ok (.iload_n 1, 1) := by decide +kernel
theorem dX6_end_66 : decode cX6_end 66 = .ok (.bipush 6, 2) := by decide +kernel
theorem dX6_end_68 : decode cX6_end 68 = .ok (.invokevirtual 138, 3) := by decide +kernel
theorem dX6_end_71 : decode cX6_end 71 = .ok (.iload_n 2, 1) := by decide +kernel
theorem dX6_end_72 : decode cX6_end 72 = .ok (.ireturn, 1) := by decide +kernel
theorem dX6_swap_0 : decode cX6_swap 0 = .ok (.iload_n 1, 1) := by decide +kernel
theorem dX6_swap_1 : decode cX6_swap 1 = .ok (.invokestatic 99, 3) := by decide +kernel
theorem dX6_swap_4 : decode cX6_swap 4 = .ok (.iload_n 2, 1) := by decide +kernel
theorem dX6_swap_5 : decode cX6_swap 5 = .ok (.invokestatic 103, 3) := by decide +kernel
theorem dX6_swap_8 : decode cX6_swap 8 = .ok (.aload_n 0, 1) := by decide +kernel
theorem dX6_swap_9 : decode cX6_swap 9 = .ok (.iload_n 1, 1) := by decide +kernel
theorem dX6_swap_10 : decode cX6_swap 10 = .ok (.invokevirtual 126, 3) := by decide +kernel
theorem dX6_swap_13 : decode cX6_swap 13 = .ok (.aload_n 0, 1) := by decide +kernel
theorem dX6_swap_14 : decode cX6_swap 14 = .ok (.getfield 23, 3) := by decide +kernel
theorem dX6_swap_17 : decode cX6_swap 17 = .ok (.getfield 141, 3) := by decide +kernel
theorem dX6_swap_20 : decode cX6_swap 20 = .ok (.iload_n 1, 1) := by decide +kernel
theorem dX6_swap_21 : decode cX6_swap 21 = .ok (.iaload, 1) := by decide +kernel
theorem dX6_swap_22 : decode cX6_swap 22 = .ok (.istore_n 3, 1) := by decide +kernel
theorem dX6_swap_23 : decode cX6_swap 23 = .ok (.aload_n 0, 1) := by decide +kernel
theorem dX6_swap_24 : decode cX6_swap 24 = .ok (.getfield 23, 3) := by decide +kernel
theorem dX6_swap_27 : decode cX6_swap 27 = .ok (.getfield 141, 3) := by decide +kernel
theorem dX6_swap_30 : decode cX6_swap 30 = .ok (.iload_n 1, 1) := by decide +kernel
theorem dX6_swap_31 : decode cX6_swap 31 = .ok (.iload_n 2, 1) := by decide +kernel
theorem dX6_swap_32 : decode cX6_swap 32 = .ok (.iastore, 1) := by decide +kernel
theorem dX6_swap_33 : decode cX6_swap 33 = .ok (.aload_n 0, 1) := by decide +kernel
theorem dX6_swap_34 : decode cX6_swap 34 = .ok (.getfield 23, 3) := by decide +kernel
theorem dX6_swap_37 : decode cX6_swap 37 = .ok (.getfield 144, 3) := by decide +kernel
theorem dX6_swap_40 : decode cX6_swap 40 = .ok (.iload_n 1, 1) := by decide +kernel
theorem dX6_swap_41 : decode cX6_swap 41 = .ok (.aload_n 0, 1) := by decide +kernel
theorem dX6_swap_42 : decode cX6_swap 42 = .ok (.getfield 55, 3) := by decide +kernel
theorem dX6_swap_45 : decode cX6_swap 45 = .ok (.bipush 49, 2) := by decide +kernel
theorem dX6_swap_47 : decode cX6_swap 47 = .ok (.iadd, 1) := by decide +kernel
theorem dX6_swap_48 : decode cX6_swap 48 = .ok (.iastore, 1) := by decide +kernel
theorem dX6_swap_49 : decode cX6_swap 49 = .ok (.iload_n 3, 1) := by decide +kernel
theorem dX6_swap_50 : decode cX6_swap 50 = .ok (.ireturn, 1) := by decide +kernel
theorem dX6_emergency_0 : decode cX6_emergency 0 = .ok (.iload_n 1, 1) := by decide +kernel
theorem dX6_emergency_1 : decode cX6_emergency 1 = .ok (.invokestatic 99, 3) := by decide +kernel
theorem dX6_emergency_4 : decode cX6_emergency 4 = .ok (.aload_n 0, 1) := by decide +kernel
theorem dX6_emergency_5 : decode cX6_emergency 5 = .ok (.iload_n 1, 1) := by decide +kernel
theorem dX6_emergency_6 : decode cX6_emergency 6 = .ok (.invokevirtual 126, 3) := by decide +kernel
theorem dX6_emergency_9 : decode cX6_emergency 9 = .ok (.aload_n 0, 1) := by decide +kernel
theorem dX6_emergency_10 : decode cX6_emergency 10 = .ok (.getfield 23, 3) := by decide +kernel
theorem dX6_emergency_13 : decode cX6_emergency 13 = .ok (.getfield 147, 3) := by decide +kernel
theorem dX6_emergency_16 : decode cX6_emergency 16 = .ok (.iload_n 1, 1) := by decide +kernel
theorem dX6_emergency_17 : decode cX6_emergency 17 = .ok (.aload_n 0, 1) := by decide +kernel
theorem dX6_emergency_18 : decode cX6_emergency 18 = .ok (.getfield 55, 3) := by decide +kernel
theorem dX6_emergency_21 : decode cX6_emergency 21 = .ok (.bipush 30, 2) := by decide +kernel
theorem dX6_emergency_23 : decode cX6_emergency 23 = .ok (.iadd, 1) := by decide +kernel
theorem dX6_emergency_24 : decode cX6_emergency 24 = .ok (.iastore, 1) := by decide +kernel
theorem dX6_emergency_25 : decode cX6_emergency 25 = .ok (.aload_n 0, 1) := by decide +kernel
theorem dX6_emergency_26 : decode cX6_emergency 26 = .ok (.getfield 23, 3) := by decide +kernel
theorem dX6_emergency_29 : decode cX6_emergency 29 = .ok (.getfield 147, 3) := by decide +kernel
theorem dX6_emergency_32 : decode cX6_emergency 32 = .ok (.iload_n 1, 1) := by decide +kernel
theorem dX6_emergency_33 : decode cX6_emergency 33 = .ok (.iaload, 1) := by decide +kernel
theorem dX6_emergency_34 : decode cX6_emergency 34 = .ok (.ireturn, 1) := by decide +kernel
theorem dX6_endFirm_0 : decode cX6_endFirm 0 = .ok (.iload_n 1, 1) := by decide +kernel
theorem dX6_endFirm_1 : decode cX6_endFirm 1 = .ok (.invokestatic 150, 3) := by decide +kernel
theorem dX6_endFirm_4 : decode cX6_endFirm 4 = .ok (.iload_n 2, 1) := by decide +kernel
theorem dX6_endFirm_5 : decode cX6_endFirm 5 = .ok (.invokestatic 150, 3) := by decide +kernel
theorem dX6_endFirm_8 : decode cX6_endFirm 8 = .ok (.iload_n 1, 1) := by decide +kernel
theorem dX6_endFirm_9 : decode cX6_endFirm 9 = .ok (.iload_n 2, 1) := by decide +kernel
theorem dX6_endFirm_10 : decode cX6_endFirm 10 = .ok (.if_icmp .ne 13, 3) := by decide +kernel
theorem dX6_endFirm_13 : decode cX6_endFirm 13 = .ok (.new 153, 3) := by decide +kernel
theorem dX6_endFirm_16 : decode cX6_endFirm 16 = .ok (.dup, 1) := by decide +kernel
theorem dX6_endFirm_17 : decode cX6_endFirm 17 = .ok (.ldc 155, 2) := by decide +kernel
theorem dX6_endFirm_19 : decode cX6_endFirm 19 = .ok (.invokespecial 157, 3) := by decide +kernel
theorem dX6_endFirm_22 : decode cX6_endFirm 22 = .ok (.athrow, 1) := by decide +kernel
theorem dX6_endFirm_23 : decode cX6_endFirm 23 = .ok (.aload_n 0, 1) := by decide +kernel
theorem dX6_endFirm_24 : decode cX6_endFirm 24 = .ok (.getfield 16, 3) := by decide +kernel
theorem dX6_endFirm_27 : decode cX6_endFirm 27 = .ok (.getfield 79, 3) := by decide +kernel
theorem dX6_endFirm_30 : decode cX6_endFirm 30 = .ok (.iload_n 1, 1) := by decide +kernel
theorem dX6_endFirm_31 : decode cX6_endFirm 31 = .ok (.baload, 1) := by decide +kernel
theorem dX6_endFirm_32 : decode cX6_endFirm 32 = .ok (.ifCond .ne 15, 3) := by decide +kernel
theorem dX6_endFirm_35 : decode cX6_endFirm 35 = .ok (.aload_n 0, 1) := by decide +kernel
theorem dX6_endFirm_36 : decode cX6_endFirm 36 = .ok (.getfield 16, 3) := by decide +kernel
theorem dX6_endFirm_39 : decode cX6_endFirm 39 = .ok (.getfield 79, 3) := by decide +kernel
theorem dX6_endFirm_42 : decode cX6_endFirm 42 = .ok (.iload_n 2, 1) := by decide +kernel
theorem dX6_endFirm_43 : decode cX6_endFirm 43 = .ok (.baload, 1) := by decide +kernel
theorem dX6_endFirm_44 : decode cX6_endFirm 44 = .ok (.ifCond .eq 13, 3) := by decide +kernel
theorem dX6_endFirm_47 : decode cX6_endFirm 47 = .ok (.new 83, 3) := by decide +kernel
theorem dX6_endFirm_50 : decode cX6_endFirm 50 = .ok (.dup, 1) := by decide +kernel
theorem dX6_endFirm_51 : decode cX6_endFirm 51 = .ok (.ldc 158, 2) := by decide +kernel
theorem dX6_endFirm_53 : decode cX6_endFirm 53 = .ok (.invokespecial 87, 3) := by decide +kernel
theorem dX6_endFirm_56 : decode cX6_endFirm 56 = .ok (.athrow, 1) := by decide +kernel
theorem dX6_endFirm_57 : decode cX6_endFirm 57 = .ok (.aload_n 0, 1) := by decide +kernel
theorem dX6_endFirm_58 : decode cX6_endFirm 58 = .ok (.getfield 16, 3) := by decide +kernel
theorem dX6_endFirm_61 : decode cX6_endFirm 61 = .ok (.getfield 79, 3) := by decide +kernel
theorem dX6_endFirm_64 : decode cX6_endFirm 64 = .ok (.iload_n 1, 1) := by decide +kernel
theorem dX6_endFirm_65 : decode cX6_endFirm 65 = .ok (.iconst 1, 1) := by decide +kernel
theorem dX6_endFirm_66 : decode cX6_endFirm 66 = .ok (.bastore, 1) := by decide +kernel
theorem dX6_endFirm_67 : decode cX6_endFirm 67 = .ok (.iconst 0, 1) := by decide +kernel
theorem dX6_endFirm_68 : decode cX6_endFirm 68 = .ok (.istore_n 3, 1) := by decide +kernel
theorem dX6_endFirm_69 : decode cX6_endFirm 69 = .ok (.iconst 0, 1) := by decide +kernel
theorem dX6_endFirm_70 : decode cX6_endFirm 70 = .ok (.istore 4, 2) := by decide +kernel
theorem dX6_endFirm_72 : decode cX6_endFirm 72 = .ok (.iload 4, 2) := by decide +kernel
theorem dX6_endFirm_74 : decode cX6_endFirm 74 = .ok (.bipush 20, 2) := by decide +kernel
theorem dX6_endFirm_76 : decode cX6_endFirm 76 = .ok (.if_icmp .ge 20, 3) := by decide +kernel
theorem dX6_endFirm_79 : decode cX6_endFirm 79 = .ok (.iload_n 3, 1) := by decide +kernel
theorem dX6_endFirm_80 : decode cX6_endFirm 80 = .ok (.aload_n 0, 1) := by decide +kernel
theorem dX6_endFirm_81 : decode cX6_endFirm 81 = .ok (.iload 4, 2) := by decide +kernel
theorem dX6_endFirm_83 : decode cX6_endFirm 83 = .ok (.iload_n 1, 1) := by decide +kernel
theorem dX6_endFirm_84 : decode cX6_endFirm 84 = .ok (.iload_n 2, 1) := by decide +kernel
theorem dX6_endFirm_85 : decode cX6_endFirm 85 = .ok (.invokevirtual 160, 3) := by decide +kernel
theorem dX6_endFirm_88 : decode cX6_endFirm 88 = .ok (.iadd, 1) := by decide +kernel
theorem dX6_endFirm_89 : decode cX6_endFirm 89 = .ok (.istore_n 3, 1) := by decide +kernel
theorem dX6_endFirm_90 : decode cX6_endFirm 90 = .ok (.iinc 4 1, 3) := by decide +kernel
theorem dX6_endFirm_93 : decode cX6_endFirm 93 = .ok (.goto (-21), 3) := by decide +kernel
theorem dX6_endFirm_96 : decode cX6_endFirm 96 = .ok (.aload_n 0, 1) := by decide +kernel
theorem dX6_endFirm_97 : decode cX6_endFirm 97 = .ok (.getfield 44, 3) := by decide +kernel
theorem dX6_endFirm_100 : decode cX6_endFirm 100 = .ok (.iload_n 1, 1) := by decide +kernel
theorem dX6_endFirm_101 : decode cX6_endFirm 101 = .ok (.iload_n 2, 1) := by decide +kernel
theorem dX6_endFirm_102 : decode cX6_endFirm 102 = .ok (.invokevirtual 164, 3) := by decide +kernel
theorem dX6_endFirm_105 : decode cX6_endFirm 105 = .ok (.aload_n 0, 1) := by decide +kernel
theorem dX6_endFirm_106 : decode cX6_endFirm 106 = .ok (.getfield 30, 3) := by decide +kernel
theorem dX6_endFirm_109 : decode cX6_endFirm 109 = .ok (.iload_n 1, 1) := by decide +kernel
theorem dX6_endFirm_110 : decode cX6_endFirm 110 = .ok (.invokevirtual 167, 3) := by decide +kernel
theorem dX6_endFirm_113 : decode cX6_endFirm 113 = .ok (.iload_n 3, 1) := by decide +kernel
theorem dX6_endFirm_114 : decode cX6_endFirm 114 = .ok (.ireturn, 1) := by decide +kernel
theorem dX6_order_0 : decode cX6_order 0 = .ok (.iload_n 1, 1) := by decide +kernel
theorem dX6_order_1 : decode cX6_order 1 = .ok (.invokestatic 150, 3) := by decide +kernel
theorem dX6_order_4 : decode cX6_order 4 = .ok (.iload_n 2, 1) := by decide +kernel
theorem dX6_order_5 : decode cX6_order 5 = .ok (.invokestatic 99, 3) := by decide +kernel
theorem dX6_order_8 : decode cX6_order 8 = .ok (.iload_n 3, 1) := by decide +kernel
theorem dX6_order_9 : decode cX6_order 9 = .ok (.invokestatic 103, 3) := by decide +kernel
theorem dX6_order_12 : decode cX6_order 12 = .ok (.iload 4, 2) := by decide +kernel
theorem dX6_order_14 : decode cX6_order 14 = .ok (.aload_n 0, 1) := by decide +kernel
theorem dX6_order_15 : decode cX6_order 15 = .ok (.getfield 55, 3) := by decide +kernel
theorem dX6_order_18 : decode cX6_order 18 = .ok (.if_icmp .le 16, 3) := by decide +kernel
theorem dX6_order_21 : decode cX6_order 21 = .ok (.iload 4, 2) := by decide +kernel
theorem dX6_order_23 : decode cX6_order 23 = .ok (.aload_n 0, 1) := by decide +kernel
theorem dX6_order_24 : decode cX6_order 24 = .ok (.getfield 55, 3) := by decide +kernel
theorem dX6_order_27 : decode cX6_order 27 = .ok (.sipush 500, 3) := by decide +kernel
theorem dX6_order_30 : decode cX6_order 30 = .ok (.iadd, 1) := by decide +kernel
theorem dX6_order_31 : decode cX6_order 31 = .ok (.if_icmp .le 13, 3) := by decide +kernel
theorem dX6_order_34 : decode cX6_order 34 = .ok (.new 153, 3) := by decide +kernel
theorem dX6_order_37 : decode cX6_order 37 = .ok (.dup, 1) := by decide +kernel
theorem dX6_order_38 : decode cX6_order 38 = .ok (.ldc 170, 2) := by decide +kernel
theorem dX6_order_40 : decode cX6_order 40 = .ok (.invokespecial 157, 3) := by decide +kernel
theorem dX6_order_43 : decode cX6_order 43 = .ok (.athrow, 1) := by decide +kernel
theorem dX6_order_44 : decode cX6_order 44 = .ok (.aload_n 0, 1) := by decide +kernel
theorem dX6_order_45 : decode cX6_order 45 = .ok (.getfield 16, 3) := by decide +kernel
theorem dX6_order_48 : decode cX6_order 48 = .ok (.getfield 79, 3) := by decide +kernel
theorem dX6_order_51 : decode cX6_order 51 = .ok (.iload_n 1, 1) := by decide +kernel
theorem dX6_order_52 : decode cX6_order 52 = .ok (.baload, 1) := by decide +kernel
theorem dX6_order_53 : decode cX6_order 53 = .ok (.ifCond .ne 15, 3) := by decide +kernel
theorem dX6_order_56 : decode cX6_order 56 = .ok (.aload_n 0, 1) := by decide +kernel
theorem dX6_order_57 : decode cX6_order 57 = .ok (.getfield 30, 3) := by decide +kernel
theorem dX6_order_60 : decode cX6_order 60 = .ok (.getfield 172, 3) := by decide +kernel
theorem dX6_order_63 : decode cX6_order 63 = .ok (.bipush 60, 2) := by decide +kernel
theorem dX6_order_65 : decode cX6_order 65 = .ok (.if_icmp .lt 13, 3) := by decide +kernel
theorem dX6_order_68 : decode cX6_order 68 = .ok (.new 83, 3) := by decide +kernel
theorem dX6_order_71 : decode cX6_order 71 = .ok (.dup, 1) := by decide +kernel
theorem dX6_order_72 : decode cX6_order 72 = .ok (.ldc 175, 2) := by decide +kernel
theorem dX6_order_74 : decode cX6_order 74 = .ok (.invokespecial 87, 3) := by decide +kernel
theorem dX6_order_77 : decode cX6_order 77 = .ok (.athrow, 1) := by decide +kernel
theorem dX6_order_78 : decode cX6_order 78 = .ok (.aload_n 0, 1) := by decide +kernel
theorem dX6_order_79 : decode cX6_order 79 = .ok (.iload_n 1, 1) := by decide +kernel
theorem dX6_order_80 : decode cX6_order 80 = .ok (.iload_n 2, 1) := by decide +kernel
theorem dX6_order_81 : decode cX6_order 81 = .ok (.iload_n 3, 1) := by decide +kernel
theorem dX6_order_82 : decode cX6_order 82 = .ok (.iload 4, 2) := by decide +kernel
theorem dX6_order_84 : decode cX6_order 84 = .ok (.invokevirtual 177, 3) := by decide +kernel
theorem dX6_order_87 : decode cX6_order 87 = .ok (.istore 5, 2) := by decide +kernel
theorem dX6_order_89 : decode cX6_order 89 = .ok (.aload_n 0, 1) := by decide +kernel
theorem dX6_order_90 : decode cX6_order 90 = .ok (.getfield 30, 3) := by decide +kernel
theorem dX6_order_93 : decode cX6_order 93 = .ok (.iload_n 1, 1) := by decide +kernel
theorem dX6_order_94 : decode cX6_order 94 = .ok (.iload_n 2, 1) := by decide +kernel
theorem dX6_order_95 : decode cX6_order 95 = .ok (.aload_n 0, 1) := by decide +kernel
theorem dX6_order_96 : decode cX6_order 96 = .ok (.getfield 23, 3) := by decide +kernel
theorem dX6_order_99 : decode cX6_order 99 = .ok (.getfield 129, 3) := by decide +kernel
theorem dX6_order_102 : decode cX6_order 102 = .ok (.iload_n 2, 1) := by decide +kernel
theorem dX6_order_103 : decode cX6_order 103 = .ok (.iaload, 1) := by decide +kernel
theorem dX6_order_104 : decode cX6_order 104 = .ok (.iload 4, 2) := by decide +kernel
theorem dX6_order_106 : decode cX6_order 106 = .ok (.iload 5, 2) := by decide +kernel
theorem dX6_order_108 : decode cX6_order 108 = .ok (.invokevirtual 181, 3) := by decide +kernel
theorem dX6_order_111 : decode cX6_order 111 = .ok (.ireturn, 1) := by decide +kernel
theorem dX6_cancel_0 : decode cX6_cancel 0 = .ok (.aload_n 0, 1) := by decide +kernel
theorem dX6_cancel_1 : decode cX6_cancel 1 = .ok (.iload_n 1, 1) := by decide +kernel
theorem dX6_cancel_2 : decode cX6_cancel 2 = .ok (.invokevirtual 184, 3) := by decide +kernel
theorem dX6_cancel_5 : decode cX6_cancel 5 = .ok (.aload_n 0, 1) := by decide +kernel
theorem dX6_cancel_6 : decode cX6_cancel 6 = .ok (.getfield 30, 3) := by decide +kernel
theorem dX6_cancel_9 : decode cX6_cancel 9 = .ok (.getfield 187, 3) := by decide +kernel
theorem dX6_cancel_12 : decode cX6_cancel 12 = .ok (.iload_n 1, 1) := by decide +kernel
theorem dX6_cancel_13 : decode cX6_cancel 13 = .ok (.iaload, 1) := by decide +kernel
theorem dX6_cancel_14 : decode cX6_cancel 14 = .ok (.iconst 1, 1) := by decide +kernel
theorem dX6_cancel_15 : decode cX6_cancel 15 = .ok (.if_icmp .ne 22, 3) := by decide +kernel
theorem dX6_cancel_18 : decode cX6_cancel 18 = .ok (.aload_n 0, 1) := by decide +kernel
theorem dX6_cancel_19 : decode cX6_cancel 19 = .ok (.getfield 30, 3) := by decide +kernel
theorem dX6_cancel_22 : decode cX6_cancel 22 = .ok (.getfield 190, 3) := by decide +kernel
theorem dX6_cancel_25 : decode cX6_cancel 25 = .ok (.iload_n 1, 1) := by decide +kernel
theorem dX6_cancel_26 : decode cX6_cancel 26 = .ok (.iaload, 1) := by decide +kernel
theorem dX6_cancel_27 : decode cX6_cancel 27 = .ok (.aload_n 0, 1) := by decide +kernel
theorem dX6_cancel_28 : decode cX6_cancel 28 = .ok (.getfield 55, 3) := by decide +kernel
theorem dX6_cancel_31 : decode cX6_cancel 31 = .ok (.isub, 1) := by decide +kernel
theorem dX6_cancel_32 : decode cX6_cancel 32 = .ok (.bipush 10, 2) := by decide +kernel
theorem dX6_cancel_34 : decode cX6_cancel 34 = .ok (.if_icmp .ge 13, 3) := by decide +kernel
theorem dX6_cancel_37 : decode cX6_cancel 37 = .ok (.new 83, 3) := by decide +kernel
theorem dX6_cancel_40 : decode cX6_cancel 40 = .ok (.dup, 1) := by decide +kernel
theorem dX6_cancel_41 : decode cX6_cancel 41 = .ok (.ldc 193, 2) := by decide +kernel
theorem dX6_cancel_43 : decode cX6_cancel 43 = .ok (.invokespecial 87, 3) := by decide +kernel
theorem dX6_cancel_46 : decode cX6_cancel 46 = .ok (.athrow, 1) := by decide +kernel
theorem dX6_cancel_47 : decode cX6_cancel 47 = .ok (.aload_n 0, 1) := by decide +kernel
theorem dX6_cancel_48 : decode cX6_cancel 48 = .ok (.getfield 30, 3) := by decide +kernel
theorem dX6_cancel_51 : decode cX6_cancel 51 = .ok (.getfield 187, 3) := by decide +kernel
theorem dX6_cancel_54 : decode cX6_cancel 54 = .ok (.iload_n 1, 1) := by decide +kernel
theorem dX6_cancel_55 : decode cX6_cancel 55 = .ok (.iconst 3, 1) := by decide +kernel
theorem dX6_cancel_56 : decode cX6_cancel 56 = .ok (.iastore, 1) := by decide +kernel
theorem dX6_cancel_57 : decode cX6_cancel 57 = .ok (.aload_n 0, 1) := by decide +kernel
theorem dX6_cancel_58 : decode cX6_cancel 58 = .ok (.getfield 30, 3) := by decide +kernel
theorem dX6_cancel_61 : decode cX6_cancel 61 = .ok (.invokevirtual 195, 3) := by decide +kernel
theorem dX6_cancel_64 : decode cX6_cancel 64 = .ok (.ireturn, 1) := by decide +kernel
theorem dX6_reverse_0 : decode cX6_reverse 0 = .ok (.aload_n 0, 1) := by decide +kernel
theorem dX6_reverse_1 : decode cX6_reverse 1 = .ok (.iload_n 1, 1) := by decide +kernel
theorem dX6_reverse_2 : decode cX6_reverse 2 = .ok (.invokevirtual 184, 3) := by decide +kernel
theorem dX6_reverse_5 : decode cX6_reverse 5 = .ok (.aload_n 0, 1) := by decide +kernel
theorem dX6_reverse_6 : decode cX6_reverse 6 = .ok (.iload_n 1, 1) := by decide +kernel
theorem dX6_reverse_7 : decode cX6_reverse 7 = .ok (.invokevirtual 199, 3) := by decide +kernel
theorem dX6_reverse_10 : decode cX6_reverse 10 = .ok (.ifCond .ne 13, 3) := by decide +kernel
theorem dX6_reverse_13 : decode cX6_reverse 13 = .ok (.new 83, 3) := by decide +kernel
theorem dX6_reverse_16 : decode cX6_reverse 16 = .ok (.dup, 1) := by decide +kernel
theorem dX6_reverse_17 : decode cX6_reverse 17 = .ok (.ldc 202, 2) := by decide +kernel
theorem dX6_reverse_19 : decode cX6_reverse 19 = .ok (.invokespecial 87, 3) := by decide +kernel
theorem dX6_reverse_22 : decode cX6_reverse 22 = .ok (.athrow, 1) := by decide +kernel
theorem dX6_reverse_23 : decode cX6_reverse 23 = .ok (.aload_n 0, 1) := by decide +kernel
theorem dX6_reverse_24 : decode cX6_reverse 24 = .ok (.getfield 30, 3) := by decide +kernel
theorem dX6_reverse_27 : decode cX6_reverse 27 = .ok (.getfield 204, 3) := by decide +kernel
theorem dX6_reverse_30 : decode cX6_reverse 30 = .ok (.iload_n 1, 1) := by decide +kernel
theorem dX6_reverse_31 : decode cX6_reverse 31 = .ok (.iaload, 1) := by decide +kernel
theorem dX6_reverse_32 : decode cX6_reverse 32 = .ok (.istore_n 2, 1) := by decide +kernel
theorem dX6_reverse_33 : decode cX6_reverse 33 = .ok (.aload_n 0, 1) := by decide +kernel
theorem dX6_reverse_34 : decode cX6_reverse 34 = .ok (.getfield 30, 3) := by decide +kernel
theorem dX6_reverse_37 : decode cX6_reverse 37 = .ok (.getfield 187, 3) := by decide +kernel
theorem dX6_reverse_40 : decode cX6_reverse 40 = .ok (.iload_n 1, 1) := by decide +kernel
theorem dX6_reverse_41 : decode cX6_reverse 41 = .ok (.iconst 4, 1) := by decide +kernel
theorem dX6_reverse_42 : decode cX6_reverse 42 = .ok (.iastore, 1) := by decide +kernel
theorem dX6_reverse_43 : decode cX6_reverse 43 = .ok (.aload_n 0, 1) := by decide +kernel
theorem dX6_reverse_44 : decode cX6_reverse 44 = .ok (.aload_n 0, 1) := by decide +kernel
theorem dX6_reverse_45 : decode cX6_reverse 45 = .ok (.getfield 30, 3) := by decide +kernel
theorem dX6_reverse_48 : decode cX6_reverse 48 = .ok (.getfield 207, 3) := by decide +kernel
theorem dX6_reverse_51 : decode cX6_reverse 51 = .ok (.iload_n 1, 1) := by decide +kernel
theorem dX6_reverse_52 : decode cX6_reverse 52 = .ok (.iaload, 1) := by decide +kernel
theorem dX6_reverse_53 : decode cX6_reverse 53 = .ok (.iload_n 2, 1) := by decide +kernel
theorem dX6_reverse_54 : decode cX6_reverse 54 = .ok (.invokevirtual 210, 3) := by decide +kernel
theorem dX6_reverse_57 : decode cX6_reverse 57 = .ok (.aload_n 0, 1) := by decide +kernel
theorem dX6_reverse_58 : decode cX6_reverse 58 = .ok (.getfield 16, 3) := by decide +kernel
theorem dX6_reverse_61 : decode cX6_reverse 61 = .ok (.iload_n 2, 1) := by decide +kernel
theorem dX6_reverse_62 : decode cX6_reverse 62 = .ok (.aload_n 0, 1) := by decide +kernel
theorem dX6_reverse_63 : decode cX6_reverse 63 = .ok (.getfield 30, 3) := by decide +kernel
theorem dX6_reverse_66 : decode cX6_reverse 66 = .ok (.getfield 213, 3) := by decide +kernel
theorem dX6_reverse_69 : decode cX6_reverse 69 = .ok (.iload_n 1, 1) := by decide +kernel
theorem dX6_reverse_70 : decode cX6_reverse 70 = .ok (.iaload, 1) := by decide +kernel
theorem dX6_reverse_71 : decode cX6_reverse 71 = .ok (.iconst 5, 1) := by decide +kernel
theorem dX6_reverse_72 : decode cX6_reverse 72 = .ok (.invokevirtual 216, 3) := by decide +kernel
theorem dX6_reverse_75 : decode cX6_reverse 75 = .ok (.iload_n 2, 1) := by decide +kernel
theorem dX6_reverse_76 : decode cX6_reverse 76 = .ok (.ireturn, 1) := by decide +kernel
theorem dX6_pass_0 : decode cX6_pass 0 = .ok (.iload_n 1, 1) := by decide +kernel
theorem dX6_pass_1 : decode cX6_pass 1 = .ok (.iconst 1, 1) := by decide +kernel
theorem dX6_pass_2 : decode cX6_pass 2 = .ok (.if_icmp .lt 9, 3) := by decide +kernel
theorem dX6_pass_5 : decode cX6_pass 5 = .ok (.iload_n 1, 1) := by decide +kernel
theorem dX6_pass_6 : decode cX6_pass 6 = .ok (.bipush 100, 2) := by decide +kernel
theorem dX6_pass_8 : decode cX6_pass 8 = .ok (.if_icmp .le 13, 3) := by decide +kernel
theorem dX6_pass_11 : decode cX6_pass 11 = .ok (.new 153, 3) := by decide +kernel
theorem dX6_pass_14 : decode cX6_pass 14 = .ok (.dup, 1) := by decide +kernel
theorem dX6_pass_15 : decode cX6_pass 15 = .ok (.ldc 219, 2) := by decide +kernel
theorem dX6_pass_17 : decode cX6_pass 17 = .ok (.invokespecial 157, 3) := by decide +kernel
theorem dX6_pass_20 : decode cX6_pass 20 = .ok (.athrow, 1) := by decide +kernel
theorem dX6_pass_21 : decode cX6_pass 21 = .ok (.aload_n 0, 1) := by decide +kernel
theorem dX6_pass_22 : decode cX6_pass 22 = .ok (.getfield 55, 3) := by decide +kernel
theorem dX6_pass_25 : decode cX6_pass 25 = .ok (.iload_n 1, 1) := by decide +kernel
theorem dX6_pass_26 : decode cX6_pass 26 = .ok (.iadd, 1) := by decide +kernel
theorem dX6_pass_27 : decode cX6_pass 27 = .ok (.sipush 9999, 3) := by decide +kernel
theorem dX6_pass_30 : decode cX6_pass 30 = .ok (.if_icmp .le 13, 3) := by decide +kernel
theorem dX6_pass_33 : decode cX6_pass 33 = .ok (.new 83, 3) := by decide +kernel
theorem dX6_pass_36 : decode cX6_pass 36 = .ok (.dup, 1) := by decide +kernel
theorem dX6_pass_37 : decode cX6_pass 37 = .ok (.ldc 221, 2) := by decide +kernel
theorem dX6_pass_39 : decode cX6_pass 39 = .ok (.invokespecial 87, 3) := by decide +kernel
theorem dX6_pass_42 : decode cX6_pass 42 = .ok (.athrow, 1) := by decide +kernel
theorem dX6_pass_43 : decode cX6_pass 43 = .ok (.iconst 0, 1) := by decide +kernel
theorem dX6_pass_44 : decode cX6_pass 44 = .ok (.istore_n 2, 1) := by decide +kernel
theorem dX6_pass_45 : decode cX6_pass 45 = .ok (.iconst 0, 1) := by decide +kernel
theorem dX6_pass_46 : decode cX6_pass 46 = .ok (.istore_n 3, 1) := by decide +kernel
theorem dX6_pass_47 : decode cX6_pass 47 = .ok (.iload_n 3, 1) := by decide +kernel
theorem dX6_pass_48 : decode cX6_pass 48 = .ok (.iload_n 1, 1) := by decide +kernel
theorem dX6_pass_49 : decode cX6_pass 49 = .ok (.if_icmp .ge 30, 3) := by decide +kernel
theorem dX6_pass_52 : decode cX6_pass 52 = .ok (.aload_n 0, 1) := by decide +kernel
theorem dX6_pass_53 : decode cX6_pass 53 = .ok (.dup, 1) := by decide +kernel
theorem dX6_pass_54 : decode cX6_pass 54 = .ok (.getfield 55, 3) := by decide +kernel
theorem dX6_pass_57 : decode cX6_pass 57 = .ok (.iconst 1, 1) := by decide +kernel
theorem dX6_pass_58 : decode cX6_pass 58 = .ok (.iadd, 1) := by decide +kernel
theorem dX6_pass_59 : decode cX6_pass 59 = .ok (.putfield 55, 3) := by decide +kernel
theorem dX6_pass_62 : decode cX6_pass 62 = .ok (.iload_n 2, 1) := by decide +kernel
theorem dX6_pass_63 : decode cX6_pass 63 = .ok (.aload_n 0, 1) := by decide +kernel
theorem dX6_pass_64 : decode cX6_pass 64 = .ok (.invokevirtual 223, 3) := by decide +kernel
theorem dX6_pass_67 : decode cX6_pass 67 = .ok (.iadd, 1) := by decide +kernel
theorem dX6_pass_68 : decode cX6_pass 68 = .ok (.istore_n 2, 1) := by decide +kernel
theorem dX6_pass_69 : decode cX6_pass 69 = .ok (.aload_n 0, 1) := by decide +kernel
theorem dX6_pass_70 : decode cX6_pass 70 = .ok (.invokevirtual 226, 3) := by decide +kernel
theorem dX6_pass_73 : decode cX6_pass 73 = .ok (.iinc 3 1, 3) := by decide +kernel
theorem dX6_pass_76 : decode cX6_pass 76 = .ok (.goto (-29), 3) := by decide +kernel
theorem dX6_pass_79 : decode cX6_pass 79 = .ok (.iload_n 2, 1) := by decide +kernel
theorem dX6_pass_80 : decode cX6_pass 80 = .ok (.ireturn, 1) := by decide +kernel
theorem dX6_setLag_0 : decode cX6_setLag 0 = .ok (.iload_n 1, 1) := by decide +kernel
theorem dX6_setLag_1 : decode cX6_setLag 1 = .ok (.invokestatic 150, 3) := by decide +kernel
theorem dX6_setLag_4 : decode cX6_setLag 4 = .ok (.iload_n 2, 1) := by decide +kernel
theorem dX6_setLag_5 : decode cX6_setLag 5 = .ok (.ifCond .lt 9, 3) := by decide +kernel
theorem dX6_setLag_8 : decode cX6_setLag 8 = .ok (.iload_n 2, 1) := by decide +kernel
theorem dX6_setLag_9 : decode cX6_setLag 9 = .ok (.bipush 50, 2) := by decide +kernel
theorem dX6_setLag_11 : decode cX6_setLag 11 = .ok (.if_icmp .le 13, 3) := by decide +kernel
theorem dX6_setLag_14 : decode cX6_setLag 14 = .ok (.new 153, 3) := by decide +kernel
theorem dX6_setLag_17 : decode cX6_setLag 17 = .ok (.dup, 1) := by decide +kernel
theorem dX6_setLag_18 : decode cX6_setLag 18 = .ok (.ldc 229, 2) := by decide +kernel
theorem dX6_setLag_20 : decode cX6_setLag 20 = .ok (.invokespecial 157, 3) := by decide +kernel
theorem dX6_setLag_23 : decode cX6_setLag 23 = .ok (.athrow, 1) := by decide +kernel
theorem dX6_setLag_24 : decode cX6_setLag 24 = .ok (.aload_n 0, 1) := by decide +kernel
theorem dX6_setLag_25 : decode cX6_setLag 25 = .ok (.getfield 16, 3) := by decide +kernel
theorem dX6_setLag_28 : decode cX6_setLag 28 = .ok (.getfield 231, 3) := by decide +kernel
theorem dX6_setLag_31 : decode cX6_setLag 31 = .ok (.iload_n 1, 1) := by decide +kernel
theorem dX6_setLag_32 : decode cX6_setLag 32 = .ok (.iaload, 1) := by decide +kernel
theorem dX6_setLag_33 : decode cX6_setLag 33 = .ok (.istore_n 3, 1) := by decide +kernel
theorem dX6_setLag_34 : decode cX6_setLag 34 = .ok (.aload_n 0, 1) := by decide +kernel
theorem dX6_setLag_35 : decode cX6_setLag 35 = .ok (.getfield 16, 3) := by decide +kernel
theorem dX6_setLag_38 : decode cX6_setLag 38 = .ok (.getfield 231, 3) := by decide +kernel
theorem dX6_setLag_41 : decode cX6_setLag 41 = .ok (.iload_n 1, 1) := by decide +kernel
theorem dX6_setLag_42 : decode cX6_setLag 42 = .ok (.iload_n 2, 1) := by decide +kernel
theorem dX6_setLag_43 : decode cX6_setLag 43 = .ok (.iastore, 1) := by decide +kernel
theorem dX6_setLag_44 : decode cX6_setLag 44 = .ok (.iload_n 3, 1) := by decide +kernel
theorem dX6_setLag_45 : decode cX6_setLag 45 = .ok (.ireturn, 1) := by decide +kernel
theorem dX6_setDown_0 : decode cX6_setDown 0 = .ok (.iload_n 1, 1) := by decide +kernel
theorem dX6_setDown_1 : decode cX6_setDown 1 = .ok (.invokestatic 150, 3) := by decide +kernel
theorem dX6_setDown_4 : decode cX6_setDown 4 = .ok (.aload_n 0, 1) := by decide +kernel
theorem dX6_setDown_5 : decode cX6_setDown 5 = .ok (.getfield 16, 3) := by decide +kernel
theorem dX6_setDown_8 : decode cX6_setDown 8 = .ok (.getfield 234, 3) := by decide +kernel
theorem dX6_setDown_11 : decode cX6_setDown 11 = .ok (.iload_n 1, 1) := by decide +kernel
theorem dX6_setDown_12 : decode cX6_setDown 12 = .ok (.baload, 1) := by decide +kernel
theorem dX6_setDown_13 : decode cX6_setDown 13 = .ok (.istore_n 3, 1) := by decide +kernel
theorem dX6_setDown_14 : decode cX6_setDown 14 = .ok (.aload_n 0, 1) := by decide +kernel
theorem dX6_setDown_15 : decode cX6_setDown 15 = .ok (.getfield 16, 3) := by decide +kernel
theorem dX6_setDown_18 : decode cX6_setDown 18 = .ok (.getfield 234, 3) := by decide +kernel
theorem dX6_setDown_21 : decode cX6_setDown 21 = .ok (.iload_n 1, 1) := by decide +kernel
theorem dX6_setDown_22 : decode cX6_setDown 22 = .ok (.iload_n 2, 1) := by decide +kernel
theorem dX6_setDown_23 : decode cX6_setDown 23 = .ok (.bastore, 1) := by decide +kernel
theorem dX6_setDown_24 : decode cX6_setDown 24 = .ok (.iload_n 3, 1) := by decide +kernel
theorem dX6_setDown_25 : decode cX6_setDown 25 = .ok (.ireturn, 1) := by decide +kernel
theorem dX6_correct_0 : decode cX6_correct 0 = .ok (.iload_n 1, 1) := by decide +kernel
theorem dX6_correct_1 : decode cX6_correct 1 = .ok (.invokestatic 150, 3) := by decide +kernel
theorem dX6_correct_4 : decode cX6_correct 4 = .ok (.aload_n 0, 1) := by decide +kernel
theorem dX6_correct_5 : decode cX6_correct 5 = .ok (.getfield 37, 3) := by decide +kernel
theorem dX6_correct_8 : decode cX6_correct 8 = .ok (.iload_n 1, 1) := by decide +kernel
theorem dX6_correct_9 : decode cX6_correct 9 = .ok (.invokevirtual 237, 3) := by decide +kernel
theorem dX6_correct_12 : decode cX6_correct 12 = .ok (.istore_n 2, 1) := by decide +kernel
theorem dX6_correct_13 : decode cX6_correct 13 = .ok (.aload_n 0, 1) := by decide +kernel
theorem dX6_correct_14 : decode cX6_correct 14 = .ok (.getfield 37, 3) := by decide +kernel
theorem dX6_correct_17 : decode cX6_correct 17 = .ok (.iload_n 1, 1) := by decide +kernel
theorem dX6_correct_18 : decode cX6_correct 18 = .ok (.invokevirtual 240, 3) := by decide +kernel
theorem dX6_correct_21 : decode cX6_correct 21 = .ok (.iload_n 2, 1) := by decide +kernel
theorem dX6_correct_22 : decode cX6_correct 22 = .ok (.ireturn, 1) := by decide +kernel
theorem dX6_server_0 : decode cX6_server 0 = .ok (.iload_n 1, 1) := by decide +kernel
theorem dX6_server_1 : decode cX6_server 1 = .ok (.invokestatic 99, 3) := by decide +kernel
theorem dX6_server_4 : decode cX6_server 4 = .ok (.aload_n 0, 1) := by decide +kernel
theorem dX6_server_5 : decode cX6_server 5 = .ok (.getfield 23, 3) := by decide +kernel
theorem dX6_server_8 : decode cX6_server 8 = .ok (.getfield 129, 3) := by decide +kernel
theorem dX6_server_11 : decode cX6_server 11 = .ok (.iload_n 1, 1) := by decide +kernel
theorem dX6_server_12 : decode cX6_server 12 = .ok (.iaload, 1) := by decide +kernel
theorem dX6_server_13 : decode cX6_server 13 = .ok (.ireturn, 1) := by decide +kernel
theorem dX6_serverAnew_0 : decode cX6_serverAnew 0 = .ok (.iload_n 1, 1) := by decide +kernel
theorem dX6_serverAnew_1 : decode cX6_serverAnew 1 = .ok (.invokestatic 99, 3) := by decide +kernel
theorem dX6_serverAnew_4 : decode cX6_serverAnew 4 = .ok (.aload_n 0, 1) := by decide +kernel
theorem dX6_serverAnew_5 : decode cX6_serverAnew 5 = .ok (.getfield 44, 3) := by decide +kernel
theorem dX6_serverAnew_8 : decode cX6_serverAnew 8 = .ok (.iload_n 1, 1) := by decide +kernel
theorem dX6_serverAnew_9 : decode cX6_serverAnew 9 = .ok (.invokevirtual 243, 3) := by decide +kernel
theorem dX6_serverAnew_12 : decode cX6_serverAnew 12 = .ok (.ireturn, 1) := by decide +kernel
theorem dX6_number_0 : decode cX6_number 0 = .ok (.iload_n 1, 1) := by decide +kernel
theorem dX6_number_1 : decode cX6_number 1 = .ok (.invokestatic 99, 3) := by decide +kernel
theorem dX6_number_4 : decode cX6_number 4 = .ok (.iload_n 2, 1) := by decide +kernel
theorem dX6_number_5 : decode cX6_number 5 = .ok (.iconst 5, 1) := by decide +kernel
theorem dX6_number_6 : decode cX6_number 6 = .ok (.invokestatic 246, 3) := by decide +kernel
theorem dX6_number_9 : decode cX6_number 9 = .ok (.iload_n 2, 1) := by decide +kernel
theorem dX6_number_10 : decode cX6_number 10 = .ok (.tableswitch 84 0 3 #[30, 36, 52, 68], 30) := by decide +kernel
theorem dX6_number_40 : decode cX6_number 40 = .ok (.aload_n 0, 1) := by decide +kernel
theorem dX6_number_41 : decode cX6_number 41 = .ok (.iload_n 1, 1) := by decide +kernel
theorem dX6_number_42 : decode cX6_number 42 = .ok (.invokevirtual 106, 3) := by decide +kernel
theorem dX6_number_45 : decode cX6_number 45 = .ok (.ireturn, 1) := by decide +kernel
theorem dX6_number_46 : decode cX6_number 46 = .ok (.aload_n 0, 1) := by decide +kernel
theorem dX6_number_47 : decode cX6_number 47 = .ok (.getfield 23, 3) := by decide +kernel
theorem dX6_number_50 : decode cX6_number 50 = .ok (.iload_n 1, 1) := by decide +kernel
theorem dX6_number_51 : decode cX6_number 51 = .ok (.aload_n 0, 1) := by decide +kernel
theorem dX6_number_52 : decode cX6_number 52 = .ok (.getfield 55, 3) := by decide +kernel
theorem dX6_number_55 : decode cX6_number 55 = .ok (.invokevirtual 112, 3) := by decide +kernel
theorem dX6_number_58 : decode cX6_number 58 = .ok (.invokestatic 249, 3) := by decide +kernel
theorem dX6_number_61 : decode cX6_number 61 = .ok (.ireturn, 1) := by decide +kernel
theorem dX6_number_62 : decode cX6_number 62 = .ok (.aload_n 0, 1) := by decide +kernel
theorem dX6_number_63 : decode cX6_number 63 = .ok (.getfield 23, 3) := by decide +kernel
theorem dX6_number_66 : decode cX6_number 66 = .ok (.iload_n 1, 1) := by decide +kernel
theorem dX6_number_67 : decode cX6_number 67 = .ok (.aload_n 0, 1) := by decide +kernel
theorem dX6_number_68 : decode cX6_number 68 = .ok (.getfield 55, 3) := by decide +kernel
theorem dX6_number_71 : decode cX6_number 71 = .ok (.invokevirtual 253, 3) := by decide +kernel
theorem dX6_number_74 : decode cX6_number 74 = .ok (.invokestatic 249, 3) := by decide +kernel
theorem dX6_number_77 : decode cX6_number 77 = .ok (.ireturn, 1) := by decide +kernel
theorem dX6_number_78 : decode cX6_number 78 = .ok (.aload_n 0, 1) := by decide +kernel
theorem dX6_number_79 : decode cX6_number 79 = .ok (.getfield 23, 3) := by decide +kernel
theorem dX6_number_82 : decode cX6_number 82 = .ok (.iload_n 1, 1) := by decide +kernel
theorem dX6_number_83 : decode cX6_number 83 = .ok (.aload_n 0, 1) := by decide +kernel
theorem dX6_number_84 : decode cX6_number 84 = .ok (.getfield 55, 3) := by decide +kernel
theorem dX6_number_87 : decode cX6_number 87 = .ok (.invokevirtual 256, 3) := by decide +kernel
theorem dX6_number_90 : decode cX6_number 90 = .ok (.invokestatic 249, 3) := by decide +kernel
theorem dX6_number_93 : decode cX6_number 93 = .ok (.ireturn, 1) := by decide +kernel
theorem dX6_number_94 : decode cX6_number 94 = .ok (.aload_n 0, 1) := by decide +kernel
theorem dX6_number_95 : decode cX6_number 95 = .ok (.getfield 30, 3) := by decide +kernel
theorem dX6_number_98 : decode cX6_number 98 = .ok (.iload_n 1, 1) := by decide +kernel
theorem dX6_number_99 : decode cX6_number 99 = .ok (.invokevirtual 259, 3) := by decide +kernel
theorem dX6_number_102 : decode cX6_number 102 = .ok (.ireturn, 1) := by decide +kernel
theorem dX6_of_0 : decode cX6_of 0 = .ok (.aload_n 0, 1) := by decide +kernel
theorem dX6_of_1 : decode cX6_of 1 = .ok (.iload_n 1, 1) := by decide +kernel
theorem dX6_of_2 : decode cX6_of 2 = .ok (.invokevirtual 184, 3) := by decide +kernel
theorem dX6_of_5 : decode cX6_of 5 = .ok (.iload_n 2, 1) := by decide +kernel
theorem dX6_of_6 : decode cX6_of 6 = .ok (.bipush 6, 2) := by decide +kernel
theorem dX6_of_8 : decode cX6_of 8 = .ok (.invokestatic 246, 3) := by decide +kernel
theorem dX6_of_11 : decode cX6_of 11 = .ok (.iload_n 2, 1) := by decide +kernel
theorem dX6_of_12 : decode cX6_of 12 = .ok (.tableswitch 86 0 4 #[36, 46, 56, 66, 76], 36) := by decide +kernel
theorem dX6_of_48 : decode cX6_of 48 = .ok (.aload_n 0, 1) := by decide +kernel
theorem dX6_of_49 : decode cX6_of 49 = .ok (.getfield 30, 3) := by decide +kernel
theorem dX6_of_52 : decode cX6_of 52 = .ok (.getfield 187, 3) := by decide +kernel
theorem dX6_of_55 : decode cX6_of 55 = .ok (.iload_n 1, 1) := by decide +kernel
theorem dX6_of_56 : decode cX6_of 56 = .ok (.iaload, 1) := by decide +kernel
theorem dX6_of_57 : decode cX6_of 57 = .ok (.ireturn, 1) := by decide +kernel
theorem dX6_of_58 : decode cX6_of 58 = .ok (.aload_n 0, 1) := by decide +kernel
theorem dX6_of_59 : decode cX6_of 59 = .ok (.getfield 30, 3) := by decide +kernel
theorem dX6_of_62 : decode cX6_of 62 = .ok (.getfield 262, 3) := by decide +kernel
theorem dX6_of_65 : decode cX6_of 65 = .ok (.iload_n 1, 1) := by decide +kernel
theorem dX6_of_66 : decode cX6_of 66 = .ok (.iaload, 1) := by decide +kernel
theorem dX6_of_67 : decode cX6_of 67 = .ok (.ireturn, 1) := by decide +kernel
theorem dX6_of_68 : decode cX6_of 68 = .ok (.aload_n 0, 1) := by decide +kernel
theorem dX6_of_69 : decode cX6_of 69 = .ok (.getfield 30, 3) := by decide +kernel
theorem dX6_of_72 : decode cX6_of 72 = .ok (.getfield 207, 3) := by decide +kernel
theorem dX6_of_75 : decode cX6_of 75 = .ok (.iload_n 1, 1) := by decide +kernel
theorem dX6_of_76 : decode cX6_of 76 = .ok (.iaload, 1) := by decide +kernel
theorem dX6_of_77 : decode cX6_of 77 = .ok (.ireturn, 1) := by decide +kernel
theorem dX6_of_78 : decode cX6_of 78 = .ok (.aload_n 0, 1) := by decide +kernel
theorem dX6_of_79 : decode cX6_of 79 = .ok (.getfield 30, 3) := by decide +kernel
theorem dX6_of_82 : decode cX6_of 82 = .ok (.getfield 213, 3) := by decide +kernel
theorem dX6_of_85 : decode cX6_of 85 = .ok (.iload_n 1, 1) := by decide +kernel
theorem dX6_of_86 : decode cX6_of 86 = .ok (.iaload, 1) := by decide +kernel
theorem dX6_of_87 : decode cX6_of 87 = .ok (.ireturn, 1) := by decide +kernel
theorem dX6_of_88 : decode cX6_of 88 = .ok (.aload_n 0, 1) := by decide +kernel
theorem dX6_of_89 : decode cX6_of 89 = .ok (.getfield 30, 3) := by decide +kernel
theorem dX6_of_92 : decode cX6_of 92 = .ok (.getfield 204, 3) := by decide +kernel
theorem dX6_of_95 : decode cX6_of 95 = .ok (.iload_n 1, 1) := by decide +kernel
theorem dX6_of_96 : decode cX6_of 96 = .ok (.iaload, 1) := by decide +kernel
theorem dX6_of_97 : decode cX6_of 97 = .ok (.ireturn, 1) := by decide +kernel
theorem dX6_of_98 : decode cX6_of 98 = .ok (.aload_n 0, 1) := by decide +kernel
theorem dX6_of_99 : decode cX6_of 99 = .ok (.getfield 30, 3) := by decide +kernel
theorem dX6_of_102 : decode cX6_of 102 = .ok (.getfield 190, 3) := by decide +kernel
theorem dX6_of_105 : decode cX6_of 105 = .ok (.iload_n 1, 1) := by decide +kernel
theorem dX6_of_106 : decode cX6_of 106 = .ok (.iaload, 1) := by decide +kernel
theorem dX6_of_107 : decode cX6_of 107 = .ok (.ireturn, 1) := by decide +kernel
theorem dX6_room_0 : decode cX6_room 0 = .ok (.iload_n 1, 1) := by decide +kernel
theorem dX6_room_1 : decode cX6_room 1 = .ok (.ifCond .lt 10, 3) := by decide +kernel
theorem dX6_room_4 : decode cX6_room 4 = .ok (.iload_n 1, 1) := by decide +kernel
theorem dX6_room_5 : decode cX6_room 5 = .ok (.sipush 10999, 3) := by decide +kernel
theorem dX6_room_8 : decode cX6_room 8 = .ok (.if_icmp .le 13, 3) := by decide +kernel
theorem dX6_room_11 : decode cX6_room 11 = .ok (.new 153, 3) := by decide +kernel
theorem dX6_room_14 : decode cX6_room 14 = .ok (.dup, 1) := by decide +kernel
theorem dX6_room_15 : decode cX6_room 15 = .ok (.ldc 170, 2) := by decide +kernel
theorem dX6_room_17 : decode cX6_room 17 = .ok (.invokespecial 157, 3) := by decide +kernel
theorem dX6_room_20 : decode cX6_room 20 = .ok (.athrow, 1) := by decide +kernel
theorem dX6_room_21 : decode cX6_room 21 = .ok (.iload_n 1, 1) := by decide +kernel
theorem dX6_room_22 : decode cX6_room 22 = .ok (.invokestatic 265, 3) := by decide +kernel
theorem dX6_room_25 : decode cX6_room 25 = .ok (.ifCond .eq 11, 3) := by decide +kernel
theorem dX6_room_28 : decode cX6_room 28 = .ok (.iload_n 1, 1) := by decide +kernel
theorem dX6_room_29 : decode cX6_room 29 = .ok (.aload_n 0, 1) := by decide +kernel
theorem dX6_room_30 : decode cX6_room 30 = .ok (.getfield 55, 3) := by decide +kernel
theorem dX6_room_33 : decode cX6_room 33 = .ok (.if_icmp .gt 5, 3) := by decide +kernel
theorem dX6_room_36 : decode cX6_room 36 = .ok (.iconst 0, 1) := by decide +kernel
theorem dX6_room_37 : decode cX6_room 37 = .ok (.ireturn, 1) := by decide +kernel
theorem dX6_room_38 : decode cX6_room 38 = .ok (.iconst 3, 1) := by decide +kernel
theorem dX6_room_39 : decode cX6_room 39 = .ok (.aload_n 0, 1) := by decide +kernel
theorem dX6_room_40 : decode cX6_room 40 = .ok (.getfield 30, 3) := by decide +kernel
theorem dX6_room_43 : decode cX6_room 43 = .ok (.iload_n 1, 1) := by decide +kernel
theorem dX6_room_44 : decode cX6_room 44 = .ok (.invokevirtual 268, 3) := by decide +kernel
theorem dX6_room_47 : decode cX6_room 47 = .ok (.isub, 1) := by decide +kernel
theorem dX6_room_48 : decode cX6_room 48 = .ok (.ireturn, 1) := by decide +kernel
theorem dX6_firm_0 : decode cX6_firm 0 = .ok (.iload_n 1, 1) := by decide +kernel
theorem dX6_firm_1 : decode cX6_firm 1 = .ok (.invokestatic 150, 3) := by decide +kernel
theorem dX6_firm_4 : decode cX6_firm 4 = .ok (.iload_n 2, 1) := by decide +kernel
theorem dX6_firm_5 : decode cX6_firm 5 = .ok (.bipush 7, 2) := by decide +kernel
theorem dX6_firm_7 : decode cX6_firm 7 = .ok (.invokestatic 246, 3) := by decide +kernel
theorem dX6_firm_10 : decode cX6_firm 10 = .ok (.iload_n 2, 1) := by decide +kernel
theorem dX6_firm_11 : decode cX6_firm 11 = .ok (.tableswitch 98 0 5 #[37, 50, 56, 65, 78, 88], 37) := by decide +kernel
theorem dX6_firm_48 : decode cX6_firm 48 = .ok (.aload_n 0, 1) := by decide +kernel
theorem dX6_firm_49 : decode cX6_firm 49 = .ok (.getfield 16, 3) := by decide +kernel
theorem dX6_firm_52 : decode cX6_firm 52 = .ok (.getfield 79, 3) := by decide +kernel
theorem dX6_firm_55 : decode cX6_firm 55 = .ok (.iload_n 1, 1) := by decide +kernel
theorem dX6_firm_56 : decode cX6_firm 56 = .ok (.baload, 1) := by decide +kernel
theorem dX6_firm_57 : decode cX6_firm 57 = .ok (.invokestatic 249, 3) := by decide +kernel
theorem dX6_firm_60 : decode cX6_firm 60 = .ok (.ireturn, 1) := by decide +kernel
theorem dX6_firm_61 : decode cX6_firm 61 = .ok (.aload_n 0, 1) := by decide +kernel
theorem dX6_firm_62 : decode cX6_firm 62 = .ok (.iload_n 1, 1) := by decide +kernel
theorem dX6_firm_63 : decode cX6_firm 63 = .ok (.invokevirtual 88, 3) := by decide +kernel
theorem dX6_firm_66 : decode cX6_firm 66 = .ok (.ireturn, 1) := by decide +kernel
theorem dX6_firm_67 : decode cX6_firm 67 = .ok (.aload_n 0, 1) := by decide +kernel
theorem dX6_firm_68 : decode cX6_firm 68 = .ok (.getfield 23, 3) := by decide +kernel
theorem dX6_firm_71 : decode cX6_firm 71 = .ok (.iload_n 1, 1) := by decide +kernel
theorem dX6_firm_72 : decode cX6_firm 72 = .ok (.invokevirtual 271, 3) := by decide +kernel
theorem dX6_firm_75 : decode cX6_firm 75 = .ok (.ireturn, 1) := by decide +kernel
theorem dX6_firm_76 : decode cX6_firm 76 = .ok (.aload_n 0, 1) := by decide +kernel
theorem dX6_firm_77 : decode cX6_firm 77 = .ok (.getfield 16, 3) := by decide +kernel
theorem dX6_firm_80 : decode cX6_firm 80 = .ok (.getfield 234, 3) := by decide +kernel
theorem dX6_firm_83 : decode cX6_firm 83 = .ok (.iload_n 1, 1) := by decide +kernel
theorem dX6_firm_84 : decode cX6_firm 84 = .ok (.baload, 1) := by decide +kernel
theorem dX6_firm_85 : decode cX6_firm 85 = .ok (.invokestatic 249, 3) := by decide +kernel
theorem dX6_firm_88 : decode cX6_firm 88 = .ok (.ireturn, 1) := by decide +kernel
theorem dX6_firm_89 : decode cX6_firm 89 = .ok (.aload_n 0, 1) := by decide +kernel
theorem dX6_firm_90 : decode cX6_firm 90 = .ok (.getfield 16, 3) := by decide +kernel
theorem dX6_firm_93 : decode cX6_firm 93 = .ok (.getfield 231, 3) := by decide +kernel
theorem dX6_firm_96 : decode cX6_firm 96 = .ok (.iload_n 1, 1) := by decide +kernel
theorem dX6_firm_97 : decode cX6_firm 97 = .ok (.iaload, 1) := by decide +kernel
theorem dX6_firm_98 : decode cX6_firm 98 = .ok (.ireturn, 1) := by decide +kernel
theorem dX6_firm_99 : decode cX6_firm 99 = .ok (.aload_n 0, 1) := by decide +kernel
theorem dX6_firm_100 : decode cX6_firm 100 = .ok (.getfield 16, 3) := by decide +kernel
theorem dX6_firm_103 : decode cX6_firm 103 = .ok (.getfield 274, 3) := by decide +kernel
theorem dX6_firm_106 : decode cX6_firm 106 = .ok (.iload_n 1, 1) := by decide +kernel
theorem dX6_firm_107 : decode cX6_firm 107 = .ok (.iaload, 1) := by decide +kernel
theorem dX6_firm_108 : decode cX6_firm 108 = .ok (.ireturn, 1) := by decide +kernel
theorem dX6_firm_109 : decode cX6_firm 109 = .ok (.aload_n 0, 1) := by decide +kernel
theorem dX6_firm_110 : decode cX6_firm 110 = .ok (.getfield 37, 3) := by decide +kernel
theorem dX6_firm_113 : decode cX6_firm 113 = .ok (.iload_n 1, 1) := by decide +kernel
theorem dX6_firm_114 : decode cX6_firm 114 = .ok (.invokevirtual 237, 3) := by decide +kernel
theorem dX6_firm_117 : decode cX6_firm 117 = .ok (.ireturn, 1) := by decide +kernel
theorem dX6_known_0 : decode cX6_known 0 = .ok (.iload_n 1, 1) := by decide +kernel
theorem dX6_known_1 : decode cX6_known 1 = .ok (.invokestatic 150, 3) := by decide +kernel
theorem dX6_known_4 : decode cX6_known 4 = .ok (.iload_n 2, 1) := by decide +kernel
theorem dX6_known_5 : decode cX6_known 5 = .ok (.invokestatic 99, 3) := by decide +kernel
theorem dX6_known_8 : decode cX6_known 8 = .ok (.aload_n 0, 1) := by decide +kernel
theorem dX6_known_9 : decode cX6_known 9 = .ok (.iload_n 1, 1) := by decide +kernel
theorem dX6_known_10 : decode cX6_known 10 = .ok (.iload_n 2, 1) := by decide +kernel
theorem dX6_known_11 : decode cX6_known 11 = .ok (.invokevirtual 277, 3) := by decide +kernel
theorem dX6_known_14 : decode cX6_known 14 = .ok (.ireturn, 1) := by decide +kernel
theorem dX6_audit_0 : decode cX6_audit 0 = .ok (.iload_n 1, 1) := by decide +kernel
theorem dX6_audit_1 : decode cX6_audit 1 = .ok (.invokestatic 150, 3) := by decide +kernel
theorem dX6_audit_4 : decode cX6_audit 4 = .ok (.iconst 0, 1) := by decide +kernel
theorem dX6_audit_5 : decode cX6_audit 5 = .ok (.istore_n 2, 1) := by decide +kernel
theorem dX6_audit_6 : decode cX6_audit 6 = .ok (.iconst 0, 1) := by decide +kernel
theorem dX6_audit_7 : decode cX6_audit 7 = .ok (.istore_n 3, 1) := by decide +kernel
theorem dX6_audit_8 : decode cX6_audit 8 = .ok (.iload_n 3, 1) := by decide +kernel
theorem dX6_audit_9 : decode cX6_audit 9 = .ok (.sipush 200, 3) := by decide +kernel
theorem dX6_audit_12 : decode cX6_audit 12 = .ok (.if_icmp .ge 41, 3) := by decide +kernel
theorem dX6_audit_15 : decode cX6_audit 15 = .ok (.aload_n 0, 1) := by decide +kernel
theorem dX6_audit_16 : decode cX6_audit 16 = .ok (.getfield 23, 3) := by decide +kernel
theorem dX6_audit_19 : decode cX6_audit 19 = .ok (.iload_n 3, 1) := by decide +kernel
theorem dX6_audit_20 : decode cX6_audit 20 = .ok (.invokevirtual 109, 3) := by decide +kernel
theorem dX6_audit_23 : decode cX6_audit 23 = .ok (.ifCond .eq 24, 3) := by decide +kernel
theorem dX6_audit_26 : decode cX6_audit 26 = .ok (.aload_n 0, 1) := by decide +kernel
theorem dX6_audit_27 : decode cX6_audit 27 = .ok (.iload_n 1, 1) := by decide +kernel
theorem dX6_audit_28 : decode cX6_audit 28 = .ok (.iload_n 3, 1) := by decide +kernel
theorem dX6_audit_29 : decode cX6_audit 29 = .ok (.invokevirtual 277, 3) := by decide +kernel
theorem dX6_audit_32 : decode cX6_audit 32 = .ok (.aload_n 0, 1) := by decide +kernel
theorem dX6_audit_33 : decode cX6_audit 33 = .ok (.getfield 23, 3) := by decide +kernel
theorem dX6_audit_36 : decode cX6_audit 36 = .ok (.getfield 129, 3) := by decide +kernel
theorem dX6_audit_39 : decode cX6_audit 39 = .ok (.iload_n 3, 1) := by decide +kernel
theorem dX6_audit_40 : decode cX6_audit 40 = .ok (.iaload, 1) := by decide +kernel
theorem dX6_audit_41 : decode cX6_audit 41 = .ok (.if_icmp .eq 6, 3) := by decide +kernel
theorem dX6_audit_44 : decode cX6_audit 44 = .ok (.iinc 2 1, 3) := by decide +kernel
theorem dX6_audit_47 : decode cX6_audit 47 = .ok (.iinc 3 1, 3) := by decide +kernel
theorem dX6_audit_50 : decode cX6_audit 50 = .ok (.goto (-42), 3) := by decide +kernel
theorem dX6_audit_53 : decode cX6_audit 53 = .ok (.iload_n 2, 1) := by decide +kernel
theorem dX6_audit_54 : decode cX6_audit 54 = .ok (.ireturn, 1) := by decide +kernel
theorem dX6_hop_0 : decode cX6_hop 0 = .ok (.iload_n 1, 1) := by decide +kernel
theorem dX6_hop_1 : decode cX6_hop 1 = .ok (.invokestatic 150, 3) := by decide +kernel
theorem dX6_hop_4 : decode cX6_hop 4 = .ok (.iload_n 2, 1) := by decide +kernel
theorem dX6_hop_5 : decode cX6_hop 5 = .ok (.invokestatic 99, 3) := by decide +kernel
theorem dX6_hop_8 : decode cX6_hop 8 = .ok (.iload 4, 2) := by decide +kernel
theorem dX6_hop_10 : decode cX6_hop 10 = .ok (.ifCond .ge 14, 3) := by decide +kernel
theorem dX6_hop_13 : decode cX6_hop 13 = .ok (.new 72, 3) := by decide +kernel
theorem dX6_hop_16 : decode cX6_hop 16 = .ok (.dup, 1) := by decide +kernel
theorem dX6_hop_17 : decode cX6_hop 17 = .ok (.ldc_w 281, 3) := by decide +kernel
theorem dX6_hop_20 : decode cX6_hop 20 = .ok (.invokespecial 76, 3) := by decide +kernel
theorem dX6_hop_23 : decode cX6_hop 23 = .ok (.athrow, 1) := by decide +kernel
theorem dX6_hop_24 : decode cX6_hop 24 = .ok (.iload_n 3, 1) := by decide +kernel
theorem dX6_hop_25 : decode cX6_hop 25 = .ok (.invokestatic 283, 3) := by decide +kernel
theorem dX6_hop_28 : decode cX6_hop 28 = .ok (.aload_n 0, 1) := by decide +kernel
theorem dX6_hop_29 : decode cX6_hop 29 = .ok (.iload_n 1, 1) := by decide +kernel
theorem dX6_hop_30 : decode cX6_hop 30 = .ok (.iload_n 2, 1) := by decide +kernel
theorem dX6_hop_31 : decode cX6_hop 31 = .ok (.iload_n 3, 1) := by decide +kernel
theorem dX6_hop_32 : decode cX6_hop 32 = .ok (.invokevirtual 286, 3) := by decide +kernel
theorem dX6_hop_35 : decode cX6_hop 35 = .ok (.pop, 1) := by decide +kernel
theorem dX6_hop_36 : decode cX6_hop 36 = .ok (.aload_n 0, 1) := by decide +kernel
theorem dX6_hop_37 : decode cX6_hop 37 = .ok (.getfield 51, 3) := by decide +kernel
theorem dX6_hop_40 : decode cX6_hop 40 = .ok (.iload 4, 2) := by decide +kernel
theorem dX6_hop_42 : decode cX6_hop 42 = .ok (.invokevirtual 289, 3) := by decide +kernel
theorem dX6_hop_45 : decode cX6_hop 45 = .ok (.ireturn, 1) := by decide +kernel
theorem dX6_why_0 : decode cX6_why 0 = .ok (.iload_n 1, 1) := by decide +kernel
theorem dX6_why_1 : decode cX6_why 1 = .ok (.invokestatic 150, 3) := by decide +kernel
theorem dX6_why_4 : decode cX6_why 4 = .ok (.iload_n 2, 1) := by decide +kernel
theorem dX6_why_5 : decode cX6_why 5 = .ok (.invokestatic 99, 3) := by decide +kernel
theorem dX6_why_8 : decode cX6_why 8 = .ok (.iload_n 3, 1) := by decide +kernel
theorem dX6_why_9 : decode cX6_why 9 = .ok (.invokestatic 283, 3) := by decide +kernel
theorem dX6_why_12 : decode cX6_why 12 = .ok (.aload_n 0, 1) := by decide +kernel
theorem dX6_why_13 : decode cX6_why 13 = .ok (.iload_n 1, 1) := by decide +kernel
theorem dX6_why_14 : decode cX6_why 14 = .ok (.iload_n 2, 1) := by decide +kernel
theorem dX6_why_15 : decode cX6_why 15 = .ok (.iload_n 3, 1) := by decide +kernel
theorem dX6_why_16 : decode cX6_why 16 = .ok (.invokevirtual 286, 3) := by decide +kernel
theorem dX6_why_19 : decode cX6_why 19 = .ok (.ireturn, 1) := by decide +kernel
theorem dX6_dial_0 : decode cX6_dial 0 = .ok (.iload_n 1, 1) := by decide +kernel
theorem dX6_dial_1 : decode cX6_dial 1 = .ok (.invokestatic 99, 3) := by decide +kernel
theorem dX6_dial_4 : decode cX6_dial 4 = .ok (.iload_n 2, 1) := by decide +kernel
theorem dX6_dial_5 : decode cX6_dial 5 = .ok (.invokestatic 99, 3) := by decide +kernel
theorem dX6_dial_8 : decode cX6_dial 8 = .ok (.iload_n 3, 1) := by decide +kernel
theorem dX6_dial_9 : decode cX6_dial 9 = .ok (.invokestatic 283, 3) := by decide +kernel
theorem dX6_dial_12 : decode cX6_dial 12 = .ok (.aload_n 0, 1) := by decide +kernel
theorem dX6_dial_13 : decode cX6_dial 13 = .ok (.iload_n 1, 1) := by decide +kernel
theorem dX6_dial_14 : decode cX6_dial 14 = .ok (.invokevirtual 126, 3) := by decide +kernel
theorem dX6_dial_17 : decode cX6_dial 17 = .ok (.aload_n 0, 1) := by decide +kernel
theorem dX6_dial_18 : decode cX6_dial 18 = .ok (.aload_n 0, 1) := by decide +kernel
theorem dX6_dial_19 : decode cX6_dial 19 = .ok (.getfield 23, 3) := by decide +kernel
theorem dX6_dial_22 : decode cX6_dial 22 = .ok (.getfield 129, 3) := by decide +kernel
theorem dX6_dial_25 : decode cX6_dial 25 = .ok (.iload_n 1, 1) := by decide +kernel
theorem dX6_dial_26 : decode cX6_dial 26 = .ok (.iaload, 1) := by decide +kernel
theorem dX6_dial_27 : decode cX6_dial 27 = .ok (.iload_n 2, 1) := by decide +kernel
theorem dX6_dial_28 : decode cX6_dial 28 = .ok (.iload_n 3, 1) := by decide +kernel
theorem dX6_dial_29 : decode cX6_dial 29 = .ok (.invokevirtual 286, 3) := by decide +kernel
theorem dX6_dial_32 : decode cX6_dial 32 = .ok (.istore 4, 2) := by decide +kernel
theorem dX6_dial_34 : decode cX6_dial 34 = .ok (.iload 4, 2) := by decide +kernel
theorem dX6_dial_36 : decode cX6_dial 36 = .ok (.ifCond .ne 7, 3) := by decide +kernel
theorem dX6_dial_39 : decode cX6_dial 39 = .ok (.aload_n 0, 1) := by decide +kernel
theorem dX6_dial_40 : decode cX6_dial 40 = .ok (.invokevirtual 292, 3) := by decide +kernel
theorem dX6_dial_43 : decode cX6_dial 43 = .ok (.iload 4, 2) := by decide +kernel
theorem dX6_dial_45 : decode cX6_dial 45 = .ok (.ireturn, 1) := by decide +kernel
theorem dX6_minute_0 : decode cX6_minute 0 = .ok (.aload_n 0, 1) := by decide +kernel
theorem dX6_minute_1 : decode cX6_minute 1 = .ok (.getfield 55, 3) := by decide +kernel
theorem dX6_minute_4 : decode cX6_minute 4 = .ok (.ireturn, 1) := by decide +kernel
theorem dX6_isFirm_0 : decode cX6_isFirm 0 = .ok (.iload_n 0, 1) := by decide +kernel
theorem dX6_isFirm_1 : decode cX6_isFirm 1 = .ok (.ifCond .lt 13, 3) := by decide +kernel
theorem dX6_isFirm_4 : decode cX6_isFirm 4 = .ok (.iload_n 0, 1) := by decide +kernel
theorem dX6_isFirm_5 : decode cX6_isFirm 5 = .ok (.bipush 6, 2) := by decide +kernel
theorem dX6_isFirm_7 : decode cX6_isFirm 7 = .ok (.if_icmp .ge 7, 3) := by decide +kernel
theorem dX6_isFirm_10 : decode cX6_isFirm 10 = .ok (.iconst 1, 1) := by decide +kernel
theorem dX6_isFirm_11 : decode cX6_isFirm 11 = .ok (.goto 4, 3) := by decide +kernel
theorem dX6_isFirm_14 : decode cX6_isFirm 14 = .ok (.iconst 0, 1) := by decide +kernel
theorem dX6_isFirm_15 : decode cX6_isFirm 15 = .ok (.ireturn, 1) := by decide +kernel
theorem dX6_isBlock_0 : decode cX6_isBlock 0 = .ok (.iload_n 0, 1) := by decide +kernel
theorem dX6_isBlock_1 : decode cX6_isBlock 1 = .ok (.ifCond .lt 13, 3) := by decide +kernel
theorem dX6_isBlock_4 : decode cX6_isBlock 4 = .ok (.iload_n 0, 1) := by decide +kernel
theorem dX6_isBlock_5 : decode cX6_isBlock 5 = .ok (.bipush 20, 2) := by decide +kernel
theorem dX6_isBlock_7 : decode cX6_isBlock 7 = .ok (.if_icmp .ge 7, 3) := by decide +kernel
theorem dX6_isBlock_10 : decode cX6_isBlock 10 = .ok (.iconst 1, 1) := by decide +kernel
theorem dX6_isBlock_11 : decode cX6_isBlock 11 = .ok (.goto 4, 3) := by decide +kernel
theorem dX6_isBlock_14 : decode cX6_isBlock 14 = .ok (.iconst 0, 1) := by decide +kernel
theorem dX6_isBlock_15 : decode cX6_isBlock 15 = .ok (.ireturn, 1) := by decide +kernel
theorem dX6_requireFirm_0 : decode cX6_requireFirm 0 = .ok (.iload_n 0, 1) := by decide +kernel
theorem dX6_requireFirm_1 : decode cX6_requireFirm 1 = .ok (.invokestatic 69, 3) := by decide +kernel
theorem dX6_requireFirm_4 : decode cX6_requireFirm 4 = .ok (.ifCond .ne 14, 3) := by decide +kernel
theorem dX6_requireFirm_7 : decode cX6_requireFirm 7 = .ok (.new 72, 3) := by decide +kernel
theorem dX6_requireFirm_10 : decode cX6_requireFirm 10 = .ok (.dup, 1) := by decide +kernel
theorem dX6_requireFirm_11 : decode cX6_requireFirm 11 = .ok (.ldc_w 295, 3) := by decide +kernel
theorem dX6_requireFirm_14 : decode cX6_requireFirm 14 = .ok (.invokespecial 76, 3) := by decide +kernel
theorem dX6_requireFirm_17 : decode cX6_requireFirm 17 = .ok (.athrow, 1) := by decide +kernel
theorem dX6_requireFirm_18 : decode cX6_requireFirm 18 = .ok (.return_, 1) := by decide +kernel
theorem dX6_requireNumber_0 : decode cX6_requireNumber 0 = .ok (.iload_n 0, 1) := by decide +kernel
theorem dX6_requireNumber_1 : decode cX6_requireNumber 1 = .ok (.ifCond .lt 10, 3) := by decide +kernel
theorem dX6_requireNumber_4 : decode cX6_requireNumber 4 = .ok (.iload_n 0, 1) := by decide +kernel
theorem dX6_requireNumber_5 : decode cX6_requireNumber 5 = .ok (.sipush 200, 3) := by decide +kernel
theorem dX6_requireNumber_8 : decode cX6_requireNumber 8 = .ok (.if_icmp .lt 14, 3) := by decide +kernel
theorem dX6_requireNumber_11 : decode cX6_requireNumber 11 = .ok (.new 72, 3) := by decide +kernel
theorem dX6_requireNumber_14 : decode cX6_requireNumber 14 = .ok (.dup, 1) := by decide +kernel
theorem dX6_requireNumber_15 : decode cX6_requireNumber 15 = .ok (.ldc_w 297, 3) := by decide +kernel
theorem dX6_requireNumber_18 : decode cX6_requireNumber 18 = .ok (.invokespecial 76, 3) := by decide +kernel
theorem dX6_requireNumber_21 : decode cX6_requireNumber 21 = .ok (.athrow, 1) := by decide +kernel
theorem dX6_requireNumber_22 : decode cX6_requireNumber 22 = .ok (.return_, 1) := by decide +kernel
theorem dX6_requireOrder_0 : decode cX6_requireOrder 0 = .ok (.iload_n 1, 1) := by decide +kernel
theorem dX6_requireOrder_1 : decode cX6_requireOrder 1 = .ok (.ifCond .lt 14, 3) := by decide +kernel
theorem dX6_requireOrder_4 : decode cX6_requireOrder 4 = .ok (.iload_n 1, 1) := by decide +kernel
theorem dX6_requireOrder_5 : decode cX6_requireOrder 5 = .ok (.aload_n 0, 1) := by decide +kernel
theorem dX6_requireOrder_6 : decode cX6_requireOrder 6 = .ok (.getfield 30, 3) := by decide +kernel
theorem dX6_requireOrder_9 : decode cX6_requireOrder 9 = .ok (.getfield 172, 3) := by decide +kernel
theorem dX6_requireOrder_12 : decode cX6_requireOrder 12 = .ok (.if_icmp .lt 14, 3) := by decide +kernel
theorem dX6_requireOrder_15 : decode cX6_requireOrder 15 = .ok (.new 72, 3) := by decide +kernel
theorem dX6_requireOrder_18 : decode cX6_requireOrder 18 = .ok (.dup, 1) := by decide +kernel
theorem dX6_requireOrder_19 : decode cX6_requireOrder 19 = .ok (.ldc_w 299, 3) := by decide +kernel
theorem dX6_requireOrder_22 : decode cX6_requireOrder 22 = .ok (.invokespecial 76, 3) := by decide +kernel
theorem dX6_requireOrder_25 : decode cX6_requireOrder 25 = .ok (.athrow, 1) := by decide +kernel
theorem dX6_requireOrder_26 : decode cX6_requireOrder 26 = .ok (.return_, 1) := by decide +kernel
theorem dX6_requireSecret_0 : decode cX6_requireSecret 0 = .ok (.iload_n 0, 1) := by decide +kernel
theorem dX6_requireSecret_1 : decode cX6_requireSecret 1 = .ok (.ifCond .lt 9, 3) := by decide +kernel
theorem dX6_requireSecret_4 : decode cX6_requireSecret 4 = .ok (.iload_n 0, 1) := by decide +kernel
theorem dX6_requireSecret_5 : decode cX6_requireSecret 5 = .ok (.bipush 100, 2) := by decide +kernel
theorem dX6_requireSecret_7 : decode cX6_requireSecret 7 = .ok (.if_icmp .lt 14, 3) := by decide +kernel
theorem dX6_requireSecret_10 : decode cX6_requireSecret 10 = .ok (.new 153, 3) := by decide +kernel
theorem dX6_requireSecret_13 : decode cX6_requireSecret 13 = .ok (.dup, 1) := by decide +kernel
theorem dX6_requireSecret_14 : decode cX6_requireSecret 14 = .ok (.ldc_w 301, 3) := by decide +kernel
theorem dX6_requireSecret_17 : decode cX6_requireSecret 17 = .ok (.invokespecial 157, 3) := by decide +kernel
theorem dX6_requireSecret_20 : decode cX6_requireSecret 20 = .ok (.athrow, 1) := by decide +kernel
theorem dX6_requireSecret_21 : decode cX6_requireSecret 21 = .ok (.return_, 1) := by decide +kernel
theorem dX6_requireWhat_0 : decode cX6_requireWhat 0 = .ok (.iload_n 0, 1) := by decide +kernel
theorem dX6_requireWhat_1 : decode cX6_requireWhat 1 = .ok (.ifCond .lt 8, 3) := by decide +kernel
theorem dX6_requireWhat_4 : decode cX6_requireWhat 4 = .ok (.iload_n 0, 1) := by decide +kernel
theorem dX6_requireWhat_5 : decode cX6_requireWhat 5 = .ok (.iload_n 1, 1) := by decide +kernel
theorem dX6_requireWhat_6 : decode cX6_requireWhat 6 = .ok (.if_icmp .lt 14, 3) := by decide +kernel
theorem dX6_requireWhat_9 : decode cX6_requireWhat 9 = .ok (.new 153, 3) := by decide +kernel
theorem dX6_requireWhat_12 : decode cX6_requireWhat 12 = .ok (.dup, 1) := by decide +kernel
theorem dX6_requireWhat_13 : decode cX6_requireWhat 13 = .ok (.ldc_w 303, 3) := by decide +kernel
theorem dX6_requireWhat_16 : decode cX6_requireWhat 16 = .ok (.invokespecial 157, 3) := by decide +kernel
theorem dX6_requireWhat_19 : decode cX6_requireWhat 19 = .ok (.athrow, 1) := by decide +kernel
theorem dX6_requireWhat_20 : decode cX6_requireWhat 20 = .ok (.return_, 1) := by decide +kernel
theorem dX6_requireWay_0 : decode cX6_requireWay 0 = .ok (.iload_n 0, 1) := by decide +kernel
theorem dX6_requireWay_1 : decode cX6_requireWay 1 = .ok (.ifCond .lt 8, 3) := by decide +kernel
theorem dX6_requireWay_4 : decode cX6_requireWay 4 = .ok (.iload_n 0, 1) := by decide +kernel
theorem dX6_requireWay_5 : decode cX6_requireWay 5 = .ok (.iconst 2, 1) := by decide +kernel
theorem dX6_requireWay_6 : decode cX6_requireWay 6 = .ok (.if_icmp .le 14, 3) := by decide +kernel
theorem dX6_requireWay_9 : decode cX6_requireWay 9 = .ok (.new 153, 3) := by decide +kernel
theorem dX6_requireWay_12 : decode cX6_requireWay 12 = .ok (.dup, 1) := by decide +kernel
theorem dX6_requireWay_13 : decode cX6_requireWay 13 = .ok (.ldc_w 305, 3) := by decide +kernel
theorem dX6_requireWay_16 : decode cX6_requireWay 16 = .ok (.invokespecial 157, 3) := by decide +kernel
theorem dX6_requireWay_19 : decode cX6_requireWay 19 = .ok (.athrow, 1) := by decide +kernel
theorem dX6_requireWay_20 : decode cX6_requireWay 20 = .ok (.return_, 1) := by decide +kernel
theorem dX6_requireInUse_0 : decode cX6_requireInUse 0 = .ok (.aload_n 0, 1) := by decide +kernel
theorem dX6_requireInUse_1 : decode cX6_requireInUse 1 = .ok (.getfield 23, 3) := by decide +kernel
theorem dX6_requireInUse_4 : decode cX6_requireInUse 4 = .ok (.iload_n 1, 1) := by decide +kernel
theorem dX6_requireInUse_5 : decode cX6_requireInUse 5 = .ok (.invokevirtual 109, 3) := by decide +kernel
theorem dX6_requireInUse_8 : decode cX6_requireInUse 8 = .ok (.ifCond .ne 14, 3) := by decide +kernel
theorem dX6_requireInUse_11 : decode cX6_requireInUse 11 = .ok (.new 83, 3) := by decide +kernel
theorem dX6_requireInUse_14 : decode cX6_requireInUse 14 = .ok (.dup, 1) := by decide +kernel
theorem dX6_requireInUse_15 : decode cX6_requireInUse 15 = .ok (.ldc_w 307, 3) := by decide +kernel
theorem dX6_requireInUse_18 : decode cX6_requireInUse 18 = .ok (.invokespecial 87, 3) := by decide +kernel
theorem dX6_requireInUse_21 : decode cX6_requireInUse 21 = .ok (.athrow, 1) := by decide +kernel
theorem dX6_requireInUse_22 : decode cX6_requireInUse 22 = .ok (.return_, 1) := by decide +kernel
theorem dX6_asInt_0 : decode cX6_asInt 0 = .ok (.iload_n 0, 1) := by decide +kernel
theorem dX6_asInt_1 : decode cX6_asInt 1 = .ok (.ifCond .eq 7, 3) := by decide +kernel
theorem dX6_asInt_4 : decode cX6_asInt 4 = .ok (.iconst 1, 1) := by decide +kernel
theorem dX6_asInt_5 : decode cX6_asInt 5 = .ok (.goto 4, 3) := by decide +kernel
theorem dX6_asInt_8 : decode cX6_asInt 8 = .ok (.iconst 0, 1) := by decide +kernel
theorem dX6_asInt_9 : decode cX6_asInt 9 = .ok (.ireturn, 1) := by decide +kernel
theorem dX6_holderOf_0 : decode cX6_holderOf 0 = .ok (.aload_n 0, 1) := by decide +kernel
theorem dX6_holderOf_1 : decode cX6_holderOf 1 = .ok (.getfield 9, 3) := by decide +kernel
theorem dX6_holderOf_4 : decode cX6_holderOf 4 = .ok (.iload_n 1, 1) := by decide +kernel
theorem dX6_holderOf_5 : decode cX6_holderOf 5 = .ok (.bipush 10, 2) := by decide +kernel
theorem dX6_holderOf_7 : decode cX6_holderOf 7 = .ok (.idiv, 1) := by decide +kernel
theorem dX6_holderOf_8 : decode cX6_holderOf 8 = .ok (.iaload, 1) := by decide +kernel
theorem dX6_holderOf_9 : decode cX6_holderOf 9 = .ok (.ireturn, 1) := by decide +kernel
theorem dX6_countBlocksOf_0 : decode cX6_countBlocksOf 0 = .ok (.iconst 0, 1) := by decide +kernel
theorem dX6_countBlocksOf_1 : decode cX6_countBlocksOf 1 = .ok (.istore_n 2, 1) := by decide +kernel
theorem dX6_countBlocksOf_2 : decode cX6_countBlocksOf 2 = .ok (.iconst 0, 1) := by decide +kernel
theorem dX6_countBlocksOf_3 : decode cX6_countBlocksOf 3 = .ok (.istore_n 3, 1) := by decide +kernel
theorem dX6_countBlocksOf_4 : decode cX6_countBlocksOf 4 = .ok (.iload_n 3, 1) := by decide +kernel
theorem dX6_countBlocksOf_5 : decode cX6_countBlocksOf 5 = .ok (.bipush 20, 2) := by decide +kernel
theorem dX6_countBlocksOf_7 : decode cX6_countBlocksOf 7 = .ok (.if_icmp .ge 22, 3) := by decide +kernel
theorem dX6_countBlocksOf_10 : decode cX6_countBlocksOf 10 = .ok (.aload_n 0, 1) := by decide +kernel
theorem dX6_countBlocksOf_11 : decode cX6_countBlocksOf 11 = .ok (.getfield 9, 3) := by decide +kernel
theorem dX6_countBlocksOf_14 : decode cX6_countBlocksOf 14 = .ok (.iload_n 3, 1) := by decide +kernel
theorem dX6_countBlocksOf_15 : decode cX6_countBlocksOf 15 = .ok (.iaload, 1) := by decide +kernel
theorem dX6_countBlocksOf_16 : decode cX6_countBlocksOf 16 = .ok (.iload_n 1, 1) := by decide +kernel
theorem dX6_countBlocksOf_17 : decode cX6_countBlocksOf 17 = .ok (.if_icmp .ne 6, 3) := by decide +kernel
theorem dX6_countBlocksOf_20 : decode cX6_countBlocksOf 20 = .ok (.iinc 2 1, 3) := by decide +kernel
theorem dX6_countBlocksOf_23 : decode cX6_countBlocksOf 23 = .ok (.iinc 3 1, 3) := by decide +kernel
theorem dX6_countBlocksOf_26 : decode cX6_countBlocksOf 26 = .ok (.goto (-22), 3) := by decide +kernel
theorem dX6_countBlocksOf_29 : decode cX6_countBlocksOf 29 = .ok (.iload_n 2, 1) := by decide +kernel
theorem dX6_countBlocksOf_30 : decode cX6_countBlocksOf 30 = .ok (.ireturn, 1) := by decide +kernel
theorem dX6_isBlockBusy_0 : decode cX6_isBlockBusy 0 = .ok (.iload_n 1, 1) := by decide +kernel
theorem dX6_isBlockBusy_1 : decode cX6_isBlockBusy 1 = .ok (.bipush 10, 2) := by decide +kernel
theorem dX6_isBlockBusy_3 : decode cX6_isBlockBusy 3 = .ok (.imul, 1) := by decide +kernel
theorem dX6_isBlockBusy_4 : decode cX6_isBlockBusy 4 = .ok (.istore_n 2, 1) := by decide +kernel
theorem dX6_isBlockBusy_5 : decode cX6_isBlockBusy 5 = .ok (.iload_n 2, 1) := by decide +kernel
theorem dX6_isBlockBusy_6 : decode cX6_isBlockBusy 6 = .ok (.istore_n 3, 1) := by decide +kernel
theorem dX6_isBlockBusy_7 : decode cX6_isBlockBusy 7 = .ok (.iload_n 3, 1) := by decide +kernel
theorem dX6_isBlockBusy_8 : decode cX6_isBlockBusy 8 = .ok (.iload_n 2, 1) := by decide +kernel
theorem dX6_isBlockBusy_9 : decode cX6_isBlockBusy 9 = .ok (.bipush 10, 2) := by decide +kernel
theorem dX6_isBlockBusy_11 : decode cX6_isBlockBusy 11 = .ok (.iadd, 1) := by decide +kernel
theorem dX6_isBlockBusy_12 : decode cX6_isBlockBusy 12 = .ok (.if_icmp .ge 37, 3) := by decide +kernel
theorem dX6_isBlockBusy_15 : decode cX6_isBlockBusy 15 = .ok (.aload_n 0, 1) := by decide +kernel
theorem dX6_isBlockBusy_16 : decode cX6_isBlockBusy 16 = .ok (.getfield 23, 3) := by decide +kernel
theorem dX6_isBlockBusy_19 : decode cX6_isBlockBusy 19 = .ok (.iload_n 3, 1) := by decide +kernel
theorem dX6_isBlockBusy_20 : decode cX6_isBlockBusy 20 = .ok (.invokevirtual 109, 3) := by decide +kernel
theorem dX6_isBlockBusy_23 : decode cX6_isBlockBusy 23 = .ok (.ifCond .ne 18, 3) := by decide +kernel
theorem dX6_isBlockBusy_26 : decode cX6_isBlockBusy 26 = .ok (.aload_n 0, 1) := by decide +kernel
theorem dX6_isBlockBusy_27 : decode cX6_isBlockBusy 27 = .ok (.getfield 23, 3) := by decide +kernel
theorem dX6_isBlockBusy_30 : decode cX6_isBlockBusy 30 = .ok (.iload_n 3, 1) := by decide +kernel
theorem dX6_isBlockBusy_31 : decode cX6_isBlockBusy 31 = .ok (.aload_n 0, 1) := by decide +kernel
theorem dX6_isBlockBusy_32 : decode cX6_isBlockBusy 32 = .ok (.getfield 55, 3) := by decide +kernel
theorem dX6_isBlockBusy_35 : decode cX6_isBlockBusy 35 = .ok (.invokevirtual 112, 3) := by decide +kernel
theorem dX6_isBlockBusy_38 : decode cX6_isBlockBusy 38 = .ok (.ifCond .eq 5, 3) := by decide +kernel
theorem dX6_isBlockBusy_41 : decode cX6_isBlockBusy 41 = .ok (.iconst 1, 1) := by decide +kernel
theorem dX6_isBlockBusy_42 : decode cX6_isBlockBusy 42 = .ok (.ireturn, 1) := by decide +kernel
theorem dX6_isBlockBusy_43 : decode cX6_isBlockBusy 43 = .ok (.iinc 3 1, 3) := by decide +kernel
theorem dX6_isBlockBusy_46 : decode cX6_isBlockBusy 46 = .ok (.goto (-39), 3) := by decide +kernel
theorem dX6_isBlockBusy_49 : decode cX6_isBlockBusy 49 = .ok (.iconst 0, 1) := by decide +kernel
theorem dX6_isBlockBusy_50 : decode cX6_isBlockBusy 50 = .ok (.ireturn, 1) := by decide +kernel
theorem dX6_inheritBlock_0 : decode cX6_inheritBlock 0 = .ok (.aload_n 0, 1) := by decide +kernel
theorem dX6_inheritBlock_1 : decode cX6_inheritBlock 1 = .ok (.getfield 9, 3) := by decide +kernel
theorem dX6_inheritBlock_4 : decode cX6_inheritBlock 4 = .ok (.iload_n 1, 1) := by decide +kernel
theorem dX6_inheritBlock_5 : decode cX6_inheritBlock 5 = .ok (.iaload, 1) := by decide +kernel
theorem dX6_inheritBlock_6 : decode cX6_inheritBlock 6 = .ok (.istore 4, 2) := by decide +kernel
theorem dX6_inheritBlock_8 : decode cX6_inheritBlock 8 = .ok (.iload 4, 2) := by decide +kernel
theorem dX6_inheritBlock_10 : decode cX6_inheritBlock 10 = .ok (.iload_n 2, 1) := by decide +kernel
theorem dX6_inheritBlock_11 : decode cX6_inheritBlock 11 = .ok (.if_icmp .ne 10, 3) := by decide +kernel
theorem dX6_inheritBlock_14 : decode cX6_inheritBlock 14 = .ok (.aload_n 0, 1) := by decide +kernel
theorem dX6_inheritBlock_15 : decode cX6_inheritBlock 15 = .ok (.getfield 9, 3) := by decide +kernel
theorem dX6_inheritBlock_18 : decode cX6_inheritBlock 18 = .ok (.iload_n 1, 1) := by decide +kernel
theorem dX6_inheritBlock_19 : decode cX6_inheritBlock 19 = .ok (.iload_n 3, 1) := by decide +kernel
theorem dX6_inheritBlock_20 : decode cX6_inheritBlock 20 = .ok (.iastore, 1) := by decide +kernel
theorem dX6_inheritBlock_21 : decode cX6_inheritBlock 21 = .ok (.iconst 0, 1) := by decide +kernel
theorem dX6_inheritBlock_22 : decode cX6_inheritBlock 22 = .ok (.istore 5, 2) := by decide +kernel
theorem dX6_inheritBlock_24 : decode cX6_inheritBlock 24 = .ok (.iload_n 1, 1) := by decide +kernel
theorem dX6_inheritBlock_25 : decode cX6_inheritBlock 25 = .ok (.bipush 10, 2) := by decide +kernel
theorem dX6_inheritBlock_27 : decode cX6_inheritBlock 27 = .ok (.imul, 1) := by decide +kernel
theorem dX6_inheritBlock_28 : decode cX6_inheritBlock 28 = .ok (.istore 6, 2) := by decide +kernel
theorem dX6_inheritBlock_30 : decode cX6_inheritBlock 30 = .ok (.iload 6, 2) := by decide +kernel
theorem dX6_inheritBlock_32 : decode cX6_inheritBlock 32 = .ok (.istore 7, 2) := by decide +kernel
theorem dX6_inheritBlock_34 : decode cX6_inheritBlock 34 = .ok (.iload 7, 2) := by decide +kernel
theorem dX6_inheritBlock_36 : decode cX6_inheritBlock 36 = .ok (.iload 6, 2) := by decide +kernel
theorem dX6_inheritBlock_38 : decode cX6_inheritBlock 38 = .ok (.bipush 10, 2) := by decide +kernel
theorem dX6_inheritBlock_40 : decode cX6_inheritBlock 40 = .ok (.iadd, 1) := by decide +kernel
theorem dX6_inheritBlock_41 : decode cX6_inheritBlock 41 = .ok (.if_icmp .ge 63, 3) := by decide +kernel
theorem dX6_inheritBlock_44 : decode cX6_inheritBlock 44 = .ok (.aload_n 0, 1) := by decide +kernel
theorem dX6_inheritBlock_45 : decode cX6_inheritBlock 45 = .ok (.getfield 23, 3) := by decide +kernel
theorem dX6_inheritBlock_48 : decode cX6_inheritBlock 48 = .ok (.getfield 129, 3) := by decide +kernel
theorem dX6_inheritBlock_51 : decode cX6_inheritBlock 51 = .ok (.iload 7, 2) := by decide +kernel
theorem dX6_inheritBlock_53 : decode cX6_inheritBlock 53 = .ok (.iaload, 1) := by decide +kernel
theorem dX6_inheritBlock_54 : decode cX6_inheritBlock 54 = .ok (.istore 8, 2) := by decide +kernel
theorem dX6_inheritBlock_56 : decode cX6_inheritBlock 56 = .ok (.iload 8, 2) := by decide +kernel
theorem dX6_inheritBlock_58 : decode cX6_inheritBlock 58 = .ok (.iload_n 2, 1) := by decide +kernel
theorem dX6_inheritBlock_59 : decode cX6_inheritBlock 59 = .ok (.if_icmp .ne 28, 3) := by decide +kernel
theorem dX6_inheritBlock_62 : decode cX6_inheritBlock 62 = .ok (.aload_n 0, 1) := by decide +kernel
theorem dX6_inheritBlock_63 : decode cX6_inheritBlock 63 = .ok (.getfield 23, 3) := by decide +kernel
theorem dX6_inheritBlock_66 : decode cX6_inheritBlock 66 = .ok (.getfield 129, 3) := by decide +kernel
theorem dX6_inheritBlock_69 : decode cX6_inheritBlock 69 = .ok (.iload 7, 2) := by decide +kernel
theorem dX6_inheritBlock_71 : decode cX6_inheritBlock 71 = .ok (.iload_n 3, 1) := by decide +kernel
theorem dX6_inheritBlock_72 : decode cX6_inheritBlock 72 = .ok (.iastore, 1) := by decide +kernel
theorem dX6_inheritBlock_73 : decode cX6_inheritBlock 73 = .ok (.aload_n 0, 1) := by decide +kernel
theorem dX6_inheritBlock_74 : decode cX6_inheritBlock 74 = .ok (.getfield 23, 3) := by decide +kernel
theorem dX6_inheritBlock_77 : decode cX6_inheritBlock 77 = .ok (.getfield 309, 3) := by decide +kernel
theorem dX6_inheritBlock_80 : decode cX6_inheritBlock 80 = .ok (.iload 7, 2) := by decide +kernel
theorem dX6_inheritBlock_82 : decode cX6_inheritBlock 82 = .ok (.iconst (-1), 1) := by decide +kernel
theorem dX6_inheritBlock_83 : decode cX6_inheritBlock 83 = .ok (.iastore, 1) := by decide +kernel
theorem dX6_inheritBlock_84 : decode cX6_inheritBlock 84 = .ok (.iinc 5 1, 3) := by decide +kernel
theorem dX6_inheritBlock_87 : decode cX6_inheritBlock 87 = .ok (.aload_n 0, 1) := by decide +kernel
theorem dX6_inheritBlock_88 : decode cX6_inheritBlock 88 = .ok (.iload 7, 2) := by decide +kernel
theorem dX6_inheritBlock_90 : decode cX6_inheritBlock 90 = .ok (.iload_n 3, 1) := by decide +kernel
theorem dX6_inheritBlock_91 : decode cX6_inheritBlock 91 = .ok (.iload 8, 2) := by decide +kernel
theorem dX6_inheritBlock_93 : decode cX6_inheritBlock 93 = .ok (.iload 4, 2) := by decide +kernel
theorem dX6_inheritBlock_95 : decode cX6_inheritBlock 95 = .ok (.invokevirtual 312, 3) := by decide +kernel
theorem dX6_inheritBlock_98 : decode cX6_inheritBlock 98 = .ok (.iinc 7 1, 3) := by decide +kernel
theorem dX6_inheritBlock_101 : decode cX6_inheritBlock 101 = .ok (.goto (-67), 3) := by decide +kernel
theorem dX6_inheritBlock_104 : decode cX6_inheritBlock 104 = .ok (.iload 5, 2) := by decide +kernel
theorem dX6_inheritBlock_106 : decode cX6_inheritBlock 106 = .ok (.ireturn, 1) := by decide +kernel
theorem dX6_announceHeir_0 : decode cX6_announceHeir 0 = .ok (.aload_n 0, 1) := by decide +kernel
theorem dX6_announceHeir_1 : decode cX6_announceHeir 1 = .ok (.getfield 23, 3) := by decide +kernel
theorem dX6_announceHeir_4 : decode cX6_announceHeir 4 = .ok (.getfield 129, 3) := by decide +kernel
theorem dX6_announceHeir_7 : decode cX6_announceHeir 7 = .ok (.iload_n 1, 1) := by decide +kernel
theorem dX6_announceHeir_8 : decode cX6_announceHeir 8 = .ok (.iaload, 1) := by decide +kernel
theorem dX6_announceHeir_9 : decode cX6_announceHeir 9 = .ok (.iload_n 2, 1) := by decide +kernel
theorem dX6_announceHeir_10 : decode cX6_announceHeir 10 = .ok (.if_icmp .eq 4, 3) := by decide +kernel
theorem dX6_announceHeir_13 : decode cX6_announceHeir 13 = .ok (.return_, 1) := by decide +kernel
theorem dX6_announceHeir_14 : decode cX6_announceHeir 14 = .ok (.aload_n 0, 1) := by decide +kernel
theorem dX6_announceHeir_15 : decode cX6_announceHeir 15 = .ok (.iload_n 1, 1) := by decide +kernel
theorem dX6_announceHeir_16 : decode cX6_announceHeir 16 = .ok (.invokevirtual 106, 3) := by decide +kernel
theorem dX6_announceHeir_19 : decode cX6_announceHeir 19 = .ok (.iload_n 2, 1) := by decide +kernel
theorem dX6_announceHeir_20 : decode cX6_announceHeir 20 = .ok (.if_icmp .eq 24, 3) := by decide +kernel
theorem dX6_announceHeir_23 : decode cX6_announceHeir 23 = .ok (.iload_n 3, 1) := by decide +kernel
theorem dX6_announceHeir_24 : decode cX6_announceHeir 24 = .ok (.iload_n 2, 1) := by decide +kernel
theorem dX6_announceHeir_25 : decode cX6_announceHeir 25 = .ok (.if_icmp .eq 39, 3) := by decide +kernel
theorem dX6_announceHeir_28 : decode cX6_announceHeir 28 = .ok (.aload_n 0, 1) := by decide +kernel
theorem dX6_announceHeir_29 : decode cX6_announceHeir 29 = .ok (.getfield 37, 3) := by decide +kernel
theorem dX6_announceHeir_32 : decode cX6_announceHeir 32 = .ok (.aload_n 0, 1) := by decide +kernel
theorem dX6_announceHeir_33 : decode cX6_announceHeir 33 = .ok (.getfield 55, 3) := by decide +kernel
theorem dX6_announceHeir_36 : decode cX6_announceHeir 36 = .ok (.iload_n 1, 1) := by decide +kernel
theorem dX6_announceHeir_37 : decode cX6_announceHeir 37 = .ok (.iload_n 2, 1) := by decide +kernel
theorem dX6_announceHeir_38 : decode cX6_announceHeir 38 = .ok (.invokevirtual 138, 3) := by decide +kernel
theorem dX6_announceHeir_41 : decode cX6_announceHeir 41 = .ok (.goto 23, 3) := by decide +kernel
theorem dX6_announceHeir_44 : decode cX6_announceHeir 44 = .ok (.iload_n 3, 1) := by decide +kernel
theorem dX6_announceHeir_45 : decode cX6_announceHeir 45 = .ok (.iload 4, 2) := by decide +kernel
theorem dX6_announceHeir_47 : decode cX6_announceHeir 47 = .ok (.if_icmp .eq 17, 3) := by decide +kernel
theorem dX6_announceHeir_50 : decode cX6_announceHeir 50 = .ok (.aload_n 0, 1) := by decide +kernel
theorem dX6_announceHeir_51 : decode cX6_announceHeir 51 = .ok (.getfield 37, 3) := by decide +kernel
theorem dX6_announceHeir_54 : decode cX6_announceHeir 54 = .ok (.aload_n 0, 1) := by decide +kernel
theorem dX6_announceHeir_55 : decode cX6_announceHeir 55 = .ok (.getfield 55, 3) := by decide +kernel
theorem dX6_announceHeir_58 : decode cX6_announceHeir 58 = .ok (.iload_n 1, 1) := by decide +kernel
theorem dX6_announceHeir_59 : decode cX6_announceHeir 59 = .ok (.bipush 6, 2) := by decide +kernel
theorem dX6_announceHeir_61 : decode cX6_announceHeir 61 = .ok (.invokevirtual 138, 3) := by decide +kernel
theorem dX6_announceHeir_64 : decode cX6_announceHeir 64 = .ok (.return_, 1) := by decide +kernel
theorem dX6_isInWindow_0 : decode cX6_isInWindow 0 = .ok (.iload_n 0, 1) := by decide +kernel
theorem dX6_isInWindow_1 : decode cX6_isInWindow 1 = .ok (.bipush 100, 2) := by decide +kernel
theorem dX6_isInWindow_3 : decode cX6_isInWindow 3 = .ok (.irem, 1) := by decide +kernel
theorem dX6_isInWindow_4 : decode cX6_isInWindow 4 = .ok (.bipush 20, 2) := by decide +kernel
theorem dX6_isInWindow_6 : decode cX6_isInWindow 6 = .ok (.if_icmp .ge 7, 3) := by decide +kernel
theorem dX6_isInWindow_9 : decode cX6_isInWindow 9 = .ok (.iconst 1, 1) := by decide +kernel
theorem dX6_isInWindow_10 : decode cX6_isInWindow 10 = .ok (.goto 4, 3) := by decide +kernel
theorem dX6_isInWindow_13 : decode cX6_isInWindow 13 = .ok (.iconst 0, 1) := by decide +kernel
theorem dX6_isInWindow_14 : decode cX6_isInWindow 14 = .ok (.ireturn, 1) := by decide +kernel
theorem dX6_reasonToReject_0 : decode cX6_reasonToReject 0 = .ok (.aload_n 0, 1) := by decide +kernel
theorem dX6_reasonToReject_1 : decode cX6_reasonToReject 1 = .ok (.getfield 23, 3) := by decide +kernel
theorem dX6_reasonToReject_4 : decode cX6_reasonToReject 4 = .ok (.iload_n 2, 1) := by decide +kernel
theorem dX6_reasonToReject_5 : decode cX6_reasonToReject 5 = .ok (.invokevirtual 109, 3) := by decide +kernel
theorem dX6_reasonToReject_8 : decode cX6_reasonToReject 8 = .ok (.ifCond .ne 5, 3) := by decide +kernel
theorem dX6_reasonToReject_11 : decode cX6_reasonToReject 11 = .ok (.iconst 1, 1) := by decide +kernel
theorem dX6_reasonToReject_12 : decode cX6_reasonToReject 12 = .ok (.ireturn, 1) := by decide +kernel
theorem dX6_reasonToReject_13 : decode cX6_reasonToReject 13 = .ok (.aload_n 0, 1) := by decide +kernel
theorem dX6_reasonToReject_14 : decode cX6_reasonToReject 14 = .ok (.getfield 23, 3) := by decide +kernel
theorem dX6_reasonToReject_17 : decode cX6_reasonToReject 17 = .ok (.getfield 129, 3) := by decide +kernel
theorem dX6_reasonToReject_20 : decode cX6_reasonToReject 20 = .ok (.iload_n 2, 1) := by decide +kernel
theorem dX6_reasonToReject_21 : decode cX6_reasonToReject 21 = .ok (.iaload, 1) := by decide +kernel
theorem dX6_reasonToReject_22 : decode cX6_reasonToReject 22 = .ok (.iload_n 1, 1) := by decide +kernel
theorem dX6_reasonToReject_23 : decode cX6_reasonToReject 23 = .ok (.if_icmp .ne 5, 3) := by decide +kernel
theorem dX6_reasonToReject_26 : decode cX6_reasonToReject 26 = .ok (.iconst 2, 1) := by decide +kernel
theorem dX6_reasonToReject_27 : decode cX6_reasonToReject 27 = .ok (.ireturn, 1) := by decide +kernel
theorem dX6_reasonToReject_28 : decode cX6_reasonToReject 28 = .ok (.aload_n 0, 1) := by decide +kernel
theorem dX6_reasonToReject_29 : decode cX6_reasonToReject 29 = .ok (.getfield 23, 3) := by decide +kernel
theorem dX6_reasonToReject_32 : decode cX6_reasonToReject 32 = .ok (.getfield 141, 3) := by decide +kernel
theorem dX6_reasonToReject_35 : decode cX6_reasonToReject 35 = .ok (.iload_n 2, 1) := by decide +kernel
theorem dX6_reasonToReject_36 : decode cX6_reasonToReject 36 = .ok (.iaload, 1) := by decide +kernel
theorem dX6_reasonToReject_37 : decode cX6_reasonToReject 37 = .ok (.iload_n 3, 1) := by decide +kernel
theorem dX6_reasonToReject_38 : decode cX6_reasonToReject 38 = .ok (.if_icmp .eq 5, 3) := by decide +kernel
theorem dX6_reasonToReject_41 : decode cX6_reasonToReject 41 = .ok (.iconst 3, 1) := by decide +kernel
theorem dX6_reasonToReject_42 : decode cX6_reasonToReject 42 = .ok (.ireturn, 1) := by decide +kernel
theorem dX6_reasonToReject_43 : decode cX6_reasonToReject 43 = .ok (.aload_n 0, 1) := by decide +kernel
theorem dX6_reasonToReject_44 : decode cX6_reasonToReject 44 = .ok (.getfield 30, 3) := by decide +kernel
theorem dX6_reasonToReject_47 : decode cX6_reasonToReject 47 = .ok (.iload_n 2, 1) := by decide +kernel
theorem dX6_reasonToReject_48 : decode cX6_reasonToReject 48 = .ok (.invokevirtual 259, 3) := by decide +kernel
theorem dX6_reasonToReject_51 : decode cX6_reasonToReject 51 = .ok (.iconst (-1), 1) := by decide +kernel
theorem dX6_reasonToReject_52 : decode cX6_reasonToReject 52 = .ok (.if_icmp .eq 5, 3) := by decide +kernel
theorem dX6_reasonToReject_55 : decode cX6_reasonToReject 55 = .ok (.iconst 4, 1) := by decide +kernel
theorem dX6_reasonToReject_56 : decode cX6_reasonToReject 56 = .ok (.ireturn, 1) := by decide +kernel
theorem dX6_reasonToReject_57 : decode cX6_reasonToReject 57 = .ok (.aload_n 0, 1) := by decide +kernel
theorem dX6_reasonToReject_58 : decode cX6_reasonToReject 58 = .ok (.getfield 23, 3) := by decide +kernel
theorem dX6_reasonToReject_61 : decode cX6_reasonToReject 61 = .ok (.iload_n 2, 1) := by decide +kernel
theorem dX6_reasonToReject_62 : decode cX6_reasonToReject 62 = .ok (.aload_n 0, 1) := by decide +kernel
theorem dX6_reasonToReject_63 : decode cX6_reasonToReject 63 = .ok (.getfield 55, 3) := by decide +kernel
theorem dX6_reasonToReject_66 : decode cX6_reasonToReject 66 = .ok (.invokevirtual 253, 3) := by decide +kernel
theorem dX6_reasonToReject_69 : decode cX6_reasonToReject 69 = .ok (.ifCond .eq 5, 3) := by decide +kernel
theorem dX6_reasonToReject_72 : decode cX6_reasonToReject 72 = .ok (.iconst 5, 1) := by decide +kernel
theorem dX6_reasonToReject_73 : decode cX6_reasonToReject 73 = .ok (.ireturn, 1) := by decide +kernel
theorem dX6_reasonToReject_74 : decode cX6_reasonToReject 74 = .ok (.iload 4, 2) := by decide +kernel
theorem dX6_reasonToReject_76 : decode cX6_reasonToReject 76 = .ok (.invokestatic 265, 3) := by decide +kernel
theorem dX6_reasonToReject_79 : decode cX6_reasonToReject 79 = .ok (.ifCond .ne 6, 3) := by decide +kernel
theorem dX6_reasonToReject_82 : decode cX6_reasonToReject 82 = .ok (.bipush 6, 2) := by decide +kernel
theorem dX6_reasonToReject_84 : decode cX6_reasonToReject 84 = .ok (.ireturn, 1) := by decide +kernel
theorem dX6_reasonToReject_85 : decode cX6_reasonToReject 85 = .ok (.aload_n 0, 1) := by decide +kernel
theorem dX6_reasonToReject_86 : decode cX6_reasonToReject 86 = .ok (.getfield 30, 3) := by decide +kernel
theorem dX6_reasonToReject_89 : decode cX6_reasonToReject 89 = .ok (.iload 4, 2) := by decide +kernel
theorem dX6_reasonToReject_91 : decode cX6_reasonToReject 91 = .ok (.invokevirtual 268, 3) := by decide +kernel
theorem dX6_reasonToReject_94 : decode cX6_reasonToReject 94 = .ok (.iconst 3, 1) := by decide +kernel
theorem dX6_reasonToReject_95 : decode cX6_reasonToReject 95 = .ok (.if_icmp .lt 8, 3) := by decide +kernel
theorem dX6_reasonToReject_98 : decode cX6_reasonToReject 98 = .ok (.bipush 7, 2) := by decide +kernel
theorem dX6_reasonToReject_100 : decode cX6_reasonToReject 100 = .ok (.goto 4, 3) := by decide +kernel
theorem dX6_reasonToReject_103 : decode cX6_reasonToReject 103 = .ok (.iconst 0, 1) := by decide +kernel
theorem dX6_reasonToReject_104 : decode cX6_reasonToReject 104 = .ok (.ireturn, 1) := by decide +kernel
theorem dX6_canReverse_0 : decode cX6_canReverse 0 = .ok (.aload_n 0, 1) := by decide +kernel
theorem dX6_canReverse_1 : decode cX6_canReverse 1 = .ok (.getfield 30, 3) := by decide +kernel
theorem dX6_canReverse_4 : decode cX6_canReverse 4 = .ok (.getfield 187, 3) := by decide +kernel
theorem dX6_canReverse_7 : decode cX6_canReverse 7 = .ok (.iload_n 1, 1) := by decide +kernel
theorem dX6_canReverse_8 : decode cX6_canReverse 8 = .ok (.iaload, 1) := by decide +kernel
theorem dX6_canReverse_9 : decode cX6_canReverse 9 = .ok (.iconst 2, 1) := by decide +kernel
theorem dX6_canReverse_10 : decode cX6_canReverse 10 = .ok (.if_icmp .ne 22, 3) := by decide +kernel
theorem dX6_canReverse_13 : decode cX6_canReverse 13 = .ok (.aload_n 0, 1) := by decide +kernel
theorem dX6_canReverse_14 : decode cX6_canReverse 14 = .ok (.getfield 55, 3) := by decide +kernel
theorem dX6_canReverse_17 : decode cX6_canReverse 17 = .ok (.aload_n 0, 1) := by decide +kernel
theorem dX6_canReverse_18 : decode cX6_canReverse 18 = .ok (.getfield 30, 3) := by decide +kernel
theorem dX6_canReverse_21 : decode cX6_canReverse 21 = .ok (.getfield 190, 3) := by decide +kernel
theorem dX6_canReverse_24 : decode cX6_canReverse 24 = .ok (.iload_n 1, 1) := by decide +kernel
theorem dX6_canReverse_25 : decode cX6_canReverse 25 = .ok (.iaload, 1) := by decide +kernel
theorem dX6_canReverse_26 : decode cX6_canReverse 26 = .ok (.isub, 1) := by decide +kernel
theorem dX6_canReverse_27 : decode cX6_canReverse 27 = .ok (.bipush 60, 2) := by decide +kernel
theorem dX6_canReverse_29 : decode cX6_canReverse 29 = .ok (.if_icmp .le 5, 3) := by decide +kernel
theorem dX6_canReverse_32 : decode cX6_canReverse 32 = .ok (.iconst 0, 1) := by decide +kernel
theorem dX6_canReverse_33 : decode cX6_canReverse 33 = .ok (.ireturn, 1) := by decide +kernel
theorem dX6_canReverse_34 : decode cX6_canReverse 34 = .ok (.aload_n 0, 1) := by decide +kernel
theorem dX6_canReverse_35 : decode cX6_canReverse 35 = .ok (.getfield 30, 3) := by decide +kernel
theorem dX6_canReverse_38 : decode cX6_canReverse 38 = .ok (.getfield 207, 3) := by decide +kernel
theorem dX6_canReverse_41 : decode cX6_canReverse 41 = .ok (.iload_n 1, 1) := by decide +kernel
theorem dX6_canReverse_42 : decode cX6_canReverse 42 = .ok (.iaload, 1) := by decide +kernel
theorem dX6_canReverse_43 : decode cX6_canReverse 43 = .ok (.istore_n 2, 1) := by decide +kernel
theorem dX6_canReverse_44 : decode cX6_canReverse 44 = .ok (.aload_n 0, 1) := by decide +kernel
theorem dX6_canReverse_45 : decode cX6_canReverse 45 = .ok (.getfield 30, 3) := by decide +kernel
theorem dX6_canReverse_48 : decode cX6_canReverse 48 = .ok (.getfield 204, 3) := by decide +kernel
theorem dX6_canReverse_51 : decode cX6_canReverse 51 = .ok (.iload_n 1, 1) := by decide +kernel
theorem dX6_canReverse_52 : decode cX6_canReverse 52 = .ok (.iaload, 1) := by decide +kernel
theorem dX6_canReverse_53 : decode cX6_canReverse 53 = .ok (.istore_n 3, 1) := by decide +kernel
theorem dX6_canReverse_54 : decode cX6_canReverse 54 = .ok (.aload_n 0, 1) := by decide +kernel
theorem dX6_canReverse_55 : decode cX6_canReverse 55 = .ok (.getfield 23, 3) := by decide +kernel
theorem dX6_canReverse_58 : decode cX6_canReverse 58 = .ok (.iload_n 2, 1) := by decide +kernel
theorem dX6_canReverse_59 : decode cX6_canReverse 59 = .ok (.invokevirtual 109, 3) := by decide +kernel
theorem dX6_canReverse_62 : decode cX6_canReverse 62 = .ok (.ifCond .eq 39, 3) := by decide +kernel
theorem dX6_canReverse_65 : decode cX6_canReverse 65 = .ok (.iload_n 3, 1) := by decide +kernel
theorem dX6_canReverse_66 : decode cX6_canReverse 66 = .ok (.invokestatic 69, 3) := by decide +kernel
theorem dX6_canReverse_69 : decode cX6_canReverse 69 = .ok (.ifCond .eq 32, 3) := by decide +kernel
theorem dX6_canReverse_72 : decode cX6_canReverse 72 = .ok (.aload_n 0, 1) := by decide +kernel
theorem dX6_canReverse_73 : decode cX6_canReverse 73 = .ok (.getfield 16, 3) := by decide +kernel
theorem dX6_canReverse_76 : decode cX6_canReverse 76 = .ok (.getfield 79, 3) := by decide +kernel
theorem dX6_canReverse_79 : decode cX6_canReverse 79 = .ok (.iload_n 3, 1) := by decide +kernel
theorem dX6_canReverse_80 : decode cX6_canReverse 80 = .ok (.baload, 1) := by decide +kernel
theorem dX6_canReverse_81 : decode cX6_canReverse 81 = .ok (.ifCond .ne 20, 3) := by decide +kernel
theorem dX6_canReverse_84 : decode cX6_canReverse 84 = .ok (.aload_n 0, 1) := by decide +kernel
theorem dX6_canReverse_85 : decode cX6_canReverse 85 = .ok (.getfield 23, 3) := by decide +kernel
theorem dX6_canReverse_88 : decode cX6_canReverse 88 = .ok (.getfield 309, 3) := by decide +kernel
theorem dX6_canReverse_91 : decode cX6_canReverse 91 = .ok (.iload_n 2, 1) := by decide +kernel
theorem dX6_canReverse_92 : decode cX6_canReverse 92 = .ok (.iaload, 1) := by decide +kernel
theorem dX6_canReverse_93 : decode cX6_canReverse 93 = .ok (.iload_n 1, 1) := by decide +kernel
theorem dX6_canReverse_94 : decode cX6_canReverse 94 = .ok (.if_icmp .ne 7, 3) := by decide +kernel
theorem dX6_canReverse_97 : decode cX6_canReverse 97 = .ok (.iconst 1, 1) := by decide +kernel
theorem dX6_canReverse_98 : decode cX6_canReverse 98 = .ok (.goto 4, 3) := by decide +kernel
theorem dX6_canReverse_101 : decode cX6_canReverse 101 = .ok (.iconst 0, 1) := by decide +kernel
theorem dX6_canReverse_102 : decode cX6_canReverse 102 = .ok (.ireturn, 1) := by decide +kernel
theorem dX6_carryOutDueOrders_0 : decode cX6_carryOutDueOrders 0 = .ok (.iconst 0, 1) := by decide +kernel
theorem dX6_carryOutDueOrders_1 : decode cX6_carryOutDueOrders 1 = .ok (.istore_n 1, 1) := by decide +kernel
theorem dX6_carryOutDueOrders_2 : decode cX6_carryOutDueOrders 2 = .ok (.iconst 0, 1) := by decide +kernel
theorem dX6_carryOutDueOrders_3 : decode cX6_carryOutDueOrders 3 = .ok (.istore_n 2, 1) := by decide +kernel
theorem dX6_carryOutDueOrders_4 : decode cX6_carryOutDueOrders 4 = .ok (.iload_n 2, 1) := by decide +kernel
theorem dX6_carryOutDueOrders_5 : decode cX6_carryOutDueOrders 5 = .ok (.aload_n 0, 1) := by decide +kernel
theorem dX6_carryOutDueOrders_6 : decode cX6_carryOutDueOrders 6 = .ok (.getfield 30, 3) := by decide +kernel
theorem dX6_carryOutDueOrders_9 : decode cX6_carryOutDueOrders 9 = .ok (.getfield 172, 3) := by decide +kernel
theorem dX6_carryOutDueOrders_12 : decode cX6_carryOutDueOrders 12 = .ok (.if_icmp .ge 59, 3) := by decide +kernel
theorem dX6_carryOutDueOrders_15 : decode cX6_carryOutDueOrders 15 = .ok (.aload_n 0, 1) := by decide +kernel
theorem dX6_carryOutDueOrders_16 : decode cX6_carryOutDueOrders 16 = .ok (.getfield 30, 3) := by decide +kernel
theorem dX6_carryOutDueOrders_19 : decode cX6_carryOutDueOrders 19 = .ok (.getfield 187, 3) := by decide +kernel
theorem dX6_carryOutDueOrders_22 : decode cX6_carryOutDueOrders 22 = .ok (.iload_n 2, 1) := by decide +kernel
theorem dX6_carryOutDueOrders_23 : decode cX6_carryOutDueOrders 23 = .ok (.iaload, 1) := by decide +kernel
theorem dX6_carryOutDueOrders_24 : decode cX6_carryOutDueOrders 24 = .ok (.iconst 1, 1) := by decide +kernel
theorem dX6_carryOutDueOrders_25 : decode cX6_carryOutDueOrders 25 = .ok (.if_icmp .ne 40, 3) := by decide +kernel
theorem dX6_carryOutDueOrders_28 : decode cX6_carryOutDueOrders 28 = .ok (.aload_n 0, 1) := by decide +kernel
theorem dX6_carryOutDueOrders_29 : decode cX6_carryOutDueOrders 29 = .ok (.getfield 30, 3) := by decide +kernel
theorem dX6_carryOutDueOrders_32 : decode cX6_carryOutDueOrders 32 = .ok (.getfield 190, 3) := by decide +kernel
theorem dX6_carryOutDueOrders_35 : decode cX6_carryOutDueOrders 35 = .ok (.iload_n 2, 1) := by decide +kernel
theorem dX6_carryOutDueOrders_36 : decode cX6_carryOutDueOrders 36 = .ok (.iaload, 1) := by decide +kernel
theorem dX6_carryOutDueOrders_37 : decode cX6_carryOutDueOrders 37 = .ok (.aload_n 0, 1) := by decide +kernel
theorem dX6_carryOutDueOrders_38 : decode cX6_carryOutDueOrders 38 = .ok (.getfield 55, 3) := by decide +kernel
theorem dX6_carryOutDueOrders_41 : decode cX6_carryOutDueOrders 41 = .ok (.if_icmp .ne 24, 3) := by decide +kernel
theorem dX6_carryOutDueOrders_44 : decode cX6_carryOutDueOrders 44 = .ok (.aload_n 0, 1) := by decide +kernel
theorem dX6_carryOutDueOrders_45 : decode cX6_carryOutDueOrders 45 = .ok (.iload_n 2, 1) := by decide +kernel
theorem dX6_carryOutDueOrders_46 : decode cX6_carryOutDueOrders 46 = .ok (.invokevirtual 316, 3) := by decide +kernel
theorem dX6_carryOutDueOrders_49 : decode cX6_carryOutDueOrders 49 = .ok (.aload_n 0, 1) := by decide +kernel
theorem dX6_carryOutDueOrders_50 : decode cX6_carryOutDueOrders 50 = .ok (.getfield 30, 3) := by decide +kernel
theorem dX6_carryOutDueOrders_53 : decode cX6_carryOutDueOrders 53 = .ok (.getfield 187, 3) := by decide +kernel
theorem dX6_carryOutDueOrders_56 : decode cX6_carryOutDueOrders 56 = .ok (.iload_n 2, 1) := by decide +kernel
theorem dX6_carryOutDueOrders_57 : decode cX6_carryOutDueOrders 57 = .ok (.iaload, 1) := by decide +kernel
theorem dX6_carryOutDueOrders_58 : decode cX6_carryOutDueOrders 58 = .ok (.iconst 2, 1) := by decide +kernel
theorem dX6_carryOutDueOrders_59 : decode cX6_carryOutDueOrders 59 = .ok (.if_icmp .ne 6, 3) := by decide +kernel
theorem dX6_carryOutDueOrders_62 : decode cX6_carryOutDueOrders 62 = .ok (.iinc 1 1, 3) := by decide +kernel
theorem dX6_carryOutDueOrders_65 : decode cX6_carryOutDueOrders 65 = .ok (.iinc 2 1, 3) := by decide +kernel
theorem dX6_carryOutDueOrders_68 : decode cX6_carryOutDueOrders 68 = .ok (.goto (-64), 3) := by decide +kernel
theorem dX6_carryOutDueOrders_71 : decode cX6_carryOutDueOrders 71 = .ok (.iload_n 1, 1) := by decide +kernel
theorem dX6_carryOutDueOrders_72 : decode cX6_carryOutDueOrders 72 = .ok (.ireturn, 1) := by decide +kernel
theorem dX6_carryOut_0 : decode cX6_carryOut 0 = .ok (.aload_n 0, 1) := by decide +kernel
theorem dX6_carryOut_1 : decode cX6_carryOut 1 = .ok (.getfield 30, 3) := by decide +kernel
theorem dX6_carryOut_4 : decode cX6_carryOut 4 = .ok (.getfield 207, 3) := by decide +kernel
theorem dX6_carryOut_7 : decode cX6_carryOut 7 = .ok (.iload_n 1, 1) := by decide +kernel
theorem dX6_carryOut_8 : decode cX6_carryOut 8 = .ok (.iaload, 1) := by decide +kernel
theorem dX6_carryOut_9 : decode cX6_carryOut 9 = .ok (.istore_n 2, 1) := by decide +kernel
theorem dX6_carryOut_10 : decode cX6_carryOut 10 = .ok (.aload_n 0, 1) := by decide +kernel
theorem dX6_carryOut_11 : decode cX6_carryOut 11 = .ok (.getfield 30, 3) := by decide +kernel
theorem dX6_carryOut_14 : decode cX6_carryOut 14 = .ok (.getfield 213, 3) := by decide +kernel
theorem dX6_carryOut_17 : decode cX6_carryOut 17 = .ok (.iload_n 1, 1) := by decide +kernel
theorem dX6_carryOut_18 : decode cX6_carryOut 18 = .ok (.iaload, 1) := by decide +kernel
theorem dX6_carryOut_19 : decode cX6_carryOut 19 = .ok (.istore_n 3, 1) := by decide +kernel
theorem dX6_carryOut_20 : decode cX6_carryOut 20 = .ok (.aload_n 0, 1) := by decide +kernel
theorem dX6_carryOut_21 : decode cX6_carryOut 21 = .ok (.getfield 23, 3) := by decide +kernel
theorem dX6_carryOut_24 : decode cX6_carryOut 24 = .ok (.iload_n 2, 1) := by decide +kernel
theorem dX6_carryOut_25 : decode cX6_carryOut 25 = .ok (.aload_n 0, 1) := by decide +kernel
theorem dX6_carryOut_26 : decode cX6_carryOut 26 = .ok (.getfield 55, 3) := by decide +kernel
theorem dX6_carryOut_29 : decode cX6_carryOut 29 = .ok (.invokevirtual 256, 3) := by decide +kernel
theorem dX6_carryOut_32 : decode cX6_carryOut 32 = .ok (.ifCond .eq 14, 3) := by decide +kernel
theorem dX6_carryOut_35 : decode cX6_carryOut 35 = .ok (.aload_n 0, 1) := by decide +kernel
theorem dX6_carryOut_36 : decode cX6_carryOut 36 = .ok (.getfield 30, 3) := by decide +kernel
theorem dX6_carryOut_39 : decode cX6_carryOut 39 = .ok (.iload_n 1, 1) := by decide +kernel
theorem dX6_carryOut_40 : decode cX6_carryOut 40 = .ok (.invokevirtual 319, 3) := by decide +kernel
theorem dX6_carryOut_43 : decode cX6_carryOut 43 = .ok (.goto 88, 3) := by decide +kernel
theorem dX6_carryOut_46 : decode cX6_carryOut 46 = .ok (.aload_n 0, 1) := by decide +kernel
theorem dX6_carryOut_47 : decode cX6_carryOut 47 = .ok (.getfield 23, 3) := by decide +kernel
theorem dX6_carryOut_50 : decode cX6_carryOut 50 = .ok (.getfield 129, 3) := by decide +kernel
theorem dX6_carryOut_53 : decode cX6_carryOut 53 = .ok (.iload_n 2, 1) := by decide +kernel
theorem dX6_carryOut_54 : decode cX6_carryOut 54 = .ok (.iaload, 1) := by decide +kernel
theorem dX6_carryOut_55 : decode cX6_carryOut 55 = .ok (.iload_n 3, 1) := by decide +kernel
theorem dX6_carryOut_56 : decode cX6_carryOut 56 = .ok (.if_icmp .ne 16, 3) := by decide +kernel
theorem dX6_carryOut_59 : decode cX6_carryOut 59 = .ok (.aload_n 0, 1) := by decide +kernel
theorem dX6_carryOut_60 : decode cX6_carryOut 60 = .ok (.getfield 30, 3) := by decide +kernel
theorem dX6_carryOut_63 : decode cX6_carryOut 63 = .ok (.getfield 187, 3) := by decide +kernel
theorem dX6_carryOut_66 : decode cX6_carryOut 66 = .ok (.iload_n 1, 1) := by decide +kernel
theorem dX6_carryOut_67 : decode cX6_carryOut 67 = .ok (.iconst 3, 1) := by decide +kernel
theorem dX6_carryOut_68 : decode cX6_carryOut 68 = .ok (.iastore, 1) := by decide +kernel
theorem dX6_carryOut_69 : decode cX6_carryOut 69 = .ok (.goto 62, 3) := by decide +kernel
theorem dX6_carryOut_72 : decode cX6_carryOut 72 = .ok (.aload_n 0, 1) := by decide +kernel
theorem dX6_carryOut_73 : decode cX6_carryOut 73 = .ok (.getfield 23, 3) := by decide +kernel
theorem dX6_carryOut_76 : decode cX6_carryOut 76 = .ok (.getfield 129, 3) := by decide +kernel
theorem dX6_carryOut_79 : decode cX6_carryOut 79 = .ok (.iload_n 2, 1) := by decide +kernel
theorem dX6_carryOut_80 : decode cX6_carryOut 80 = .ok (.iaload, 1) := by decide +kernel
theorem dX6_carryOut_81 : decode cX6_carryOut 81 = .ok (.istore 4, 2) := by decide +kernel
theorem dX6_carryOut_83 : decode cX6_carryOut 83 = .ok (.aload_n 0, 1) := by decide +kernel
theorem dX6_carryOut_84 : decode cX6_carryOut 84 = .ok (.getfield 30, 3) := by decide +kernel
theorem dX6_carryOut_87 : decode cX6_carryOut 87 = .ok (.getfield 187, 3) := by decide +kernel
theorem dX6_carryOut_90 : decode cX6_carryOut 90 = .ok (.iload_n 1, 1) := by decide +kernel
theorem dX6_carryOut_91 : decode cX6_carryOut 91 = .ok (.iconst 2, 1) := by decide +kernel
theorem dX6_carryOut_92 : decode cX6_carryOut 92 = .ok (.iastore, 1) := by decide +kernel
theorem dX6_carryOut_93 : decode cX6_carryOut 93 = .ok (.aload_n 0, 1) := by decide +kernel
theorem dX6_carryOut_94 : decode cX6_carryOut 94 = .ok (.getfield 30, 3) := by decide +kernel
theorem dX6_carryOut_97 : decode cX6_carryOut 97 = .ok (.getfield 204, 3) := by decide +kernel
theorem dX6_carryOut_100 : decode cX6_carryOut 100 = .ok (.iload_n 1, 1) := by decide +kernel
theorem dX6_carryOut_101 : decode cX6_carryOut 101 = .ok (.iload 4, 2) := by decide +kernel
theorem dX6_carryOut_103 : decode cX6_carryOut 103 = .ok (.iastore, 1) := by decide +kernel
theorem dX6_carryOut_104 : decode cX6_carryOut 104 = .ok (.aload_n 0, 1) := by decide +kernel
theorem dX6_carryOut_105 : decode cX6_carryOut 105 = .ok (.iload_n 2, 1) := by decide +kernel
theorem dX6_carryOut_106 : decode cX6_carryOut 106 = .ok (.iload_n 3, 1) := by decide +kernel
theorem dX6_carryOut_107 : decode cX6_carryOut 107 = .ok (.invokevirtual 210, 3) := by decide +kernel
theorem dX6_carryOut_110 : decode cX6_carryOut 110 = .ok (.aload_n 0, 1) := by decide +kernel
theorem dX6_carryOut_111 : decode cX6_carryOut 111 = .ok (.getfield 23, 3) := by decide +kernel
theorem dX6_carryOut_114 : decode cX6_carryOut 114 = .ok (.getfield 309, 3) := by decide +kernel
theorem dX6_carryOut_117 : decode cX6_carryOut 117 = .ok (.iload_n 2, 1) := by decide +kernel
theorem dX6_carryOut_118 : decode cX6_carryOut 118 = .ok (.iload_n 1, 1) := by decide +kernel
theorem dX6_carryOut_119 : decode cX6_carryOut 119 = .ok (.iastore, 1) := by decide +kernel
theorem dX6_carryOut_120 : decode cX6_carryOut 120 = .ok (.aload_n 0, 1) := by decide +kernel
theorem dX6_carryOut_121 : decode cX6_carryOut 121 = .ok (.getfield 16, 3) := by decide +kernel
theorem dX6_carryOut_124 : decode cX6_carryOut 124 = .ok (.iload_n 3, 1) := by decide +kernel
theorem dX6_carryOut_125 : decode cX6_carryOut 125 = .ok (.iload 4, 2) := by decide +kernel
theorem dX6_carryOut_127 : decode cX6_carryOut 127 = .ok (.iconst 5, 1) := by decide +kernel
theorem dX6_carryOut_128 : decode cX6_carryOut 128 = .ok (.invokevirtual 216, 3) := by decide +kernel
theorem dX6_carryOut_131 : decode cX6_carryOut 131 = .ok (.return_, 1) := by decide +kernel
theorem dX6_moveTo_0 : decode cX6_moveTo 0 = .ok (.aload_n 0, 1) := by decide +kernel
theorem dX6_moveTo_1 : decode cX6_moveTo 1 = .ok (.getfield 23, 3) := by decide +kernel
theorem dX6_moveTo_4 : decode cX6_moveTo 4 = .ok (.getfield 129, 3) := by decide +kernel
theorem dX6_moveTo_7 : decode cX6_moveTo 7 = .ok (.iload_n 1, 1) := by decide +kernel
theorem dX6_moveTo_8 : decode cX6_moveTo 8 = .ok (.iload_n 2, 1) := by decide +kernel
theorem dX6_moveTo_9 : decode cX6_moveTo 9 = .ok (.iastore, 1) := by decide +kernel
theorem dX6_moveTo_10 : decode cX6_moveTo 10 = .ok (.aload_n 0, 1) := by decide +kernel
theorem dX6_moveTo_11 : decode cX6_moveTo 11 = .ok (.getfield 44, 3) := by decide +kernel
theorem dX6_moveTo_14 : decode cX6_moveTo 14 = .ok (.iload_n 1, 1) := by decide +kernel
theorem dX6_moveTo_15 : decode cX6_moveTo 15 = .ok (.iload_n 2, 1) := by decide +kernel
theorem dX6_moveTo_16 : decode cX6_moveTo 16 = .ok (.invokevirtual 122, 3) := by decide +kernel
theorem dX6_moveTo_19 : decode cX6_moveTo 19 = .ok (.aload_n 0, 1) := by decide +kernel
theorem dX6_moveTo_20 : decode cX6_moveTo 20 = .ok (.getfield 37, 3) := by decide +kernel
theorem dX6_moveTo_23 : decode cX6_moveTo 23 = .ok (.aload_n 0, 1) := by decide +kernel
theorem dX6_moveTo_24 : decode cX6_moveTo 24 = .ok (.getfield 55, 3) := by decide +kernel
theorem dX6_moveTo_27 : decode cX6_moveTo 27 = .ok (.iload_n 1, 1) := by decide +kernel
theorem dX6_moveTo_28 : decode cX6_moveTo 28 = .ok (.iload_n 2, 1) := by decide +kernel
theorem dX6_moveTo_29 : decode cX6_moveTo 29 = .ok (.aload_n 0, 1) := by decide +kernel
theorem dX6_moveTo_30 : decode cX6_moveTo 30 = .ok (.iload_n 1, 1) := by decide +kernel
theorem dX6_moveTo_31 : decode cX6_moveTo 31 = .ok (.invokevirtual 106, 3) := by decide +kernel
theorem dX6_moveTo_34 : decode cX6_moveTo 34 = .ok (.if_icmp .ne 8, 3) := by decide +kernel
theorem dX6_moveTo_37 : decode cX6_moveTo 37 = .ok (.bipush 6, 2) := by decide +kernel
theorem dX6_moveTo_39 : decode cX6_moveTo 39 = .ok (.goto 4, 3) := by decide +kernel
theorem dX6_moveTo_42 : decode cX6_moveTo 42 = .ok (.iload_n 2, 1) := by decide +kernel
theorem dX6_moveTo_43 : decode cX6_moveTo 43 = .ok (.invokevirtual 138, 3) := by decide +kernel
theorem dX6_moveTo_46 : decode cX6_moveTo 46 = .ok (.return_, 1) := by decide +kernel
theorem dX6_learnInTime_0 : decode cX6_learnInTime 0 = .ok (.iconst 0, 1) := by decide +kernel
theorem dX6_learnInTime_1 : decode cX6_learnInTime 1 = .ok (.istore_n 1, 1) := by decide +kernel
theorem dX6_learnInTime_2 : decode cX6_learnInTime 2 = .ok (.iload_n 1, 1) := by decide +kernel
theorem dX6_learnInTime_3 : decode cX6_learnInTime 3 = .ok (.bipush 6, 2) := by decide +kernel
theorem dX6_learnInTime_5 : decode cX6_learnInTime 5 = .ok (.if_icmp .ge 43, 3) := by decide +kernel
theorem dX6_learnInTime_8 : decode cX6_learnInTime 8 = .ok (.aload_n 0, 1) := by decide +kernel
theorem dX6_learnInTime_9 : decode cX6_learnInTime 9 = .ok (.getfield 16, 3) := by decide +kernel
theorem dX6_learnInTime_12 : decode cX6_learnInTime 12 = .ok (.getfield 234, 3) := by decide +kernel
theorem dX6_learnInTime_15 : decode cX6_learnInTime 15 = .ok (.iload_n 1, 1) := by decide +kernel
theorem dX6_learnInTime_16 : decode cX6_learnInTime 16 = .ok (.baload, 1) := by decide +kernel
theorem dX6_learnInTime_17 : decode cX6_learnInTime 17 = .ok (.ifCond .ne 25, 3) := by decide +kernel
theorem dX6_learnInTime_20 : decode cX6_learnInTime 20 = .ok (.aload_n 0, 1) := by decide +kernel
theorem dX6_learnInTime_21 : decode cX6_learnInTime 21 = .ok (.getfield 37, 3) := by decide +kernel
theorem dX6_learnInTime_24 : decode cX6_learnInTime 24 = .ok (.iload_n 1, 1) := by decide +kernel
theorem dX6_learnInTime_25 : decode cX6_learnInTime 25 = .ok (.aload_n 0, 1) := by decide +kernel
theorem dX6_learnInTime_26 : decode cX6_learnInTime 26 = .ok (.getfield 55, 3) := by decide +kernel
theorem dX6_learnInTime_29 : decode cX6_learnInTime 29 = .ok (.aload_n 0, 1) := by decide +kernel
theorem dX6_learnInTime_30 : decode cX6_learnInTime 30 = .ok (.getfield 16, 3) := by decide +kernel
theorem dX6_learnInTime_33 : decode cX6_learnInTime 33 = .ok (.getfield 231, 3) := by decide +kernel
theorem dX6_learnInTime_36 : decode cX6_learnInTime 36 = .ok (.iload_n 1, 1) := by decide +kernel
theorem dX6_learnInTime_37 : decode cX6_learnInTime 37 = .ok (.iaload, 1) := by decide +kernel
theorem dX6_learnInTime_38 : decode cX6_learnInTime 38 = .ok (.isub, 1) := by decide +kernel
theorem dX6_learnInTime_39 : decode cX6_learnInTime 39 = .ok (.invokevirtual 322, 3) := by decide +kernel
theorem dX6_learnInTime_42 : decode cX6_learnInTime 42 = .ok (.iinc 1 1, 3) := by decide +kernel
theorem dX6_learnInTime_45 : decode cX6_learnInTime 45 = .ok (.goto (-43), 3) := by decide +kernel
theorem dX6_learnInTime_48 : decode cX6_learnInTime 48 = .ok (.return_, 1) := by decide +kernel
theorem dX6_placeByTable_0 : decode cX6_placeByTable 0 = .ok (.aload_n 0, 1) := by decide +kernel
theorem dX6_placeByTable_1 : decode cX6_placeByTable 1 = .ok (.iload_n 2, 1) := by decide +kernel
theorem dX6_placeByTable_2 : decode cX6_placeByTable 2 = .ok (.invokevirtual 106, 3) := by decide +kernel
theorem dX6_placeByTable_5 : decode cX6_placeByTable 5 = .ok (.istore_n 3, 1) := by decide +kernel
theorem dX6_placeByTable_6 : decode cX6_placeByTable 6 = .ok (.aload_n 0, 1) := by decide +kernel
theorem dX6_placeByTable_7 : decode cX6_placeByTable 7 = .ok (.getfield 37, 3) := by decide +kernel
theorem dX6_placeByTable_10 : decode cX6_placeByTable 10 = .ok (.getfield 325, 3) := by decide +kernel
theorem dX6_placeByTable_13 : decode cX6_placeByTable 13 = .ok (.iload_n 1, 1) := by decide +kernel
theorem dX6_placeByTable_14 : decode cX6_placeByTable 14 = .ok (.aaload, 1) := by decide +kernel
theorem dX6_placeByTable_15 : decode cX6_placeByTable 15 = .ok (.iload_n 2, 1) := by decide +kernel
theorem dX6_placeByTable_16 : decode cX6_placeByTable 16 = .ok (.iaload, 1) := by decide +kernel
theorem dX6_placeByTable_17 : decode cX6_placeByTable 17 = .ok (.istore 4, 2) := by decide +kernel
theorem dX6_placeByTable_19 : decode cX6_placeByTable 19 = .ok (.iload_n 3, 1) := by decide +kernel
theorem dX6_placeByTable_20 : decode cX6_placeByTable 20 = .ok (.iconst (-1), 1) := by decide +kernel
theorem dX6_placeByTable_21 : decode cX6_placeByTable 21 = .ok (.if_icmp .eq 10, 3) := by decide +kernel
theorem dX6_placeByTable_24 : decode cX6_placeByTable 24 = .ok (.iload 4, 2) := by decide +kernel
theorem dX6_placeByTable_26 : decode cX6_placeByTable 26 = .ok (.bipush 6, 2) := by decide +kernel
theorem dX6_placeByTable_28 : decode cX6_placeByTable 28 = .ok (.if_icmp .ne 7, 3) := by decide +kernel
theorem dX6_placeByTable_31 : decode cX6_placeByTable 31 = .ok (.iload_n 3, 1) := by decide +kernel
theorem dX6_placeByTable_32 : decode cX6_placeByTable 32 = .ok (.goto 5, 3) := by decide +kernel
theorem dX6_placeByTable_35 : decode cX6_placeByTable 35 = .ok (.iload 4, 2) := by decide +kernel
theorem dX6_placeByTable_37 : decode cX6_placeByTable 37 = .ok (.ireturn, 1) := by decide +kernel
theorem dX6_traceCall_0 : decode cX6_traceCall 0 = .ok (.aload_n 0, 1) := by decide +kernel
theorem dX6_traceCall_1 : decode cX6_traceCall 1 = .ok (.getfield 51, 3) := by decide +kernel
theorem dX6_traceCall_4 : decode cX6_traceCall 4 = .ok (.iload_n 1, 1) := by decide +kernel
theorem dX6_traceCall_5 : decode cX6_traceCall 5 = .ok (.invokevirtual 329, 3) := by decide +kernel
theorem dX6_traceCall_8 : decode cX6_traceCall 8 = .ok (.aload_n 0, 1) := by decide +kernel
theorem dX6_traceCall_9 : decode cX6_traceCall 9 = .ok (.iload_n 2, 1) := by decide +kernel
theorem dX6_traceCall_10 : decode cX6_traceCall 10 = .ok (.invokevirtual 106, 3) := by decide +kernel
theorem dX6_traceCall_13 : decode cX6_traceCall 13 = .ok (.istore 4, 2) := by decide +kernel
theorem dX6_traceCall_15 : decode cX6_traceCall 15 = .ok (.iload 4, 2) := by decide +kernel
theorem dX6_traceCall_17 : decode cX6_traceCall 17 = .ok (.iconst (-1), 1) := by decide +kernel
theorem dX6_traceCall_18 : decode cX6_traceCall 18 = .ok (.if_icmp .ne 5, 3) := by decide +kernel
theorem dX6_traceCall_21 : decode cX6_traceCall 21 = .ok (.iconst 1, 1) := by decide +kernel
theorem dX6_traceCall_22 : decode cX6_traceCall 22 = .ok (.ireturn, 1) := by decide +kernel
theorem dX6_traceCall_23 : decode cX6_traceCall 23 = .ok (.aload_n 0, 1) := by decide +kernel
theorem dX6_traceCall_24 : decode cX6_traceCall 24 = .ok (.getfield 23, 3) := by decide +kernel
theorem dX6_traceCall_27 : decode cX6_traceCall 27 = .ok (.iload_n 2, 1) := by decide +kernel
theorem dX6_traceCall_28 : decode cX6_traceCall 28 = .ok (.invokevirtual 109, 3) := by decide +kernel
theorem dX6_traceCall_31 : decode cX6_traceCall 31 = .ok (.ifCond .ne 20, 3) := by decide +kernel
theorem dX6_traceCall_34 : decode cX6_traceCall 34 = .ok (.iload 4, 2) := by decide +kernel
theorem dX6_traceCall_36 : decode cX6_traceCall 36 = .ok (.iload_n 1, 1) := by decide +kernel
theorem dX6_traceCall_37 : decode cX6_traceCall 37 = .ok (.if_icmp .eq 12, 3) := by decide +kernel
theorem dX6_traceCall_40 : decode cX6_traceCall 40 = .ok (.aload_n 0, 1) := by decide +kernel
theorem dX6_traceCall_41 : decode cX6_traceCall 41 = .ok (.getfield 51, 3) := by decide +kernel
theorem dX6_traceCall_44 : decode cX6_traceCall 44 = .ok (.iload 4, 2) := by decide +kernel
theorem dX6_traceCall_46 : decode cX6_traceCall 46 = .ok (.invokevirtual 331, 3) := by decide +kernel
theorem dX6_traceCall_49 : decode cX6_traceCall 49 = .ok (.iconst 2, 1) := by decide +kernel
theorem dX6_traceCall_50 : decode cX6_traceCall 50 = .ok (.ireturn, 1) := by decide +kernel
theorem dX6_traceCall_51 : decode cX6_traceCall 51 = .ok (.aload_n 0, 1) := by decide +kernel
theorem dX6_traceCall_52 : decode cX6_traceCall 52 = .ok (.iload_n 2, 1) := by decide +kernel
theorem dX6_traceCall_53 : decode cX6_traceCall 53 = .ok (.iload_n 3, 1) := by decide +kernel
theorem dX6_traceCall_54 : decode cX6_traceCall 54 = .ok (.iload 4, 2) := by decide +kernel
theorem dX6_traceCall_56 : decode cX6_traceCall 56 = .ok (.invokevirtual 333, 3) := by decide +kernel
theorem dX6_traceCall_59 : decode cX6_traceCall 59 = .ok (.ireturn, 1) := by decide +kernel
theorem dX6_followTables_0 : decode cX6_followTables 0 = .ok (.iconst 1, 1) := by decide +kernel
theorem dX6_followTables_1 : decode cX6_followTables 1 = .ok (.istore 4, 2) := by decide +kernel
theorem dX6_followTables_3 : decode cX6_followTables 3 = .ok (.iload 4, 2) := by decide +kernel
theorem dX6_followTables_5 : decode cX6_followTables 5 = .ok (.bipush 6, 2) := by decide +kernel
theorem dX6_followTables_7 : decode cX6_followTables 7 = .ok (.if_icmp .gt 189, 3) := by decide +kernel
theorem dX6_followTables_10 : decode cX6_followTables 10 = .ok (.aload_n 0, 1) := by decide +kernel
theorem dX6_followTables_11 : decode cX6_followTables 11 = .ok (.getfield 51, 3) := by decide +kernel
theorem dX6_followTables_14 : decode cX6_followTables 14 = .ok (.iload 4, 2) := by decide +kernel
theorem dX6_followTables_16 : decode cX6_followTables 16 = .ok (.iconst 1, 1) := by decide +kernel
theorem dX6_followTables_17 : decode cX6_followTables 17 = .ok (.isub, 1) := by decide +kernel
theorem dX6_followTables_18 : decode cX6_followTables 18 = .ok (.invokevirtual 289, 3) := by decide +kernel
theorem dX6_followTables_21 : decode cX6_followTables 21 = .ok (.istore 5, 2) := by decide +kernel
theorem dX6_followTables_23 : decode cX6_followTables 23 = .ok (.iload 5, 2) := by decide +kernel
theorem dX6_followTables_25 : decode cX6_followTables 25 = .ok (.aload_n 0, 1) := by decide +kernel
theorem dX6_followTables_26 : decode cX6_followTables 26 = .ok (.getfield 23, 3) := by decide +kernel
theorem dX6_followTables_29 : decode cX6_followTables 29 = .ok (.getfield 129, 3) := by decide +kernel
theorem dX6_followTables_32 : decode cX6_followTables 32 = .ok (.iload_n 1, 1) := by decide +kernel
theorem dX6_followTables_33 : decode cX6_followTables 33 = .ok (.iaload, 1) := by decide +kernel
theorem dX6_followTables_34 : decode cX6_followTables 34 = .ok (.if_icmp .ne 5, 3) := by decide +kernel
theorem dX6_followTables_37 : decode cX6_followTables 37 = .ok (.iconst 0, 1) := by decide +kernel
theorem dX6_followTables_38 : decode cX6_followTables 38 = .ok (.ireturn, 1) := by decide +kernel
theorem dX6_followTables_39 : decode cX6_followTables 39 = .ok (.iload 5, 2) := by decide +kernel
theorem dX6_followTables_41 : decode cX6_followTables 41 = .ok (.invokestatic 69, 3) := by decide +kernel
theorem dX6_followTables_44 : decode cX6_followTables 44 = .ok (.ifCond .eq 16, 3) := by decide +kernel
theorem dX6_followTables_47 : decode cX6_followTables 47 = .ok (.aload_n 0, 1) := by decide +kernel
theorem dX6_followTables_48 : decode cX6_followTables 48 = .ok (.getfield 16, 3) := by decide +kernel
theorem dX6_followTables_51 : decode cX6_followTables 51 = .ok (.getfield 79, 3) := by decide +kernel
theorem dX6_followTables_54 : decode cX6_followTables 54 = .ok (.iload 5, 2) := by decide +kernel
theorem dX6_followTables_56 : decode cX6_followTables 56 = .ok (.baload, 1) := by decide +kernel
theorem dX6_followTables_57 : decode cX6_followTables 57 = .ok (.ifCond .eq 5, 3) := by decide +kernel
theorem dX6_followTables_60 : decode cX6_followTables 60 = .ok (.iconst 4, 1) := by decide +kernel
theorem dX6_followTables_61 : decode cX6_followTables 61 = .ok (.ireturn, 1) := by decide +kernel
theorem dX6_followTables_62 : decode cX6_followTables 62 = .ok (.iload_n 2, 1) := by decide +kernel
theorem dX6_followTables_63 : decode cX6_followTables 63 = .ok (.iconst 2, 1) := by decide +kernel
theorem dX6_followTables_64 : decode cX6_followTables 64 = .ok (.if_icmp .ne 19, 3) := by decide +kernel
theorem dX6_followTables_67 : decode cX6_followTables 67 = .ok (.iload 4, 2) := by decide +kernel
theorem dX6_followTables_69 : decode cX6_followTables 69 = .ok (.iconst 2, 1) := by decide +kernel
theorem dX6_followTables_70 : decode cX6_followTables 70 = .ok (.if_icmp .ne 13, 3) := by decide +kernel
theorem dX6_followTables_73 : decode cX6_followTables 73 = .ok (.iload 5, 2) := by decide +kernel
theorem dX6_followTables_75 : decode cX6_followTables 75 = .ok (.iload_n 3, 1) := by decide +kernel
theorem dX6_followTables_76 : decode cX6_followTables 76 = .ok (.if_icmp .ne 7, 3) := by decide +kernel
theorem dX6_followTables_79 : decode cX6_followTables 79 = .ok (.iconst 1, 1) := by decide +kernel
theorem dX6_followTables_80 : decode cX6_followTables 80 = .ok (.goto 4, 3) := by decide +kernel
theorem dX6_followTables_83 : decode cX6_followTables 83 = .ok (.iconst 0, 1) := by decide +kernel
theorem dX6_followTables_84 : decode cX6_followTables 84 = .ok (.istore 6, 2) := by decide +kernel
theorem dX6_followTables_86 : decode cX6_followTables 86 = .ok (.iload 6, 2) := by decide +kernel
theorem dX6_followTables_88 : decode cX6_followTables 88 = .ok (.ifCond .eq 14, 3) := by decide +kernel
theorem dX6_followTables_91 : decode cX6_followTables 91 = .ok (.aload_n 0, 1) := by decide +kernel
theorem dX6_followTables_92 : decode cX6_followTables 92 = .ok (.getfield 51, 3) := by decide +kernel
theorem dX6_followTables_95 : decode cX6_followTables 95 = .ok (.iconst 0, 1) := by decide +kernel
theorem dX6_followTables_96 : decode cX6_followTables 96 = .ok (.invokevirtual 289, 3) := by decide +kernel
theorem dX6_followTables_99 : decode cX6_followTables 99 = .ok (.goto 5, 3) := by decide +kernel
theorem dX6_followTables_102 : decode cX6_followTables 102 = .ok (.iload 5, 2) := by decide +kernel
theorem dX6_followTables_104 : decode cX6_followTables 104 = .ok (.istore 7, 2) := by decide +kernel
theorem dX6_followTables_106 : decode cX6_followTables 106 = .ok (.iload_n 2, 1) := by decide +kernel
theorem dX6_followTables_107 : decode cX6_followTables 107 = .ok (.ifCond .eq 19, 3) := by decide +kernel
theorem dX6_followTables_110 : decode cX6_followTables 110 = .ok (.iload 4, 2) := by decide +kernel
theorem dX6_followTables_112 : decode cX6_followTables 112 = .ok (.iconst 1, 1) := by decide +kernel
theorem dX6_followTables_113 : decode cX6_followTables 113 = .ok (.if_icmp .ne 13, 3) := by decide +kernel
theorem dX6_followTables_116 : decode cX6_followTables 116 = .ok (.iload 5, 2) := by decide +kernel
theorem dX6_followTables_118 : decode cX6_followTables 118 = .ok (.iload_n 3, 1) := by decide +kernel
theorem dX6_followTables_119 : decode cX6_followTables 119 = .ok (.if_icmp .eq 7, 3) := by decide +kernel
theorem dX6_followTables_122 : decode cX6_followTables 122 = .ok (.iconst 1, 1) := by decide +kernel
theorem dX6_followTables_123 : decode cX6_followTables 123 = .ok (.goto 4, 3) := by decide +kernel
theorem dX6_followTables_126 : decode cX6_followTables 126 = .ok (.iconst 0, 1) := by decide +kernel
theorem dX6_followTables_127 : decode cX6_followTables 127 = .ok (.istore 8, 2) := by decide +kernel
theorem dX6_followTables_129 : decode cX6_followTables 129 = .ok (.iload 8, 2) := by decide +kernel
theorem dX6_followTables_131 : decode cX6_followTables 131 = .ok (.ifCond .eq 7, 3) := by decide +kernel
theorem dX6_followTables_134 : decode cX6_followTables 134 = .ok (.iload_n 3, 1) := by decide +kernel
theorem dX6_followTables_135 : decode cX6_followTables 135 = .ok (.goto 10, 3) := by decide +kernel
theorem dX6_followTables_138 : decode cX6_followTables 138 = .ok (.aload_n 0, 1) := by decide +kernel
theorem dX6_followTables_139 : decode cX6_followTables 139 = .ok (.iload 7, 2) := by decide +kernel
theorem dX6_followTables_141 : decode cX6_followTables 141 = .ok (.iload_n 1, 1) := by decide +kernel
theorem dX6_followTables_142 : decode cX6_followTables 142 = .ok (.invokevirtual 277, 3) := by decide +kernel
theorem dX6_followTables_145 : decode cX6_followTables 145 = .ok (.istore 9, 2) := by decide +kernel
theorem dX6_followTables_147 : decode cX6_followTables 147 = .ok (.iload 9, 2) := by decide +kernel
theorem dX6_followTables_149 : decode cX6_followTables 149 = .ok (.iload 5, 2) := by decide +kernel
theorem dX6_followTables_151 : decode cX6_followTables 151 = .ok (.if_icmp .eq 10, 3) := by decide +kernel
theorem dX6_followTables_154 : decode cX6_followTables 154 = .ok (.iload 9, 2) := by decide +kernel
theorem dX6_followTables_156 : decode cX6_followTables 156 = .ok (.iload 7, 2) := by decide +kernel
theorem dX6_followTables_158 : decode cX6_followTables 158 = .ok (.if_icmp .ne 5, 3) := by decide +kernel
theorem dX6_followTables_161 : decode cX6_followTables 161 = .ok (.iconst 4, 1) := by decide +kernel
theorem dX6_followTables_162 : decode cX6_followTables 162 = .ok (.ireturn, 1) := by decide +kernel
theorem dX6_followTables_163 : decode cX6_followTables 163 = .ok (.aload_n 0, 1) := by decide +kernel
theorem dX6_followTables_164 : decode cX6_followTables 164 = .ok (.getfield 51, 3) := by decide +kernel
theorem dX6_followTables_167 : decode cX6_followTables 167 = .ok (.iload 9, 2) := by decide +kernel
theorem dX6_followTables_169 : decode cX6_followTables 169 = .ok (.invokevirtual 336, 3) := by decide +kernel
theorem dX6_followTables_172 : decode cX6_followTables 172 = .ok (.istore 10, 2) := by decide +kernel
theorem dX6_followTables_174 : decode cX6_followTables 174 = .ok (.aload_n 0, 1) := by decide +kernel
theorem dX6_followTables_175 : decode cX6_followTables 175 = .ok (.getfield 51, 3) := by decide +kernel
theorem dX6_followTables_178 : decode cX6_followTables 178 = .ok (.iload 9, 2) := by decide +kernel
theorem dX6_followTables_180 : decode cX6_followTables 180 = .ok (.invokevirtual 331, 3) := by decide +kernel
theorem dX6_followTables_183 : decode cX6_followTables 183 = .ok (.iload 10, 2) := by decide +kernel
theorem dX6_followTables_185 : decode cX6_followTables 185 = .ok (.ifCond .eq 5, 3) := by decide +kernel
theorem dX6_followTables_188 : decode cX6_followTables 188 = .ok (.iconst 3, 1) := by decide +kernel
theorem dX6_followTables_189 : decode cX6_followTables 189 = .ok (.ireturn, 1) := by decide +kernel
theorem dX6_followTables_190 : decode cX6_followTables 190 = .ok (.iinc 4 1, 3) := by decide +kernel
theorem dX6_followTables_193 : decode cX6_followTables 193 = .ok (.goto (-190), 3) := by decide +kernel
theorem dX6_followTables_196 : decode cX6_followTables 196 = .ok (.iconst 3, 1) := by decide +kernel
theorem dX6_followTables_197 : decode cX6_followTables 197 = .ok (.ireturn, 1) := by decide +kernel
theorem dX6_payForCall_0 : decode cX6_payForCall 0 = .ok (.aload_n 0, 1) := by decide +kernel
theorem dX6_payForCall_1 : decode cX6_payForCall 1 = .ok (.getfield 51, 3) := by decide +kernel
theorem dX6_payForCall_4 : decode cX6_payForCall 4 = .ok (.iconst 0, 1) := by decide +kernel
theorem dX6_payForCall_5 : decode cX6_payForCall 5 = .ok (.invokevirtual 289, 3) := by decide +kernel
theorem dX6_payForCall_8 : decode cX6_payForCall 8 = .ok (.istore_n 1, 1) := by decide +kernel
theorem dX6_payForCall_9 : decode cX6_payForCall 9 = .ok (.aload_n 0, 1) := by decide +kernel
theorem dX6_payForCall_10 : decode cX6_payForCall 10 = .ok (.getfield 51, 3) := by decide +kernel
theorem dX6_payForCall_13 : decode cX6_payForCall 13 = .ok (.getfield 339, 3) := by decide +kernel
theorem dX6_payForCall_16 : decode cX6_payForCall 16 = .ok (.iconst 1, 1) := by decide +kernel
theorem dX6_payForCall_17 : decode cX6_payForCall 17 = .ok (.isub, 1) := by decide +kernel
theorem dX6_payForCall_18 : decode cX6_payForCall 18 = .ok (.istore_n 2, 1) := by decide +kernel
theorem dX6_payForCall_19 : decode cX6_payForCall 19 = .ok (.iload_n 2, 1) := by decide +kernel
theorem dX6_payForCall_20 : decode cX6_payForCall 20 = .ok (.iconst 1, 1) := by decide +kernel
theorem dX6_payForCall_21 : decode cX6_payForCall 21 = .ok (.if_icmp .ge 4, 3) := by decide +kernel
theorem dX6_payForCall_24 : decode cX6_payForCall 24 = .ok (.return_, 1) := by decide +kernel
theorem dX6_payForCall_25 : decode cX6_payForCall 25 = .ok (.aload_n 0, 1) := by decide +kernel
theorem dX6_payForCall_26 : decode cX6_payForCall 26 = .ok (.getfield 16, 3) := by decide +kernel
theorem dX6_payForCall_29 : decode cX6_payForCall 29 = .ok (.iload_n 1, 1) := by decide +kernel
theorem dX6_payForCall_30 : decode cX6_payForCall 30 = .ok (.aload_n 0, 1) := by decide +kernel
theorem dX6_payForCall_31 : decode cX6_payForCall 31 = .ok (.getfield 51, 3) := by decide +kernel
theorem dX6_payForCall_34 : decode cX6_payForCall 34 = .ok (.iload_n 2, 1) := by decide +kernel
theorem dX6_payForCall_35 : decode cX6_payForCall 35 = .ok (.invokevirtual 289, 3) := by decide +kernel
theorem dX6_payForCall_38 : decode cX6_payForCall 38 = .ok (.iconst 3, 1) := by decide +kernel
theorem dX6_payForCall_39 : decode cX6_payForCall 39 = .ok (.invokevirtual 216, 3) := by decide +kernel
theorem dX6_payForCall_42 : decode cX6_payForCall 42 = .ok (.iconst 1, 1) := by decide +kernel
theorem dX6_payForCall_43 : decode cX6_payForCall 43 = .ok (.istore_n 3, 1) := by decide +kernel
theorem dX6_payForCall_44 : decode cX6_payForCall 44 = .ok (.iload_n 3, 1) := by decide +kernel
theorem dX6_payForCall_45 : decode cX6_payForCall 45 = .ok (.iload_n 2, 1) := by decide +kernel
theorem dX6_payForCall_46 : decode cX6_payForCall 46 = .ok (.if_icmp .ge 26, 3) := by decide +kernel
theorem dX6_payForCall_49 : decode cX6_payForCall 49 = .ok (.aload_n 0, 1) := by decide +kernel
theorem dX6_payForCall_50 : decode cX6_payForCall 50 = .ok (.getfield 16, 3) := by decide +kernel
theorem dX6_payForCall_53 : decode cX6_payForCall 53 = .ok (.iload_n 1, 1) := by decide +kernel
theorem dX6_payForCall_54 : decode cX6_payForCall 54 = .ok (.aload_n 0, 1) := by decide +kernel
theorem dX6_payForCall_55 : decode cX6_payForCall 55 = .ok (.getfield 51, 3) := by decide +kernel
theorem dX6_payForCall_58 : decode cX6_payForCall 58 = .ok (.iload_n 3, 1) := by decide +kernel
theorem dX6_payForCall_59 : decode cX6_payForCall 59 = .ok (.invokevirtual 289, 3) := by decide +kernel
theorem dX6_payForCall_62 : decode cX6_payForCall 62 = .ok (.iconst 1, 1) := by decide +kernel
theorem dX6_payForCall_63 : decode cX6_payForCall 63 = .ok (.invokevirtual 216, 3) := by decide +kernel
theorem dX6_payForCall_66 : decode cX6_payForCall 66 = .ok (.iinc 3 1, 3) := by decide +kernel
theorem dX6_payForCall_69 : decode cX6_payForCall 69 = .ok (.goto (-25), 3) := by decide +kernel
theorem dX6_payForCall_72 : decode cX6_payForCall 72 = .ok (.return_, 1) := by decide +kernel
theorem dJ7_fill_53178_0 : decode cJ7_fill_53178 0 = .ok (.iconst 0, 1) := by decide +kernel
theorem dJ7_fill_53178_1 : decode cJ7_fill_53178 1 = .ok (.istore_n 2, 1) := by decide +kernel
theorem dJ7_fill_53178_2 : decode cJ7_fill_53178 2 = .ok (.aload_n 0, 1) := by decide +kernel
theorem dJ7_fill_53178_3 : decode cJ7_fill_53178 3 = .ok (.arraylength, 1) := by decide +kernel
theorem dJ7_fill_53178_4 : decode cJ7_fill_53178 4 = .ok (.istore_n 3, 1) := by decide +kernel
theorem dJ7_fill_53178_5 : decode cJ7_fill_53178 5 = .ok (.iload_n 2, 1) := by decide +kernel
theorem dJ7_fill_53178_6 : decode cJ7_fill_53178 6 = .ok (.iload_n 3, 1) := by decide +kernel
theorem dJ7_fill_53178_7 : decode cJ7_fill_53178 7 = .ok (.if_icmp .ge 13, 3) := by decide +kernel
theorem dJ7_fill_53178_10 : decode cJ7_fill_53178 10 = .ok (.aload_n 0, 1) := by decide +kernel
theorem dJ7_fill_53178_11 : decode cJ7_fill_53178 11 = .ok (.iload_n 2, 1) := by decide +kernel
theorem dJ7_fill_53178_12 : decode cJ7_fill_53178 12 = .ok (.iload_n 1, 1) := by decide +kernel
theorem dJ7_fill_53178_13 : decode cJ7_fill_53178 13 = .ok (.iastore, 1) := by decide +kernel
theorem dJ7_fill_53178_14 : decode cJ7_fill_53178 14 = .ok (.iinc 2 1, 3) := by decide +kernel
theorem dJ7_fill_53178_17 : decode cJ7_fill_53178 17 = .ok (.goto (-12), 3) := by decide +kernel
theorem dJ7_fill_53178_20 : decode cJ7_fill_53178 20 = .ok (.return_, 1) := by decide +kernel
