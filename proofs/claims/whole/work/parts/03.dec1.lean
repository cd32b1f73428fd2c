theorem dX0_init_0 : decode cX0_init 0 = .ok (.aload_n 0, 1) := by decide +kernel
theorem dX0_init_1 : decode cX0_init 1 = .ok (.invokespecial 3, 3) := by decide +kernel
theorem dX0_init_4 : decode cX0_init 4 = .ok (.aload_n 0, 1) := by decide +kernel
theorem dX0_init_5 : decode cX0_init 5 = .ok (.new 9, 3) := by decide +kernel
theorem dX0_init_8 : decode cX0_init 8 = .ok (.dup, 1) := by decide +kernel
theorem dX0_init_9 : decode cX0_init 9 = .ok (.bipush 64, 2) := by decide +kernel
theorem dX0_init_11 : decode cX0_init 11 = .ok (.invokespecial 11, 3) := by decide +kernel
theorem dX0_init_14 : decode cX0_init 14 = .ok (.putfield 14, 3) := by decide +kernel
theorem dX0_init_17 : decode cX0_init 17 = .ok (.aload_n 0, 1) := by decide +kernel
theorem dX0_init_18 : decode cX0_init 18 = .ok (.new 9, 3) := by decide +kernel
theorem dX0_init_21 : decode cX0_init 21 = .ok (.dup, 1) := by decide +kernel
theorem dX0_init_22 : decode cX0_init 22 = .ok (.bipush 64, 2) := by decide +kernel
theorem dX0_init_24 : decode cX0_init 24 = .ok (.invokespecial 11, 3) := by decide +kernel
theorem dX0_init_27 : decode cX0_init 27 = .ok (.putfield 20, 3) := by decide +kernel
theorem dX0_init_30 : decode cX0_init 30 = .ok (.aload_n 0, 1) := by decide +kernel
theorem dX0_init_31 : decode cX0_init 31 = .ok (.new 9, 3) := by decide +kernel
theorem dX0_init_34 : decode cX0_init 34 = .ok (.dup, 1) := by decide +kernel
theorem dX0_init_35 : decode cX0_init 35 = .ok (.bipush 64, 2) := by decide +kernel
theorem dX0_init_37 : decode cX0_init 37 = .ok (.invokespecial 11, 3) := by decide +kernel
theorem dX0_init_40 : decode cX0_init 40 = .ok (.putfield 23, 3) := by decide +kernel
theorem dX0_init_43 : decode cX0_init 43 = .ok (.aload_n 0, 1) := by decide +kernel
theorem dX0_init_44 : decode cX0_init 44 = .ok (.new 9, 3) := by decide +kernel
theorem dX0_init_47 : decode cX0_init 47 = .ok (.dup, 1) := by decide +kernel
theorem dX0_init_48 : decode cX0_init 48 = .ok (.iconst 2, 1) := by decide +kernel
theorem dX0_init_49 : decode cX0_init 49 = .ok (.invokespecial 11, 3) := by decide +kernel
theorem dX0_init_52 : decode cX0_init 52 = .ok (.putfield 26, 3) := by decide +kernel
theorem dX0_init_55 : decode cX0_init 55 = .ok (.aload_n 0, 1) := by decide +kernel
theorem dX0_init_56 : decode cX0_init 56 = .ok (.new 9, 3) := by decide +kernel
theorem dX0_init_59 : decode cX0_init 59 = .ok (.dup, 1) := by decide +kernel
theorem dX0_init_60 : decode cX0_init 60 = .ok (.bipush 64, 2) := by decide +kernel
theorem dX0_init_62 : decode cX0_init 62 = .ok (.invokespecial 11, 3) := by decide +kernel
theorem dX0_init_65 : decode cX0_init 65 = .ok (.putfield 29, 3) := by decide +kernel
theorem dX0_init_68 : decode cX0_init 68 = .ok (.aload_n 0, 1) := by decide +kernel
theorem dX0_init_69 : decode cX0_init 69 = .ok (.new 9, 3) := by decide +kernel
theorem dX0_init_72 : decode cX0_init 72 = .ok (.dup, 1) := by decide +kernel
theorem dX0_init_73 : decode cX0_init 73 = .ok (.bipush 64, 2) := by decide +kernel
theorem dX0_init_75 : decode cX0_init 75 = .ok (.invokespecial 11, 3) := by decide +kernel
theorem dX0_init_78 : decode cX0_init 78 = .ok (.putfield 32, 3) := by decide +kernel
theorem dX0_init_81 : decode cX0_init 81 = .ok (.aload_n 0, 1) := by decide +kernel
theorem dX0_init_82 : decode cX0_init 82 = .ok (.new 9, 3) := by decide +kernel
theorem dX0_init_85 : decode cX0_init 85 = .ok (.dup, 1) := by decide +kernel
theorem dX0_init_86 : decode cX0_init 86 = .ok (.bipush 64, 2) := by decide +kernel
theorem dX0_init_88 : decode cX0_init 88 = .ok (.invokespecial 11, 3) := by decide +kernel
theorem dX0_init_91 : decode cX0_init 91 = .ok (.putfield 35, 3) := by decide +kernel
theorem dX0_init_94 : decode cX0_init 94 = .ok (.aload_n 0, 1) := by decide +kernel
theorem dX0_init_95 : decode cX0_init 95 = .ok (.new 9, 3) := by decide +kernel
theorem dX0_init_98 : decode cX0_init 98 = .ok (.dup, 1) := by decide +kernel
theorem dX0_init_99 : decode cX0_init 99 = .ok (.bipush 64, 2) := by decide +kernel
theorem dX0_init_101 : decode cX0_init 101 = .ok (.invokespecial 11, 3) := by decide +kernel
theorem dX0_init_104 : decode cX0_init 104 = .ok (.putfield 38, 3) := by decide +kernel
theorem dX0_init_107 : decode cX0_init 107 = .ok (.aload_n 0, 1) := by decide +kernel
theorem dX0_init_108 : decode cX0_init 108 = .ok (.aload_n 1, 1) := by decide +kernel
theorem dX0_init_109 : decode cX0_init 109 = .ok (.putfield 41, 3) := by decide +kernel
theorem dX0_init_112 : decode cX0_init 112 = .ok (.return_, 1) := by decide +kernel
theorem dX0_evaluated_0 : decode cX0_evaluated 0 = .ok (.iconst 0, 1) := by decide +kernel
theorem dX0_evaluated_1 : decode cX0_evaluated 1 = .ok (.istore_n 3, 1) := by decide +kernel
theorem dX0_evaluated_2 : decode cX0_evaluated 2 = .ok (.aload_n 1, 1) := by decide +kernel
theorem dX0_evaluated_3 : decode cX0_evaluated 3 = .ok (.invokevirtual 45, 3) := by decide +kernel
theorem dX0_evaluated_6 : decode cX0_evaluated 6 = .ok (.iconst 1, 1) := by decide +kernel
theorem dX0_evaluated_7 : decode cX0_evaluated 7 = .ok (.isub, 1) := by decide +kernel
theorem dX0_evaluated_8 : decode cX0_evaluated 8 = .ok (.istore 4, 2) := by decide +kernel
theorem dX0_evaluated_10 : decode cX0_evaluated 10 = .ok (.iload 4, 2) := by decide +kernel
theorem dX0_evaluated_12 : decode cX0_evaluated 12 = .ok (.ifCond .lt 30, 3) := by decide +kernel
theorem dX0_evaluated_15 : decode cX0_evaluated 15 = .ok (.aload_n 0, 1) := by decide +kernel
theorem dX0_evaluated_16 : decode cX0_evaluated 16 = .ok (.getfield 41, 3) := by decide +kernel
theorem dX0_evaluated_19 : decode cX0_evaluated 19 = .ok (.iload_n 3, 1) := by decide +kernel
theorem dX0_evaluated_20 : decode cX0_evaluated 20 = .ok (.i2l, 1) := by decide +kernel
theorem dX0_evaluated_21 : decode cX0_evaluated 21 = .ok (.iload_n 2, 1) := by decide +kernel
theorem dX0_evaluated_22 : decode cX0_evaluated 22 = .ok (.i2l, 1) := by decide +kernel
theorem dX0_evaluated_23 : decode cX0_evaluated 23 = .ok (.lmul, 1) := by decide +kernel
theorem dX0_evaluated_24 : decode cX0_evaluated 24 = .ok (.aload_n 1, 1) := by decide +kernel
theorem dX0_evaluated_25 : decode cX0_evaluated 25 = .ok (.iload 4, 2) := by decide +kernel
theorem dX0_evaluated_27 : decode cX0_evaluated 27 = .ok (.invokevirtual 49, 3) := by decide +kernel
theorem dX0_evaluated_30 : decode cX0_evaluated 30 = .ok (.i2l, 1) := by decide +kernel
theorem dX0_evaluated_31 : decode cX0_evaluated 31 = .ok (.ladd, 1) := by decide +kernel
theorem dX0_evaluated_32 : decode cX0_evaluated 32 = .ok (.invokevirtual 53, 3) := by decide +kernel
theorem dX0_evaluated_35 : decode cX0_evaluated 35 = .ok (.istore_n 3, 1) := by decide +kernel
theorem dX0_evaluated_36 : decode cX0_evaluated 36 = .ok (.iinc 4 (-1), 3) := by decide +kernel
theorem dX0_evaluated_39 : decode cX0_evaluated 39 = .ok (.goto (-29), 3) := by decide +kernel
theorem dX0_evaluated_42 : decode cX0_evaluated 42 = .ok (.iload_n 3, 1) := by decide +kernel
theorem dX0_evaluated_43 : decode cX0_evaluated 43 = .ok (.ireturn, 1) := by decide +kernel
theorem dX0_addMultiple_0 : decode cX0_addMultiple 0 = .ok (.iconst 0, 1) := by decide +kernel
theorem dX0_addMultiple_1 : decode cX0_addMultiple 1 = .ok (.istore 5, 2) := by decide +kernel
theorem dX0_addMultiple_3 : decode cX0_addMultiple 3 = .ok (.iload 5, 2) := by decide +kernel
theorem dX0_addMultiple_5 : decode cX0_addMultiple 5 = .ok (.aload_n 3, 1) := by decide +kernel
theorem dX0_addMultiple_6 : decode cX0_addMultiple 6 = .ok (.invokevirtual 45, 3) := by decide +kernel
theorem dX0_addMultiple_9 : decode cX0_addMultiple 9 = .ok (.if_icmp .ge 46, 3) := by decide +kernel
theorem dX0_addMultiple_12 : decode cX0_addMultiple 12 = .ok (.aload_n 1, 1) := by decide +kernel
theorem dX0_addMultiple_13 : decode cX0_addMultiple 13 = .ok (.iload 5, 2) := by decide +kernel
theorem dX0_addMultiple_15 : decode cX0_addMultiple 15 = .ok (.iload 4, 2) := by decide +kernel
theorem dX0_addMultiple_17 : decode cX0_addMultiple 17 = .ok (.iadd, 1) := by decide +kernel
theorem dX0_addMultiple_18 : decode cX0_addMultiple 18 = .ok (.aload_n 0, 1) := by decide +kernel
theorem dX0_addMultiple_19 : decode cX0_addMultiple 19 = .ok (.getfield 41, 3) := by decide +kernel
theorem dX0_addMultiple_22 : decode cX0_addMultiple 22 = .ok (.aload_n 1, 1) := by decide +kernel
theorem dX0_addMultiple_23 : decode cX0_addMultiple 23 = .ok (.iload 5, 2) := by decide +kernel
theorem dX0_addMultiple_25 : decode cX0_addMultiple 25 = .ok (.iload 4, 2) := by decide +kernel
theorem dX0_addMultiple_27 : decode cX0_addMultiple 27 = .ok (.iadd, 1) := by decide +kernel
theorem dX0_addMultiple_28 : decode cX0_addMultiple 28 = .ok (.invokevirtual 49, 3) := by decide +kernel
theorem dX0_addMultiple_31 : decode cX0_addMultiple 31 = .ok (.i2l, 1) := by decide +kernel
theorem dX0_addMultiple_32 : decode cX0_addMultiple 32 = .ok (.iload_n 2, 1) := by decide +kernel
theorem dX0_addMultiple_33 : decode cX0_addMultiple 33 = .ok (.i2l, 1) := by decide +kernel
theorem dX0_addMultiple_34 : decode cX0_addMultiple 34 = .ok (.aload_n 3, 1) := by decide +kernel
theorem dX0_addMultiple_35 : decode cX0_addMultiple 35 = .ok (.iload 5, 2) := by decide +kernel
theorem dX0_addMultiple_37 : decode cX0_addMultiple 37 = .ok (.invokevirtual 49, 3) := by decide +kernel
theorem dX0_addMultiple_40 : decode cX0_addMultiple 40 = .ok (.i2l, 1) := by decide +kernel
theorem dX0_addMultiple_41 : decode cX0_addMultiple 41 = .ok (.lmul, 1) := by decide +kernel
theorem dX0_addMultiple_42 : decode cX0_addMultiple 42 = .ok (.ladd, 1) := by decide +kernel
theorem dX0_addMultiple_43 : decode cX0_addMultiple 43 = .ok (.invokevirtual 53, 3) := by decide +kernel
theorem dX0_addMultiple_46 : decode cX0_addMultiple 46 = .ok (.invokevirtual 59, 3) := by decide +kernel
theorem dX0_addMultiple_49 : decode cX0_addMultiple 49 = .ok (.iinc 5 1, 3) := by decide +kernel
theorem dX0_addMultiple_52 : decode cX0_addMultiple 52 = .ok (.goto (-49), 3) := by decide +kernel
theorem dX0_addMultiple_55 : decode cX0_addMultiple 55 = .ok (.return_, 1) := by decide +kernel
theorem dX0_multiplied_0 : decode cX0_multiplied 0 = .ok (.aload_n 0, 1) := by decide +kernel
theorem dX0_multiplied_1 : decode cX0_multiplied 1 = .ok (.getfield 14, 3) := by decide +kernel
theorem dX0_multiplied_4 : decode cX0_multiplied 4 = .ok (.invokevirtual 63, 3) := by decide +kernel
theorem dX0_multiplied_7 : decode cX0_multiplied 7 = .ok (.iconst 0, 1) := by decide +kernel
theorem dX0_multiplied_8 : decode cX0_multiplied 8 = .ok (.istore_n 3, 1) := by decide +kernel
theorem dX0_multiplied_9 : decode cX0_multiplied 9 = .ok (.iload_n 3, 1) := by decide +kernel
theorem dX0_multiplied_10 : decode cX0_multiplied 10 = .ok (.aload_n 1, 1) := by decide +kernel
theorem dX0_multiplied_11 : decode cX0_multiplied 11 = .ok (.invokevirtual 45, 3) := by decide +kernel
theorem dX0_multiplied_14 : decode cX0_multiplied 14 = .ok (.aload_n 2, 1) := by decide +kernel
theorem dX0_multiplied_15 : decode cX0_multiplied 15 = .ok (.invokevirtual 45, 3) := by decide +kernel
theorem dX0_multiplied_18 : decode cX0_multiplied 18 = .ok (.iadd, 1) := by decide +kernel
theorem dX0_multiplied_19 : decode cX0_multiplied 19 = .ok (.iconst 1, 1) := by decide +kernel
theorem dX0_multiplied_20 : decode cX0_multiplied 20 = .ok (.isub, 1) := by decide +kernel
theorem dX0_multiplied_21 : decode cX0_multiplied 21 = .ok (.if_icmp .ge 30, 3) := by decide +kernel
theorem dX0_multiplied_24 : decode cX0_multiplied 24 = .ok (.aload_n 0, 1) := by decide +kernel
theorem dX0_multiplied_25 : decode cX0_multiplied 25 = .ok (.getfield 14, 3) := by decide +kernel
theorem dX0_multiplied_28 : decode cX0_multiplied 28 = .ok (.iload_n 3, 1) := by decide +kernel
theorem dX0_multiplied_29 : decode cX0_multiplied 29 = .ok (.aload_n 0, 1) := by decide +kernel
theorem dX0_multiplied_30 : decode cX0_multiplied 30 = .ok (.getfield 41, 3) := by decide +kernel
theorem dX0_multiplied_33 : decode cX0_multiplied 33 = .ok (.aload_n 1, 1) := by decide +kernel
theorem dX0_multiplied_34 : decode cX0_multiplied 34 = .ok (.aload_n 2, 1) := by decide +kernel
theorem dX0_multiplied_35 : decode cX0_multiplied 35 = .ok (.iload_n 3, 1) := by decide +kernel
theorem dX0_multiplied_36 : decode cX0_multiplied 36 = .ok (.invokestatic 66, 3) := by decide +kernel
theorem dX0_multiplied_39 : decode cX0_multiplied 39 = .ok (.invokevirtual 53, 3) := by decide +kernel
theorem dX0_multiplied_42 : decode cX0_multiplied 42 = .ok (.invokevirtual 59, 3) := by decide +kernel
theorem dX0_multiplied_45 : decode cX0_multiplied 45 = .ok (.iinc 3 1, 3) := by decide +kernel
theorem dX0_multiplied_48 : decode cX0_multiplied 48 = .ok (.goto (-39), 3) := by decide +kernel
theorem dX0_multiplied_51 : decode cX0_multiplied 51 = .ok (.aload_n 0, 1) := by decide +kernel
theorem dX0_multiplied_52 : decode cX0_multiplied 52 = .ok (.getfield 14, 3) := by decide +kernel
theorem dX0_multiplied_55 : decode cX0_multiplied 55 = .ok (.areturn, 1) := by decide +kernel
theorem dX0_pairs_0 : decode cX0_pairs 0 = .ok (.lconst 0, 1) := by decide +kernel
theorem dX0_pairs_1 : decode cX0_pairs 1 = .ok (.lstore_n 3, 1) := by decide +kernel
theorem dX0_pairs_2 : decode cX0_pairs 2 = .ok (.iload_n 2, 1) := by decide +kernel
theorem dX0_pairs_3 : decode cX0_pairs 3 = .ok (.aload_n 0, 1) := by decide +kernel
theorem dX0_pairs_4 : decode cX0_pairs 4 = .ok (.invokevirtual 45, 3) := by decide +kernel
theorem dX0_pairs_7 : decode cX0_pairs 7 = .ok (.iconst 1, 1) := by decide +kernel
theorem dX0_pairs_8 : decode cX0_pairs 8 = .ok (.isub, 1) := by decide +kernel
theorem dX0_pairs_9 : decode cX0_pairs 9 = .ok (.invokestatic 70, 3) := by decide +kernel
theorem dX0_pairs_12 : decode cX0_pairs 12 = .ok (.istore 5, 2) := by decide +kernel
theorem dX0_pairs_14 : decode cX0_pairs 14 = .ok (.iconst 0, 1) := by decide +kernel
theorem dX0_pairs_15 : decode cX0_pairs 15 = .ok (.iload_n 2, 1) := by decide +kernel
theorem dX0_pairs_16 : decode cX0_pairs 16 = .ok (.aload_n 1, 1) := by decide +kernel
theorem dX0_pairs_17 : decode cX0_pairs 17 = .ok (.invokevirtual 45, 3) := by decide +kernel
theorem dX0_pairs_20 : decode cX0_pairs 20 = .ok (.isub, 1) := by decide +kernel
theorem dX0_pairs_21 : decode cX0_pairs 21 = .ok (.iconst 1, 1) := by decide +kernel
theorem dX0_pairs_22 : decode cX0_pairs 22 = .ok (.iadd, 1) := by decide +kernel
theorem dX0_pairs_23 : decode cX0_pairs 23 = .ok (.invokestatic 76, 3) := by decide +kernel
theorem dX0_pairs_26 : decode cX0_pairs 26 = .ok (.istore 6, 2) := by decide +kernel
theorem dX0_pairs_28 : decode cX0_pairs 28 = .ok (.iload 6, 2) := by decide +kernel
theorem dX0_pairs_30 : decode cX0_pairs 30 = .ok (.iload 5, 2) := by decide +kernel
theorem dX0_pairs_32 : decode cX0_pairs 32 = .ok (.if_icmp .gt 29, 3) := by decide +kernel
theorem dX0_pairs_35 : decode cX0_pairs 35 = .ok (.lload_n 3, 1) := by decide +kernel
theorem dX0_pairs_36 : decode cX0_pairs 36 = .ok (.aload_n 0, 1) := by decide +kernel
theorem dX0_pairs_37 : decode cX0_pairs 37 = .ok (.iload 6, 2) := by decide +kernel
theorem dX0_pairs_39 : decode cX0_pairs 39 = .ok (.invokevirtual 49, 3) := by decide +kernel
theorem dX0_pairs_42 : decode cX0_pairs 42 = .ok (.i2l, 1) := by decide +kernel
theorem dX0_pairs_43 : decode cX0_pairs 43 = .ok (.aload_n 1, 1) := by decide +kernel
theorem dX0_pairs_44 : decode cX0_pairs 44 = .ok (.iload_n 2, 1) := by decide +kernel
theorem dX0_pairs_45 : decode cX0_pairs 45 = .ok (.iload 6, 2) := by decide +kernel
theorem dX0_pairs_47 : decode cX0_pairs 47 = .ok (.isub, 1) := by decide +kernel
theorem dX0_pairs_48 : decode cX0_pairs 48 = .ok (.invokevirtual 49, 3) := by decide +kernel
theorem dX0_pairs_51 : decode cX0_pairs 51 = .ok (.i2l, 1) := by decide +kernel
theorem dX0_pairs_52 : decode cX0_pairs 52 = .ok (.lmul, 1) := by decide +kernel
theorem dX0_pairs_53 : decode cX0_pairs 53 = .ok (.ladd, 1) := by decide +kernel
theorem dX0_pairs_54 : decode cX0_pairs 54 = .ok (.lstore_n 3, 1) := by decide +kernel
theorem dX0_pairs_55 : decode cX0_pairs 55 = .ok (.iinc 6 1, 3) := by decide +kernel
theorem dX0_pairs_58 : decode cX0_pairs 58 = .ok (.goto (-30), 3) := by decide +kernel
theorem dX0_pairs_61 : decode cX0_pairs 61 = .ok (.lload_n 3, 1) := by decide +kernel
theorem dX0_pairs_62 : decode cX0_pairs 62 = .ok (.lreturn, 1) := by decide +kernel
theorem dX0_reduce_0 : decode cX0_reduce 0 = .ok (.aload_n 0, 1) := by decide +kernel
theorem dX0_reduce_1 : decode cX0_reduce 1 = .ok (.getfield 20, 3) := by decide +kernel
theorem dX0_reduce_4 : decode cX0_reduce 4 = .ok (.invokevirtual 63, 3) := by decide +kernel
theorem dX0_reduce_7 : decode cX0_reduce 7 = .ok (.aload_n 2, 1) := by decide +kernel
theorem dX0_reduce_8 : decode cX0_reduce 8 = .ok (.invokevirtual 45, 3) := by decide +kernel
theorem dX0_reduce_11 : decode cX0_reduce 11 = .ok (.istore_n 3, 1) := by decide +kernel
theorem dX0_reduce_12 : decode cX0_reduce 12 = .ok (.iload_n 3, 1) := by decide +kernel
theorem dX0_reduce_13 : decode cX0_reduce 13 = .ok (.ifCond .ne 8, 3) := by decide +kernel
theorem dX0_reduce_16 : decode cX0_reduce 16 = .ok (.aload_n 0, 1) := by decide +kernel
theorem dX0_reduce_17 : decode cX0_reduce 17 = .ok (.getfield 20, 3) := by decide +kernel
theorem dX0_reduce_20 : decode cX0_reduce 20 = .ok (.areturn, 1) := by decide +kernel
theorem dX0_reduce_21 : decode cX0_reduce 21 = .ok (.aload_n 0, 1) := by decide +kernel
theorem dX0_reduce_22 : decode cX0_reduce 22 = .ok (.getfield 41, 3) := by decide +kernel
theorem dX0_reduce_25 : decode cX0_reduce 25 = .ok (.aload_n 2, 1) := by decide +kernel
theorem dX0_reduce_26 : decode cX0_reduce 26 = .ok (.invokevirtual 79, 3) := by decide +kernel
theorem dX0_reduce_29 : decode cX0_reduce 29 = .ok (.invokevirtual 82, 3) := by decide +kernel
theorem dX0_reduce_32 : decode cX0_reduce 32 = .ok (.istore 4, 2) := by decide +kernel
theorem dX0_reduce_34 : decode cX0_reduce 34 = .ok (.aload_n 1, 1) := by decide +kernel
theorem dX0_reduce_35 : decode cX0_reduce 35 = .ok (.invokevirtual 45, 3) := by decide +kernel
theorem dX0_reduce_38 : decode cX0_reduce 38 = .ok (.iload_n 3, 1) := by decide +kernel
theorem dX0_reduce_39 : decode cX0_reduce 39 = .ok (.isub, 1) := by decide +kernel
theorem dX0_reduce_40 : decode cX0_reduce 40 = .ok (.istore 5, 2) := by decide +kernel
theorem dX0_reduce_42 : decode cX0_reduce 42 = .ok (.iload 5, 2) := by decide +kernel
theorem dX0_reduce_44 : decode cX0_reduce 44 = .ok (.ifCond .lt 52, 3) := by decide +kernel
theorem dX0_reduce_47 : decode cX0_reduce 47 = .ok (.aload_n 0, 1) := by decide +kernel
theorem dX0_reduce_48 : decode cX0_reduce 48 = .ok (.getfield 41, 3) := by decide +kernel
theorem dX0_reduce_51 : decode cX0_reduce 51 = .ok (.aload_n 1, 1) := by decide +kernel
theorem dX0_reduce_52 : decode cX0_reduce 52 = .ok (.iload 5, 2) := by decide +kernel
theorem dX0_reduce_54 : decode cX0_reduce 54 = .ok (.iload_n 3, 1) := by decide +kernel
theorem dX0_reduce_55 : decode cX0_reduce 55 = .ok (.iadd, 1) := by decide +kernel
theorem dX0_reduce_56 : decode cX0_reduce 56 = .ok (.iconst 1, 1) := by decide +kernel
theorem dX0_reduce_57 : decode cX0_reduce 57 = .ok (.isub, 1) := by decide +kernel
theorem dX0_reduce_58 : decode cX0_reduce 58 = .ok (.invokevirtual 49, 3) := by decide +kernel
theorem dX0_reduce_61 : decode cX0_reduce 61 = .ok (.iload 4, 2) := by decide +kernel
theorem dX0_reduce_63 : decode cX0_reduce 63 = .ok (.invokevirtual 85, 3) := by decide +kernel
theorem dX0_reduce_66 : decode cX0_reduce 66 = .ok (.istore 6, 2) := by decide +kernel
theorem dX0_reduce_68 : decode cX0_reduce 68 = .ok (.aload_n 0, 1) := by decide +kernel
theorem dX0_reduce_69 : decode cX0_reduce 69 = .ok (.getfield 20, 3) := by decide +kernel
theorem dX0_reduce_72 : decode cX0_reduce 72 = .ok (.iload 5, 2) := by decide +kernel
theorem dX0_reduce_74 : decode cX0_reduce 74 = .ok (.iload 6, 2) := by decide +kernel
theorem dX0_reduce_76 : decode cX0_reduce 76 = .ok (.invokevirtual 59, 3) := by decide +kernel
theorem dX0_reduce_79 : decode cX0_reduce 79 = .ok (.aload_n 0, 1) := by decide +kernel
theorem dX0_reduce_80 : decode cX0_reduce 80 = .ok (.aload_n 1, 1) := by decide +kernel
theorem dX0_reduce_81 : decode cX0_reduce 81 = .ok (.iload 6, 2) := by decide +kernel
theorem dX0_reduce_83 : decode cX0_reduce 83 = .ok (.ineg, 1) := by decide +kernel
theorem dX0_reduce_84 : decode cX0_reduce 84 = .ok (.aload_n 2, 1) := by decide +kernel
theorem dX0_reduce_85 : decode cX0_reduce 85 = .ok (.iload 5, 2) := by decide +kernel
theorem dX0_reduce_87 : decode cX0_reduce 87 = .ok (.invokevirtual 87, 3) := by decide +kernel
theorem dX0_reduce_90 : decode cX0_reduce 90 = .ok (.iinc 5 (-1), 3) := by decide +kernel
theorem dX0_reduce_93 : decode cX0_reduce 93 = .ok (.goto (-51), 3) := by decide +kernel
theorem dX0_reduce_96 : decode cX0_reduce 96 = .ok (.aload_n 0, 1) := by decide +kernel
theorem dX0_reduce_97 : decode cX0_reduce 97 = .ok (.getfield 20, 3) := by decide +kernel
theorem dX0_reduce_100 : decode cX0_reduce 100 = .ok (.areturn, 1) := by decide +kernel
theorem dX0_euclid_0 : decode cX0_euclid 0 = .ok (.aload_n 0, 1) := by decide +kernel
theorem dX0_euclid_1 : decode cX0_euclid 1 = .ok (.getfield 29, 3) := by decide +kernel
theorem dX0_euclid_4 : decode cX0_euclid 4 = .ok (.aload_n 1, 1) := by decide +kernel
theorem dX0_euclid_5 : decode cX0_euclid 5 = .ok (.invokevirtual 91, 3) := by decide +kernel
theorem dX0_euclid_8 : decode cX0_euclid 8 = .ok (.aload_n 0, 1) := by decide +kernel
theorem dX0_euclid_9 : decode cX0_euclid 9 = .ok (.getfield 32, 3) := by decide +kernel
theorem dX0_euclid_12 : decode cX0_euclid 12 = .ok (.aload_n 2, 1) := by decide +kernel
theorem dX0_euclid_13 : decode cX0_euclid 13 = .ok (.invokevirtual 91, 3) := by decide +kernel
theorem dX0_euclid_16 : decode cX0_euclid 16 = .ok (.aload_n 0, 1) := by decide +kernel
theorem dX0_euclid_17 : decode cX0_euclid 17 = .ok (.getfield 35, 3) := by decide +kernel
theorem dX0_euclid_20 : decode cX0_euclid 20 = .ok (.invokevirtual 63, 3) := by decide +kernel
theorem dX0_euclid_23 : decode cX0_euclid 23 = .ok (.aload_n 0, 1) := by decide +kernel
theorem dX0_euclid_24 : decode cX0_euclid 24 = .ok (.getfield 38, 3) := by decide +kernel
theorem dX0_euclid_27 : decode cX0_euclid 27 = .ok (.invokevirtual 63, 3) := by decide +kernel
theorem dX0_euclid_30 : decode cX0_euclid 30 = .ok (.aload_n 0, 1) := by decide +kernel
theorem dX0_euclid_31 : decode cX0_euclid 31 = .ok (.getfield 38, 3) := by decide +kernel
theorem dX0_euclid_34 : decode cX0_euclid 34 = .ok (.iconst 0, 1) := by decide +kernel
theorem dX0_euclid_35 : decode cX0_euclid 35 = .ok (.iconst 1, 1) := by decide +kernel
theorem dX0_euclid_36 : decode cX0_euclid 36 = .ok (.invokevirtual 59, 3) := by decide +kernel
theorem dX0_euclid_39 : decode cX0_euclid 39 = .ok (.iconst 0, 1) := by decide +kernel
theorem dX0_euclid_40 : decode cX0_euclid 40 = .ok (.istore 4, 2) := by decide +kernel
theorem dX0_euclid_42 : decode cX0_euclid 42 = .ok (.iload 4, 2) := by decide +kernel
theorem dX0_euclid_44 : decode cX0_euclid 44 = .ok (.bipush 64, 2) := by decide +kernel
theorem dX0_euclid_46 : decode cX0_euclid 46 = .ok (.if_icmp .ge 94, 3) := by decide +kernel
theorem dX0_euclid_49 : decode cX0_euclid 49 = .ok (.aload_n 0, 1) := by decide +kernel
theorem dX0_euclid_50 : decode cX0_euclid 50 = .ok (.getfield 32, 3) := by decide +kernel
theorem dX0_euclid_53 : decode cX0_euclid 53 = .ok (.invokevirtual 45, 3) := by decide +kernel
theorem dX0_euclid_56 : decode cX0_euclid 56 = .ok (.iload_n 3, 1) := by decide +kernel
theorem dX0_euclid_57 : decode cX0_euclid 57 = .ok (.if_icmp .le 83, 3) := by decide +kernel
theorem dX0_euclid_60 : decode cX0_euclid 60 = .ok (.aload_n 0, 1) := by decide +kernel
theorem dX0_euclid_61 : decode cX0_euclid 61 = .ok (.aload_n 0, 1) := by decide +kernel
theorem dX0_euclid_62 : decode cX0_euclid 62 = .ok (.getfield 29, 3) := by decide +kernel
theorem dX0_euclid_65 : decode cX0_euclid 65 = .ok (.aload_n 0, 1) := by decide +kernel
theorem dX0_euclid_66 : decode cX0_euclid 66 = .ok (.getfield 32, 3) := by decide +kernel
theorem dX0_euclid_69 : decode cX0_euclid 69 = .ok (.invokevirtual 95, 3) := by decide +kernel
theorem dX0_euclid_72 : decode cX0_euclid 72 = .ok (.astore 5, 2) := by decide +kernel
theorem dX0_euclid_74 : decode cX0_euclid 74 = .ok (.aload_n 0, 1) := by decide +kernel
theorem dX0_euclid_75 : decode cX0_euclid 75 = .ok (.aload_n 0, 1) := by decide +kernel
theorem dX0_euclid_76 : decode cX0_euclid 76 = .ok (.getfield 35, 3) := by decide +kernel
theorem dX0_euclid_79 : decode cX0_euclid 79 = .ok (.iconst (-1), 1) := by decide +kernel
theorem dX0_euclid_80 : decode cX0_euclid 80 = .ok (.aload_n 0, 1) := by decide +kernel
theorem dX0_euclid_81 : decode cX0_euclid 81 = .ok (.aload 5, 2) := by decide +kernel
theorem dX0_euclid_83 : decode cX0_euclid 83 = .ok (.aload_n 0, 1) := by decide +kernel
theorem dX0_euclid_84 : decode cX0_euclid 84 = .ok (.getfield 38, 3) := by decide +kernel
theorem dX0_euclid_87 : decode cX0_euclid 87 = .ok (.invokevirtual 99, 3) := by decide +kernel
theorem dX0_euclid_90 : decode cX0_euclid 90 = .ok (.iconst 0, 1) := by decide +kernel
theorem dX0_euclid_91 : decode cX0_euclid 91 = .ok (.invokevirtual 87, 3) := by decide +kernel
theorem dX0_euclid_94 : decode cX0_euclid 94 = .ok (.aload_n 0, 1) := by decide +kernel
theorem dX0_euclid_95 : decode cX0_euclid 95 = .ok (.getfield 29, 3) := by decide +kernel
theorem dX0_euclid_98 : decode cX0_euclid 98 = .ok (.astore 6, 2) := by decide +kernel
theorem dX0_euclid_100 : decode cX0_euclid 100 = .ok (.aload_n 0, 1) := by decide +kernel
theorem dX0_euclid_101 : decode cX0_euclid 101 = .ok (.aload_n 0, 1) := by decide +kernel
theorem dX0_euclid_102 : decode cX0_euclid 102 = .ok (.getfield 32, 3) := by decide +kernel
theorem dX0_euclid_105 : decode cX0_euclid 105 = .ok (.putfield 29, 3) := by decide +kernel
theorem dX0_euclid_108 : decode cX0_euclid 108 = .ok (.aload_n 0, 1) := by decide +kernel
theorem dX0_euclid_109 : decode cX0_euclid 109 = .ok (.aload 6, 2) := by decide +kernel
theorem dX0_euclid_111 : decode cX0_euclid 111 = .ok (.putfield 32, 3) := by decide +kernel
theorem dX0_euclid_114 : decode cX0_euclid 114 = .ok (.aload_n 0, 1) := by decide +kernel
theorem dX0_euclid_115 : decode cX0_euclid 115 = .ok (.getfield 35, 3) := by decide +kernel
theorem dX0_euclid_118 : decode cX0_euclid 118 = .ok (.astore 6, 2) := by decide +kernel
theorem dX0_euclid_120 : decode cX0_euclid 120 = .ok (.aload_n 0, 1) := by decide +kernel
theorem dX0_euclid_121 : decode cX0_euclid 121 = .ok (.aload_n 0, 1) := by decide +kernel
theorem dX0_euclid_122 : decode cX0_euclid 122 = .ok (.getfield 38, 3) := by decide +kernel
theorem dX0_euclid_125 : decode cX0_euclid 125 = .ok (.putfield 35, 3) := by decide +kernel
theorem dX0_euclid_128 : decode cX0_euclid 128 = .ok (.aload_n 0, 1) := by decide +kernel
theorem dX0_euclid_129 : decode cX0_euclid 129 = .ok (.aload 6, 2) := by decide +kernel
theorem dX0_euclid_131 : decode cX0_euclid 131 = .ok (.putfield 38, 3) := by decide +kernel
theorem dX0_euclid_134 : decode cX0_euclid 134 = .ok (.iinc 4 1, 3) := by decide +kernel
theorem dX0_euclid_137 : decode cX0_euclid 137 = .ok (.goto (-95), 3) := by decide +kernel
theorem dX0_euclid_140 : decode cX0_euclid 140 = .ok (.return_, 1) := by decide +kernel
theorem dX0_commonDivisor_0 : decode cX0_commonDivisor 0 = .ok (.aload_n 0, 1) := by decide +kernel
theorem dX0_commonDivisor_1 : decode cX0_commonDivisor 1 = .ok (.aload_n 2, 1) := by decide +kernel
theorem dX0_commonDivisor_2 : decode cX0_commonDivisor 2 = .ok (.aload_n 1, 1) := by decide +kernel
theorem dX0_commonDivisor_3 : decode cX0_commonDivisor 3 = .ok (.iconst 0, 1) := by decide +kernel
theorem dX0_commonDivisor_4 : decode cX0_commonDivisor 4 = .ok (.invokevirtual 102, 3) := by decide +kernel
theorem dX0_commonDivisor_7 : decode cX0_commonDivisor 7 = .ok (.aload_n 0, 1) := by decide +kernel
theorem dX0_commonDivisor_8 : decode cX0_commonDivisor 8 = .ok (.getfield 23, 3) := by decide +kernel
theorem dX0_commonDivisor_11 : decode cX0_commonDivisor 11 = .ok (.invokevirtual 63, 3) := by decide +kernel
theorem dX0_commonDivisor_14 : decode cX0_commonDivisor 14 = .ok (.aload_n 0, 1) := by decide +kernel
theorem dX0_commonDivisor_15 : decode cX0_commonDivisor 15 = .ok (.aload_n 0, 1) := by decide +kernel
theorem dX0_commonDivisor_16 : decode cX0_commonDivisor 16 = .ok (.getfield 23, 3) := by decide +kernel
theorem dX0_commonDivisor_19 : decode cX0_commonDivisor 19 = .ok (.aload_n 0, 1) := by decide +kernel
theorem dX0_commonDivisor_20 : decode cX0_commonDivisor 20 = .ok (.getfield 41, 3) := by decide +kernel
theorem dX0_commonDivisor_23 : decode cX0_commonDivisor 23 = .ok (.aload_n 0, 1) := by decide +kernel
theorem dX0_commonDivisor_24 : decode cX0_commonDivisor 24 = .ok (.getfield 29, 3) := by decide +kernel
theorem dX0_commonDivisor_27 : decode cX0_commonDivisor 27 = .ok (.invokevirtual 79, 3) := by decide +kernel
theorem dX0_commonDivisor_30 : decode cX0_commonDivisor 30 = .ok (.invokevirtual 82, 3) := by decide +kernel
theorem dX0_commonDivisor_33 : decode cX0_commonDivisor 33 = .ok (.aload_n 0, 1) := by decide +kernel
theorem dX0_commonDivisor_34 : decode cX0_commonDivisor 34 = .ok (.getfield 29, 3) := by decide +kernel
theorem dX0_commonDivisor_37 : decode cX0_commonDivisor 37 = .ok (.iconst 0, 1) := by decide +kernel
theorem dX0_commonDivisor_38 : decode cX0_commonDivisor 38 = .ok (.invokevirtual 87, 3) := by decide +kernel
theorem dX0_commonDivisor_41 : decode cX0_commonDivisor 41 = .ok (.aload_n 0, 1) := by decide +kernel
theorem dX0_commonDivisor_42 : decode cX0_commonDivisor 42 = .ok (.getfield 23, 3) := by decide +kernel
theorem dX0_commonDivisor_45 : decode cX0_commonDivisor 45 = .ok (.areturn, 1) := by decide +kernel
theorem dX0_leastCofactor_0 : decode cX0_leastCofactor 0 = .ok (.aload_n 0, 1) := by decide +kernel
theorem dX0_leastCofactor_1 : decode cX0_leastCofactor 1 = .ok (.aload_n 2, 1) := by decide +kernel
theorem dX0_leastCofactor_2 : decode cX0_leastCofactor 2 = .ok (.aload_n 1, 1) := by decide +kernel
theorem dX0_leastCofactor_3 : decode cX0_leastCofactor 3 = .ok (.iconst 0, 1) := by decide +kernel
theorem dX0_leastCofactor_4 : decode cX0_leastCofactor 4 = .ok (.invokevirtual 102, 3) := by decide +kernel
theorem dX0_leastCofactor_7 : decode cX0_leastCofactor 7 = .ok (.aload_n 0, 1) := by decide +kernel
theorem dX0_leastCofactor_8 : decode cX0_leastCofactor 8 = .ok (.getfield 23, 3) := by decide +kernel
theorem dX0_leastCofactor_11 : decode cX0_leastCofactor 11 = .ok (.invokevirtual 63, 3) := by decide +kernel
theorem dX0_leastCofactor_14 : decode cX0_leastCofactor 14 = .ok (.aload_n 0, 1) := by decide +kernel
theorem dX0_leastCofactor_15 : decode cX0_leastCofactor 15 = .ok (.aload_n 0, 1) := by decide +kernel
theorem dX0_leastCofactor_16 : decode cX0_leastCofactor 16 = .ok (.getfield 23, 3) := by decide +kernel
theorem dX0_leastCofactor_19 : decode cX0_leastCofactor 19 = .ok (.aload_n 0, 1) := by decide +kernel
theorem dX0_leastCofactor_20 : decode cX0_leastCofactor 20 = .ok (.getfield 41, 3) := by decide +kernel
theorem dX0_leastCofactor_23 : decode cX0_leastCofactor 23 = .ok (.aload_n 0, 1) := by decide +kernel
theorem dX0_leastCofactor_24 : decode cX0_leastCofactor 24 = .ok (.getfield 29, 3) := by decide +kernel
theorem dX0_leastCofactor_27 : decode cX0_leastCofactor 27 = .ok (.invokevirtual 79, 3) := by decide +kernel
theorem dX0_leastCofactor_30 : decode cX0_leastCofactor 30 = .ok (.invokevirtual 82, 3) := by decide +kernel
theorem dX0_leastCofactor_33 : decode cX0_leastCofactor 33 = .ok (.aload_n 0, 1) := by decide +kernel
theorem dX0_leastCofactor_34 : decode cX0_leastCofactor 34 = .ok (.getfield 35, 3) := by decide +kernel
theorem dX0_leastCofactor_37 : decode cX0_leastCofactor 37 = .ok (.iconst 0, 1) := by decide +kernel
theorem dX0_leastCofactor_38 : decode cX0_leastCofactor 38 = .ok (.invokevirtual 87, 3) := by decide +kernel
theorem dX0_leastCofactor_41 : decode cX0_leastCofactor 41 = .ok (.aload_n 2, 1) := by decide +kernel
theorem dX0_leastCofactor_42 : decode cX0_leastCofactor 42 = .ok (.invokevirtual 45, 3) := by decide +kernel
theorem dX0_leastCofactor_45 : decode cX0_leastCofactor 45 = .ok (.ifCond .le 43, 3) := by decide +kernel
theorem dX0_leastCofactor_48 : decode cX0_leastCofactor 48 = .ok (.aload_n 0, 1) := by decide +kernel
theorem dX0_leastCofactor_49 : decode cX0_leastCofactor 49 = .ok (.getfield 32, 3) := by decide +kernel
theorem dX0_leastCofactor_52 : decode cX0_leastCofactor 52 = .ok (.aload_n 2, 1) := by decide +kernel
theorem dX0_leastCofactor_53 : decode cX0_leastCofactor 53 = .ok (.invokevirtual 91, 3) := by decide +kernel
theorem dX0_leastCofactor_56 : decode cX0_leastCofactor 56 = .ok (.aload_n 0, 1) := by decide +kernel
theorem dX0_leastCofactor_57 : decode cX0_leastCofactor 57 = .ok (.getfield 32, 3) := by decide +kernel
theorem dX0_leastCofactor_60 : decode cX0_leastCofactor 60 = .ok (.aload_n 0, 1) := by decide +kernel
theorem dX0_leastCofactor_61 : decode cX0_leastCofactor 61 = .ok (.aload_n 0, 1) := by decide +kernel
theorem dX0_leastCofactor_62 : decode cX0_leastCofactor 62 = .ok (.getfield 32, 3) := by decide +kernel
theorem dX0_leastCofactor_65 : decode cX0_leastCofactor 65 = .ok (.aload_n 0, 1) := by decide +kernel
theorem dX0_leastCofactor_66 : decode cX0_leastCofactor 66 = .ok (.getfield 29, 3) := by decide +kernel
theorem dX0_leastCofactor_69 : decode cX0_leastCofactor 69 = .ok (.invokevirtual 95, 3) := by decide +kernel
theorem dX0_leastCofactor_72 : decode cX0_leastCofactor 72 = .ok (.invokevirtual 91, 3) := by decide +kernel
theorem dX0_leastCofactor_75 : decode cX0_leastCofactor 75 = .ok (.aload_n 0, 1) := by decide +kernel
theorem dX0_leastCofactor_76 : decode cX0_leastCofactor 76 = .ok (.aload_n 0, 1) := by decide +kernel
theorem dX0_leastCofactor_77 : decode cX0_leastCofactor 77 = .ok (.getfield 23, 3) := by decide +kernel
theorem dX0_leastCofactor_80 : decode cX0_leastCofactor 80 = .ok (.aload_n 0, 1) := by decide +kernel
theorem dX0_leastCofactor_81 : decode cX0_leastCofactor 81 = .ok (.getfield 32, 3) := by decide +kernel
theorem dX0_leastCofactor_84 : decode cX0_leastCofactor 84 = .ok (.invokevirtual 95, 3) := by decide +kernel
theorem dX0_leastCofactor_87 : decode cX0_leastCofactor 87 = .ok (.pop, 1) := by decide +kernel
theorem dX0_leastCofactor_88 : decode cX0_leastCofactor 88 = .ok (.aload_n 0, 1) := by decide +kernel
theorem dX0_leastCofactor_89 : decode cX0_leastCofactor 89 = .ok (.getfield 23, 3) := by decide +kernel
theorem dX0_leastCofactor_92 : decode cX0_leastCofactor 92 = .ok (.areturn, 1) := by decide +kernel
theorem dX0_lastByFactor_0 : decode cX0_lastByFactor 0 = .ok (.aload_n 0, 1) := by decide +kernel
theorem dX0_lastByFactor_1 : decode cX0_lastByFactor 1 = .ok (.aload_n 0, 1) := by decide +kernel
theorem dX0_lastByFactor_2 : decode cX0_lastByFactor 2 = .ok (.getfield 32, 3) := by decide +kernel
theorem dX0_lastByFactor_5 : decode cX0_lastByFactor 5 = .ok (.aload_n 0, 1) := by decide +kernel
theorem dX0_lastByFactor_6 : decode cX0_lastByFactor 6 = .ok (.getfield 38, 3) := by decide +kernel
theorem dX0_lastByFactor_9 : decode cX0_lastByFactor 9 = .ok (.invokevirtual 95, 3) := by decide +kernel
theorem dX0_lastByFactor_12 : decode cX0_lastByFactor 12 = .ok (.areturn, 1) := by decide +kernel
theorem dX0_composed_0 : decode cX0_composed 0 = .ok (.aload_n 0, 1) := by decide +kernel
theorem dX0_composed_1 : decode cX0_composed 1 = .ok (.getfield 23, 3) := by decide +kernel
theorem dX0_composed_4 : decode cX0_composed 4 = .ok (.invokevirtual 63, 3) := by decide +kernel
theorem dX0_composed_7 : decode cX0_composed 7 = .ok (.aload_n 1, 1) := by decide +kernel
theorem dX0_composed_8 : decode cX0_composed 8 = .ok (.invokevirtual 45, 3) := by decide +kernel
theorem dX0_composed_11 : decode cX0_composed 11 = .ok (.iconst 1, 1) := by decide +kernel
theorem dX0_composed_12 : decode cX0_composed 12 = .ok (.isub, 1) := by decide +kernel
theorem dX0_composed_13 : decode cX0_composed 13 = .ok (.istore_n 3, 1) := by decide +kernel
theorem dX0_composed_14 : decode cX0_composed 14 = .ok (.iload_n 3, 1) := by decide +kernel
theorem dX0_composed_15 : decode cX0_composed 15 = .ok (.ifCond .lt 56, 3) := by decide +kernel
theorem dX0_composed_18 : decode cX0_composed 18 = .ok (.aload_n 0, 1) := by decide +kernel
theorem dX0_composed_19 : decode cX0_composed 19 = .ok (.getfield 23, 3) := by decide +kernel
theorem dX0_composed_22 : decode cX0_composed 22 = .ok (.aload_n 0, 1) := by decide +kernel
theorem dX0_composed_23 : decode cX0_composed 23 = .ok (.aload_n 0, 1) := by decide +kernel
theorem dX0_composed_24 : decode cX0_composed 24 = .ok (.getfield 23, 3) := by decide +kernel
theorem dX0_composed_27 : decode cX0_composed 27 = .ok (.aload_n 2, 1) := by decide +kernel
theorem dX0_composed_28 : decode cX0_composed 28 = .ok (.invokevirtual 99, 3) := by decide +kernel
theorem dX0_composed_31 : decode cX0_composed 31 = .ok (.invokevirtual 91, 3) := by decide +kernel
theorem dX0_composed_34 : decode cX0_composed 34 = .ok (.aload_n 0, 1) := by decide +kernel
theorem dX0_composed_35 : decode cX0_composed 35 = .ok (.getfield 23, 3) := by decide +kernel
theorem dX0_composed_38 : decode cX0_composed 38 = .ok (.iconst 0, 1) := by decide +kernel
theorem dX0_composed_39 : decode cX0_composed 39 = .ok (.aload_n 0, 1) := by decide +kernel
theorem dX0_composed_40 : decode cX0_composed 40 = .ok (.getfield 41, 3) := by decide +kernel
theorem dX0_composed_43 : decode cX0_composed 43 = .ok (.aload_n 0, 1) := by decide +kernel
theorem dX0_composed_44 : decode cX0_composed 44 = .ok (.getfield 23, 3) := by decide +kernel
theorem dX0_composed_47 : decode cX0_composed 47 = .ok (.iconst 0, 1) := by decide +kernel
theorem dX0_composed_48 : decode cX0_composed 48 = .ok (.invokevirtual 49, 3) := by decide +kernel
theorem dX0_composed_51 : decode cX0_composed 51 = .ok (.i2l, 1) := by decide +kernel
theorem dX0_composed_52 : decode cX0_composed 52 = .ok (.aload_n 1, 1) := by decide +kernel
theorem dX0_composed_53 : decode cX0_composed 53 = .ok (.iload_n 3, 1) := by decide +kernel
theorem dX0_composed_54 : decode cX0_composed 54 = .ok (.invokevirtual 49, 3) := by decide +kernel
theorem dX0_composed_57 : decode cX0_composed 57 = .ok (.i2l, 1) := by decide +kernel
theorem dX0_composed_58 : decode cX0_composed 58 = .ok (.ladd, 1) := by decide +kernel
theorem dX0_composed_59 : decode cX0_composed 59 = .ok (.invokevirtual 53, 3) := by decide +kernel
theorem dX0_composed_62 : decode cX0_composed 62 = .ok (.invokevirtual 59, 3) := by decide +kernel
theorem dX0_composed_65 : decode cX0_composed 65 = .ok (.iinc 3 (-1), 3) := by decide +kernel
theorem dX0_composed_68 : decode cX0_composed 68 = .ok (.goto (-54), 3) := by decide +kernel
theorem dX0_composed_71 : decode cX0_composed 71 = .ok (.aload_n 0, 1) := by decide +kernel
theorem dX0_composed_72 : decode cX0_composed 72 = .ok (.getfield 23, 3) := by decide +kernel
theorem dX0_composed_75 : decode cX0_composed 75 = .ok (.areturn, 1) := by decide +kernel
theorem dX0_moved_0 : decode cX0_moved 0 = .ok (.aload_n 0, 1) := by decide +kernel
theorem dX0_moved_1 : decode cX0_moved 1 = .ok (.aload_n 1, 1) := by decide +kernel
theorem dX0_moved_2 : decode cX0_moved 2 = .ok (.iload_n 2, 1) := by decide +kernel
theorem dX0_moved_3 : decode cX0_moved 3 = .ok (.aload_n 1, 1) := by decide +kernel
theorem dX0_moved_4 : decode cX0_moved 4 = .ok (.invokevirtual 45, 3) := by decide +kernel
theorem dX0_moved_7 : decode cX0_moved 7 = .ok (.invokevirtual 106, 3) := by decide +kernel
theorem dX0_moved_10 : decode cX0_moved 10 = .ok (.areturn, 1) := by decide +kernel
theorem dX0_partMoved_0 : decode cX0_partMoved 0 = .ok (.aload_n 0, 1) := by decide +kernel
theorem dX0_partMoved_1 : decode cX0_partMoved 1 = .ok (.getfield 23, 3) := by decide +kernel
theorem dX0_partMoved_4 : decode cX0_partMoved 4 = .ok (.aload_n 1, 1) := by decide +kernel
theorem dX0_partMoved_5 : decode cX0_partMoved 5 = .ok (.invokevirtual 91, 3) := by decide +kernel
theorem dX0_partMoved_8 : decode cX0_partMoved 8 = .ok (.iconst 0, 1) := by decide +kernel
theorem dX0_partMoved_9 : decode cX0_partMoved 9 = .ok (.istore 4, 2) := by decide +kernel
theorem dX0_partMoved_11 : decode cX0_partMoved 11 = .ok (.iload 4, 2) := by decide +kernel
theorem dX0_partMoved_13 : decode cX0_partMoved 13 = .ok (.iload_n 3, 1) := by decide +kernel
theorem dX0_partMoved_14 : decode cX0_partMoved 14 = .ok (.if_icmp .ge 83, 3) := by decide +kernel
theorem dX0_partMoved_17 : decode cX0_partMoved 17 = .ok (.iload 4, 2) := by decide +kernel
theorem dX0_partMoved_19 : decode cX0_partMoved 19 = .ok (.aload_n 1, 1) := by decide +kernel
theorem dX0_partMoved_20 : decode cX0_partMoved 20 = .ok (.invokevirtual 45, 3) := by decide +kernel
theorem dX0_partMoved_23 : decode cX0_partMoved 23 = .ok (.iconst 1, 1) := by decide +kernel
theorem dX0_partMoved_24 : decode cX0_partMoved 24 = .ok (.isub, 1) := by decide +kernel
theorem dX0_partMoved_25 : decode cX0_partMoved 25 = .ok (.if_icmp .ge 72, 3) := by decide +kernel
theorem dX0_partMoved_28 : decode cX0_partMoved 28 = .ok (.aload_n 1, 1) := by decide +kernel
theorem dX0_partMoved_29 : decode cX0_partMoved 29 = .ok (.invokevirtual 45, 3) := by decide +kernel
theorem dX0_partMoved_32 : decode cX0_partMoved 32 = .ok (.iconst 2, 1) := by decide +kernel
theorem dX0_partMoved_33 : decode cX0_partMoved 33 = .ok (.isub, 1) := by decide +kernel
theorem dX0_partMoved_34 : decode cX0_partMoved 34 = .ok (.istore 5, 2) := by decide +kernel
theorem dX0_partMoved_36 : decode cX0_partMoved 36 = .ok (.iload 5, 2) := by decide +kernel
theorem dX0_partMoved_38 : decode cX0_partMoved 38 = .ok (.iload 4, 2) := by decide +kernel
theorem dX0_partMoved_40 : decode cX0_partMoved 40 = .ok (.if_icmp .lt 51, 3) := by decide +kernel
theorem dX0_partMoved_43 : decode cX0_partMoved 43 = .ok (.aload_n 0, 1) := by decide +kernel
theorem dX0_partMoved_44 : decode cX0_partMoved 44 = .ok (.getfield 23, 3) := by decide +kernel
theorem dX0_partMoved_47 : decode cX0_partMoved 47 = .ok (.iload 5, 2) := by decide +kernel
theorem dX0_partMoved_49 : decode cX0_partMoved 49 = .ok (.aload_n 0, 1) := by decide +kernel
theorem dX0_partMoved_50 : decode cX0_partMoved 50 = .ok (.getfield 41, 3) := by decide +kernel
theorem dX0_partMoved_53 : decode cX0_partMoved 53 = .ok (.aload_n 0, 1) := by decide +kernel
theorem dX0_partMoved_54 : decode cX0_partMoved 54 = .ok (.getfield 23, 3) := by decide +kernel
theorem dX0_partMoved_57 : decode cX0_partMoved 57 = .ok (.iload 5, 2) := by decide +kernel
theorem dX0_partMoved_59 : decode cX0_partMoved 59 = .ok (.invokevirtual 49, 3) := by decide +kernel
theorem dX0_partMoved_62 : decode cX0_partMoved 62 = .ok (.i2l, 1) := by decide +kernel
theorem dX0_partMoved_63 : decode cX0_partMoved 63 = .ok (.iload_n 2, 1) := by decide +kernel
theorem dX0_partMoved_64 : decode cX0_partMoved 64 = .ok (.i2l, 1) := by decide +kernel
theorem dX0_partMoved_65 : decode cX0_partMoved 65 = .ok (.aload_n 0, 1) := by decide +kernel
theorem dX0_partMoved_66 : decode cX0_partMoved 66 = .ok (.getfield 23, 3) := by decide +kernel
theorem dX0_partMoved_69 : decode cX0_partMoved 69 = .ok (.iload 5, 2) := by decide +kernel
theorem dX0_partMoved_71 : decode cX0_partMoved 71 = .ok (.iconst 1, 1) := by decide +kernel
theorem dX0_partMoved_72 : decode cX0_partMoved 72 = .ok (.iadd, 1) := by decide +kernel
theorem dX0_partMoved_73 : decode cX0_partMoved 73 = .ok (.invokevirtual 49, 3) := by decide +kernel
theorem dX0_partMoved_76 : decode cX0_partMoved 76 = .ok (.i2l, 1) := by decide +kernel
theorem dX0_partMoved_77 : decode cX0_partMoved 77 = .ok (.lmul, 1) := by decide +kernel
theorem dX0_partMoved_78 : decode cX0_partMoved 78 = .ok (.ladd, 1) := by decide +kernel
theorem dX0_partMoved_79 : decode cX0_partMoved 79 = .ok (.invokevirtual 53, 3) := by decide +kernel
theorem dX0_partMoved_82 : decode cX0_partMoved 82 = .ok (.invokevirtual 59, 3) := by decide +kernel
theorem dX0_partMoved_85 : decode cX0_partMoved 85 = .ok (.iinc 5 (-1), 3) := by decide +kernel
theorem dX0_partMoved_88 : decode cX0_partMoved 88 = .ok (.goto (-52), 3) := by decide +kernel
theorem dX0_partMoved_91 : decode cX0_partMoved 91 = .ok (.iinc 4 1, 3) := by decide +kernel
theorem dX0_partMoved_94 : decode cX0_partMoved 94 = .ok (.goto (-83), 3) := by decide +kernel
theorem dX0_partMoved_97 : decode cX0_partMoved 97 = .ok (.aload_n 0, 1) := by decide +kernel
theorem dX0_partMoved_98 : decode cX0_partMoved 98 = .ok (.getfield 23, 3) := by decide +kernel
theorem dX0_partMoved_101 : decode cX0_partMoved 101 = .ok (.areturn, 1) := by decide +kernel
theorem dX0_lineAt_0 : decode cX0_lineAt 0 = .ok (.aload_n 0, 1) := by decide +kernel
theorem dX0_lineAt_1 : decode cX0_lineAt 1 = .ok (.getfield 26, 3) := by decide +kernel
theorem dX0_lineAt_4 : decode cX0_lineAt 4 = .ok (.iconst 0, 1) := by decide +kernel
theorem dX0_lineAt_5 : decode cX0_lineAt 5 = .ok (.aload_n 0, 1) := by decide +kernel
theorem dX0_lineAt_6 : decode cX0_lineAt 6 = .ok (.getfield 41, 3) := by decide +kernel
theorem dX0_lineAt_9 : decode cX0_lineAt 9 = .ok (.iload_n 1, 1) := by decide +kernel
theorem dX0_lineAt_10 : decode cX0_lineAt 10 = .ok (.ineg, 1) := by decide +kernel
theorem dX0_lineAt_11 : decode cX0_lineAt 11 = .ok (.i2l, 1) := by decide +kernel
theorem dX0_lineAt_12 : decode cX0_lineAt 12 = .ok (.invokevirtual 53, 3) := by decide +kernel
theorem dX0_lineAt_15 : decode cX0_lineAt 15 = .ok (.invokevirtual 59, 3) := by decide +kernel
theorem dX0_lineAt_18 : decode cX0_lineAt 18 = .ok (.aload_n 0, 1) := by decide +kernel
theorem dX0_lineAt_19 : decode cX0_lineAt 19 = .ok (.getfield 26, 3) := by decide +kernel
theorem dX0_lineAt_22 : decode cX0_lineAt 22 = .ok (.iconst 1, 1) := by decide +kernel
theorem dX0_lineAt_23 : decode cX0_lineAt 23 = .ok (.iconst 1, 1) := by decide +kernel
theorem dX0_lineAt_24 : decode cX0_lineAt 24 = .ok (.invokevirtual 59, 3) := by decide +kernel
theorem dX0_lineAt_27 : decode cX0_lineAt 27 = .ok (.aload_n 0, 1) := by decide +kernel
theorem dX0_lineAt_28 : decode cX0_lineAt 28 = .ok (.getfield 26, 3) := by decide +kernel
theorem dX0_lineAt_31 : decode cX0_lineAt 31 = .ok (.areturn, 1) := by decide +kernel
theorem dX0_seekRoots_0 : decode cX0_seekRoots 0 = .ok (.aload_n 0, 1) := by decide +kernel
theorem dX0_seekRoots_1 : decode cX0_seekRoots 1 = .ok (.getfield 23, 3) := by decide +kernel
theorem dX0_seekRoots_4 : decode cX0_seekRoots 4 = .ok (.invokevirtual 63, 3) := by decide +kernel
theorem dX0_seekRoots_7 : decode cX0_seekRoots 7 = .ok (.aload_n 0, 1) := by decide +kernel
theorem dX0_seekRoots_8 : decode cX0_seekRoots 8 = .ok (.getfield 23, 3) := by decide +kernel
theorem dX0_seekRoots_11 : decode cX0_seekRoots 11 = .ok (.iconst 0, 1) := by decide +kernel
theorem dX0_seekRoots_12 : decode cX0_seekRoots 12 = .ok (.iconst 1, 1) := by decide +kernel
theorem dX0_seekRoots_13 : decode cX0_seekRoots 13 = .ok (.invokevirtual 59, 3) := by decide +kernel
theorem dX0_seekRoots_16 : decode cX0_seekRoots 16 = .ok (.bipush 12, 2) := by decide +kernel
theorem dX0_seekRoots_18 : decode cX0_seekRoots 18 = .ok (.istore_n 2, 1) := by decide +kernel
theorem dX0_seekRoots_19 : decode cX0_seekRoots 19 = .ok (.iload_n 2, 1) := by decide +kernel
theorem dX0_seekRoots_20 : decode cX0_seekRoots 20 = .ok (.ifCond .lt 73, 3) := by decide +kernel
theorem dX0_seekRoots_23 : decode cX0_seekRoots 23 = .ok (.aload_n 0, 1) := by decide +kernel
theorem dX0_seekRoots_24 : decode cX0_seekRoots 24 = .ok (.getfield 23, 3) := by decide +kernel
theorem dX0_seekRoots_27 : decode cX0_seekRoots 27 = .ok (.aload_n 0, 1) := by decide +kernel
theorem dX0_seekRoots_28 : decode cX0_seekRoots 28 = .ok (.aload_n 0, 1) := by decide +kernel
theorem dX0_seekRoots_29 : decode cX0_seekRoots 29 = .ok (.getfield 23, 3) := by decide +kernel
theorem dX0_seekRoots_32 : decode cX0_seekRoots 32 = .ok (.aload_n 0, 1) := by decide +kernel
theorem dX0_seekRoots_33 : decode cX0_seekRoots 33 = .ok (.getfield 23, 3) := by decide +kernel
theorem dX0_seekRoots_36 : decode cX0_seekRoots 36 = .ok (.invokevirtual 99, 3) := by decide +kernel
theorem dX0_seekRoots_39 : decode cX0_seekRoots 39 = .ok (.invokevirtual 91, 3) := by decide +kernel
theorem dX0_seekRoots_42 : decode cX0_seekRoots 42 = .ok (.aload_n 0, 1) := by decide +kernel
theorem dX0_seekRoots_43 : decode cX0_seekRoots 43 = .ok (.getfield 41, 3) := by decide +kernel
theorem dX0_seekRoots_46 : decode cX0_seekRoots 46 = .ok (.invokevirtual 110, 3) := by decide +kernel
theorem dX0_seekRoots_49 : decode cX0_seekRoots 49 = .ok (.iload_n 2, 1) := by decide +kernel
theorem dX0_seekRoots_50 : decode cX0_seekRoots 50 = .ok (.ishr, 1) := by decide +kernel
theorem dX0_seekRoots_51 : decode cX0_seekRoots 51 = .ok (.iconst 1, 1) := by decide +kernel
theorem dX0_seekRoots_52 : decode cX0_seekRoots 52 = .ok (.iand, 1) := by decide +kernel
theorem dX0_seekRoots_53 : decode cX0_seekRoots 53 = .ok (.iconst 1, 1) := by decide +kernel
theorem dX0_seekRoots_54 : decode cX0_seekRoots 54 = .ok (.if_icmp .ne 23, 3) := by decide +kernel
theorem dX0_seekRoots_57 : decode cX0_seekRoots 57 = .ok (.aload_n 0, 1) := by decide +kernel
theorem dX0_seekRoots_58 : decode cX0_seekRoots 58 = .ok (.getfield 23, 3) := by decide +kernel
theorem dX0_seekRoots_61 : decode cX0_seekRoots 61 = .ok (.aload_n 0, 1) := by decide +kernel
theorem dX0_seekRoots_62 : decode cX0_seekRoots 62 = .ok (.aload_n 0, 1) := by decide +kernel
theorem dX0_seekRoots_63 : decode cX0_seekRoots 63 = .ok (.getfield 23, 3) := by decide +kernel
theorem dX0_seekRoots_66 : decode cX0_seekRoots 66 = .ok (.aload_n 0, 1) := by decide +kernel
theorem dX0_seekRoots_67 : decode cX0_seekRoots 67 = .ok (.iconst 0, 1) := by decide +kernel
theorem dX0_seekRoots_68 : decode cX0_seekRoots 68 = .ok (.invokevirtual 113, 3) := by decide +kernel
theorem dX0_seekRoots_71 : decode cX0_seekRoots 71 = .ok (.invokevirtual 99, 3) := by decide +kernel
theorem dX0_seekRoots_74 : decode cX0_seekRoots 74 = .ok (.invokevirtual 91, 3) := by decide +kernel
theorem dX0_seekRoots_77 : decode cX0_seekRoots 77 = .ok (.aload_n 0, 1) := by decide +kernel
theorem dX0_seekRoots_78 : decode cX0_seekRoots 78 = .ok (.aload_n 0, 1) := by decide +kernel
theorem dX0_seekRoots_79 : decode cX0_seekRoots 79 = .ok (.getfield 23, 3) := by decide +kernel
theorem dX0_seekRoots_82 : decode cX0_seekRoots 82 = .ok (.aload_n 1, 1) := by decide +kernel
theorem dX0_seekRoots_83 : decode cX0_seekRoots 83 = .ok (.invokevirtual 95, 3) := by decide +kernel
theorem dX0_seekRoots_86 : decode cX0_seekRoots 86 = .ok (.pop, 1) := by decide +kernel
theorem dX0_seekRoots_87 : decode cX0_seekRoots 87 = .ok (.iinc 2 (-1), 3) := by decide +kernel
theorem dX0_seekRoots_90 : decode cX0_seekRoots 90 = .ok (.goto (-71), 3) := by decide +kernel
theorem dX0_seekRoots_93 : decode cX0_seekRoots 93 = .ok (.aload_n 0, 1) := by decide +kernel
theorem dX0_seekRoots_94 : decode cX0_seekRoots 94 = .ok (.aload_n 0, 1) := by decide +kernel
theorem dX0_seekRoots_95 : decode cX0_seekRoots 95 = .ok (.getfield 23, 3) := by decide +kernel
theorem dX0_seekRoots_98 : decode cX0_seekRoots 98 = .ok (.iconst (-1), 1) := by decide +kernel
theorem dX0_seekRoots_99 : decode cX0_seekRoots 99 = .ok (.aload_n 0, 1) := by decide +kernel
theorem dX0_seekRoots_100 : decode cX0_seekRoots 100 = .ok (.iconst 0, 1) := by decide +kernel
theorem dX0_seekRoots_101 : decode cX0_seekRoots 101 = .ok (.invokevirtual 113, 3) := by decide +kernel
theorem dX0_seekRoots_104 : decode cX0_seekRoots 104 = .ok (.iconst 0, 1) := by decide +kernel
theorem dX0_seekRoots_105 : decode cX0_seekRoots 105 = .ok (.invokevirtual 87, 3) := by decide +kernel
theorem dX0_seekRoots_108 : decode cX0_seekRoots 108 = .ok (.aload_n 0, 1) := by decide +kernel
theorem dX0_seekRoots_109 : decode cX0_seekRoots 109 = .ok (.aload_n 1, 1) := by decide +kernel
theorem dX0_seekRoots_110 : decode cX0_seekRoots 110 = .ok (.aload_n 0, 1) := by decide +kernel
theorem dX0_seekRoots_111 : decode cX0_seekRoots 111 = .ok (.getfield 23, 3) := by decide +kernel
theorem dX0_seekRoots_114 : decode cX0_seekRoots 114 = .ok (.iconst 0, 1) := by decide +kernel
theorem dX0_seekRoots_115 : decode cX0_seekRoots 115 = .ok (.invokevirtual 102, 3) := by decide +kernel
theorem dX0_seekRoots_118 : decode cX0_seekRoots 118 = .ok (.aload_n 0, 1) := by decide +kernel
theorem dX0_seekRoots_119 : decode cX0_seekRoots 119 = .ok (.getfield 23, 3) := by decide +kernel
theorem dX0_seekRoots_122 : decode cX0_seekRoots 122 = .ok (.aload_n 0, 1) := by decide +kernel
theorem dX0_seekRoots_123 : decode cX0_seekRoots 123 = .ok (.getfield 29, 3) := by decide +kernel
theorem dX0_seekRoots_126 : decode cX0_seekRoots 126 = .ok (.invokevirtual 91, 3) := by decide +kernel
theorem dX0_seekRoots_129 : decode cX0_seekRoots 129 = .ok (.aload_n 0, 1) := by decide +kernel
theorem dX0_seekRoots_130 : decode cX0_seekRoots 130 = .ok (.getfield 23, 3) := by decide +kernel
theorem dX0_seekRoots_133 : decode cX0_seekRoots 133 = .ok (.invokevirtual 45, 3) := by decide +kernel
theorem dX0_seekRoots_136 : decode cX0_seekRoots 136 = .ok (.iconst 1, 1) := by decide +kernel
theorem dX0_seekRoots_137 : decode cX0_seekRoots 137 = .ok (.isub, 1) := by decide +kernel
theorem dX0_seekRoots_138 : decode cX0_seekRoots 138 = .ok (.ireturn, 1) := by decide +kernel
theorem dX0_soughtRoot_0 : decode cX0_soughtRoot 0 = .ok (.iload_n 1, 1) := by decide +kernel
theorem dX0_soughtRoot_1 : decode cX0_soughtRoot 1 = .ok (.istore_n 2, 1) := by decide +kernel
theorem dX0_soughtRoot_2 : decode cX0_soughtRoot 2 = .ok (.iconst 0, 1) := by decide +kernel
theorem dX0_soughtRoot_3 : decode cX0_soughtRoot 3 = .ok (.istore_n 3, 1) := by decide +kernel
theorem dX0_soughtRoot_4 : decode cX0_soughtRoot 4 = .ok (.iload_n 3, 1) := by decide +kernel
theorem dX0_soughtRoot_5 : decode cX0_soughtRoot 5 = .ok (.aload_n 0, 1) := by decide +kernel
theorem dX0_soughtRoot_6 : decode cX0_soughtRoot 6 = .ok (.getfield 41, 3) := by decide +kernel
theorem dX0_soughtRoot_9 : decode cX0_soughtRoot 9 = .ok (.invokevirtual 110, 3) := by decide +kernel
theorem dX0_soughtRoot_12 : decode cX0_soughtRoot 12 = .ok (.if_icmp .ge 115, 3) := by decide +kernel
theorem dX0_soughtRoot_15 : decode cX0_soughtRoot 15 = .ok (.aload_n 0, 1) := by decide +kernel
theorem dX0_soughtRoot_16 : decode cX0_soughtRoot 16 = .ok (.getfield 23, 3) := by decide +kernel
theorem dX0_soughtRoot_19 : decode cX0_soughtRoot 19 = .ok (.invokevirtual 45, 3) := by decide +kernel
theorem dX0_soughtRoot_22 : decode cX0_soughtRoot 22 = .ok (.iconst 1, 1) := by decide +kernel
theorem dX0_soughtRoot_23 : decode cX0_soughtRoot 23 = .ok (.if_icmp .le 104, 3) := by decide +kernel
theorem dX0_soughtRoot_26 : decode cX0_soughtRoot 26 = .ok (.aload_n 0, 1) := by decide +kernel
theorem dX0_soughtRoot_27 : decode cX0_soughtRoot 27 = .ok (.getfield 23, 3) := by decide +kernel
theorem dX0_soughtRoot_30 : decode cX0_soughtRoot 30 = .ok (.invokevirtual 45, 3) := by decide +kernel
theorem dX0_soughtRoot_33 : decode cX0_soughtRoot 33 = .ok (.iconst 2, 1) := by decide +kernel
theorem dX0_soughtRoot_34 : decode cX0_soughtRoot 34 = .ok (.if_icmp .ne 43, 3) := by decide +kernel
theorem dX0_soughtRoot_37 : decode cX0_soughtRoot 37 = .ok (.aload_n 0, 1) := by decide +kernel
theorem dX0_soughtRoot_38 : decode cX0_soughtRoot 38 = .ok (.getfield 41, 3) := by decide +kernel
theorem dX0_soughtRoot_41 : decode cX0_soughtRoot 41 = .ok (.aload_n 0, 1) := by decide +kernel
theorem dX0_soughtRoot_42 : decode cX0_soughtRoot 42 = .ok (.getfield 41, 3) := by decide +kernel
theorem dX0_soughtRoot_45 : decode cX0_soughtRoot 45 = .ok (.aload_n 0, 1) := by decide +kernel
theorem dX0_soughtRoot_46 : decode cX0_soughtRoot 46 = .ok (.getfield 23, 3) := by decide +kernel
theorem dX0_soughtRoot_49 : decode cX0_soughtRoot 49 = .ok (.iconst 0, 1) := by decide +kernel
theorem dX0_soughtRoot_50 : decode cX0_soughtRoot 50 = .ok (.invokevirtual 49, 3) := by decide +kernel
theorem dX0_soughtRoot_53 : decode cX0_soughtRoot 53 = .ok (.ineg, 1) := by decide +kernel
theorem dX0_soughtRoot_54 : decode cX0_soughtRoot 54 = .ok (.i2l, 1) := by decide +kernel
theorem dX0_soughtRoot_55 : decode cX0_soughtRoot 55 = .ok (.invokevirtual 53, 3) := by decide +kernel
theorem dX0_soughtRoot_58 : decode cX0_soughtRoot 58 = .ok (.aload_n 0, 1) := by decide +kernel
theorem dX0_soughtRoot_59 : decode cX0_soughtRoot 59 = .ok (.getfield 41, 3) := by decide +kernel
theorem dX0_soughtRoot_62 : decode cX0_soughtRoot 62 = .ok (.aload_n 0, 1) := by decide +kernel
theorem dX0_soughtRoot_63 : decode cX0_soughtRoot 63 = .ok (.getfield 23, 3) := by decide +kernel
theorem dX0_soughtRoot_66 : decode cX0_soughtRoot 66 = .ok (.iconst 1, 1) := by decide +kernel
theorem dX0_soughtRoot_67 : decode cX0_soughtRoot 67 = .ok (.invokevirtual 49, 3) := by decide +kernel
theorem dX0_soughtRoot_70 : decode cX0_soughtRoot 70 = .ok (.invokevirtual 82, 3) := by decide +kernel
theorem dX0_soughtRoot_73 : decode cX0_soughtRoot 73 = .ok (.invokevirtual 85, 3) := by decide +kernel
theorem dX0_soughtRoot_76 : decode cX0_soughtRoot 76 = .ok (.ireturn, 1) := by decide +kernel
theorem dX0_soughtRoot_77 : decode cX0_soughtRoot 77 = .ok (.aload_n 0, 1) := by decide +kernel
theorem dX0_soughtRoot_78 : decode cX0_soughtRoot 78 = .ok (.aload_n 0, 1) := by decide +kernel
theorem dX0_soughtRoot_79 : decode cX0_soughtRoot 79 = .ok (.getfield 23, 3) := by decide +kernel
theorem dX0_soughtRoot_82 : decode cX0_soughtRoot 82 = .ok (.iload_n 3, 1) := by decide +kernel
theorem dX0_soughtRoot_83 : decode cX0_soughtRoot 83 = .ok (.invokevirtual 117, 3) := by decide +kernel
theorem dX0_soughtRoot_86 : decode cX0_soughtRoot 86 = .ok (.ifCond .eq 6, 3) := by decide +kernel
theorem dX0_soughtRoot_89 : decode cX0_soughtRoot 89 = .ok (.goto 32, 3) := by decide +kernel
theorem dX0_soughtRoot_92 : decode cX0_soughtRoot 92 = .ok (.iload_n 2, 1) := by decide +kernel
theorem dX0_soughtRoot_93 : decode cX0_soughtRoot 93 = .ok (.ifCond .ne 5, 3) := by decide +kernel
theorem dX0_soughtRoot_96 : decode cX0_soughtRoot 96 = .ok (.iload_n 3, 1) := by decide +kernel
theorem dX0_soughtRoot_97 : decode cX0_soughtRoot 97 = .ok (.ireturn, 1) := by decide +kernel
theorem dX0_soughtRoot_98 : decode cX0_soughtRoot 98 = .ok (.iinc 2 (-1), 3) := by decide +kernel
theorem dX0_soughtRoot_101 : decode cX0_soughtRoot 101 = .ok (.aload_n 0, 1) := by decide +kernel
theorem dX0_soughtRoot_102 : decode cX0_soughtRoot 102 = .ok (.getfield 23, 3) := by decide +kernel
theorem dX0_soughtRoot_105 : decode cX0_soughtRoot 105 = .ok (.aload_n 0, 1) := by decide +kernel
theorem dX0_soughtRoot_106 : decode cX0_soughtRoot 106 = .ok (.aload_n 0, 1) := by decide +kernel
theorem dX0_soughtRoot_107 : decode cX0_soughtRoot 107 = .ok (.getfield 23, 3) := by decide +kernel
theorem dX0_soughtRoot_110 : decode cX0_soughtRoot 110 = .ok (.aload_n 0, 1) := by decide +kernel
theorem dX0_soughtRoot_111 : decode cX0_soughtRoot 111 = .ok (.iload_n 3, 1) := by decide +kernel
theorem dX0_soughtRoot_112 : decode cX0_soughtRoot 112 = .ok (.invokevirtual 113, 3) := by decide +kernel
theorem dX0_soughtRoot_115 : decode cX0_soughtRoot 115 = .ok (.invokevirtual 95, 3) := by decide +kernel
theorem dX0_soughtRoot_118 : decode cX0_soughtRoot 118 = .ok (.invokevirtual 91, 3) := by decide +kernel
theorem dX0_soughtRoot_121 : decode cX0_soughtRoot 121 = .ok (.iinc 3 1, 3) := by decide +kernel
theorem dX0_soughtRoot_124 : decode cX0_soughtRoot 124 = .ok (.goto (-120), 3) := by decide +kernel
theorem dX0_soughtRoot_127 : decode cX0_soughtRoot 127 = .ok (.iconst (-1), 1) := by decide +kernel
theorem dX0_soughtRoot_128 : decode cX0_soughtRoot 128 = .ok (.ireturn, 1) := by decide +kernel
theorem dX1_init_0 : decode cX1_init 0 = .ok (.aload_n 0, 1) := by decide +kernel
theorem dX1_init_1 : decode cX1_init 1 = .ok (.invokespecial 3, 3) := by decide +kernel
theorem dX1_init_4 : decode cX1_init 4 = .ok (.aload_n 0, 1) := by decide +kernel
theorem dX1_init_5 : decode cX1_init 5 = .ok (.new 9, 3) := by decide +kernel
theorem dX1_init_8 : decode cX1_init 8 = .ok (.dup, 1) := by decide +kernel
theorem dX1_init_9 : decode cX1_init 9 = .ok (.invokespecial 11, 3) := by decide +kernel
theorem dX1_init_12 : decode cX1_init 12 = .ok (.putfield 12, 3) := by decide +kernel
theorem dX1_init_15 : decode cX1_init 15 = .ok (.aload_n 0, 1) := by decide +kernel
theorem dX1_init_16 : decode cX1_init 16 = .ok (.iconst (-1), 1) := by decide +kernel
theorem dX1_init_17 : decode cX1_init 17 = .ok (.putfield 18, 3) := by decide +kernel
theorem dX1_init_20 : decode cX1_init 20 = .ok (.aload_n 0, 1) := by decide +kernel
theorem dX1_init_21 : decode cX1_init 21 = .ok (.aload_n 1, 1) := by decide +kernel
theorem dX1_init_22 : decode cX1_init 22 = .ok (.putfield 22, 3) := by decide +kernel
theorem dX1_init_25 : decode cX1_init 25 = .ok (.return_, 1) := by decide +kernel
theorem dX1_readInto_0 : decode cX1_readInto 0 = .ok (.aload_n 0, 1) := by decide +kernel
theorem dX1_readInto_1 : decode cX1_readInto 1 = .ok (.aload_n 1, 1) := by decide +kernel
theorem dX1_readInto_2 : decode cX1_readInto 2 = .ok (.putfield 12, 3) := by decide +kernel
theorem dX1_readInto_5 : decode cX1_readInto 5 = .ok (.aload_n 0, 1) := by decide +kernel
theorem dX1_readInto_6 : decode cX1_readInto 6 = .ok (.getfield 12, 3) := by decide +kernel
theorem dX1_readInto_9 : decode cX1_readInto 9 = .ok (.invokevirtual 26, 3) := by decide +kernel
theorem dX1_readInto_12 : decode cX1_readInto 12 = .ok (.aload_n 0, 1) := by decide +kernel
theorem dX1_readInto_13 : decode cX1_readInto 13 = .ok (.iconst 0, 1) := by decide +kernel
theorem dX1_readInto_14 : decode cX1_readInto 14 = .ok (.putfield 29, 3) := by decide +kernel
theorem dX1_readInto_17 : decode cX1_readInto 17 = .ok (.aload_n 0, 1) := by decide +kernel
theorem dX1_readInto_18 : decode cX1_readInto 18 = .ok (.iconst (-1), 1) := by decide +kernel
theorem dX1_readInto_19 : decode cX1_readInto 19 = .ok (.putfield 18, 3) := by decide +kernel
theorem dX1_readInto_22 : decode cX1_readInto 22 = .ok (.aload_n 0, 1) := by decide +kernel
theorem dX1_readInto_23 : decode cX1_readInto 23 = .ok (.iconst 0, 1) := by decide +kernel
theorem dX1_readInto_24 : decode cX1_readInto 24 = .ok (.putfield 32, 3) := by decide +kernel
theorem dX1_readInto_27 : decode cX1_readInto 27 = .ok (.aload_n 0, 1) := by decide +kernel
theorem dX1_readInto_28 : decode cX1_readInto 28 = .ok (.sipush 260, 3) := by decide +kernel
theorem dX1_readInto_31 : decode cX1_readInto 31 = .ok (.invokevirtual 37, 3) := by decide +kernel
theorem dX1_readInto_34 : decode cX1_readInto 34 = .ok (.aload_n 0, 1) := by decide +kernel
theorem dX1_readInto_35 : decode cX1_readInto 35 = .ok (.sipush 261, 3) := by decide +kernel
theorem dX1_readInto_38 : decode cX1_readInto 38 = .ok (.invokevirtual 37, 3) := by decide +kernel
theorem dX1_readInto_41 : decode cX1_readInto 41 = .ok (.aload_n 0, 1) := by decide +kernel
theorem dX1_readInto_42 : decode cX1_readInto 42 = .ok (.sipush 262, 3) := by decide +kernel
theorem dX1_readInto_45 : decode cX1_readInto 45 = .ok (.invokevirtual 37, 3) := by decide +kernel
theorem dX1_readInto_48 : decode cX1_readInto 48 = .ok (.aload_n 0, 1) := by decide +kernel
theorem dX1_readInto_49 : decode cX1_readInto 49 = .ok (.sipush 256, 3) := by decide +kernel
theorem dX1_readInto_52 : decode cX1_readInto 52 = .ok (.invokevirtual 41, 3) := by decide +kernel
theorem dX1_readInto_55 : decode cX1_readInto 55 = .ok (.aload_n 0, 1) := by decide +kernel
theorem dX1_readInto_56 : decode cX1_readInto 56 = .ok (.getfield 18, 3) := by decide +kernel
theorem dX1_readInto_59 : decode cX1_readInto 59 = .ok (.ireturn, 1) := by decide +kernel
theorem dX1_part_0 : decode cX1_part 0 = .ok (.aload_n 0, 1) := by decide +kernel
theorem dX1_part_1 : decode cX1_part 1 = .ok (.iload_n 1, 1) := by decide +kernel
theorem dX1_part_2 : decode cX1_part 2 = .ok (.invokevirtual 41, 3) := by decide +kernel
theorem dX1_part_5 : decode cX1_part 5 = .ok (.aload_n 0, 1) := by decide +kernel
theorem dX1_part_6 : decode cX1_part 6 = .ok (.invokevirtual 44, 3) := by decide +kernel
theorem dX1_part_9 : decode cX1_part 9 = .ok (.aload_n 0, 1) := by decide +kernel
theorem dX1_part_10 : decode cX1_part 10 = .ok (.bipush 59, 2) := by decide +kernel
theorem dX1_part_12 : decode cX1_part 12 = .ok (.invokevirtual 41, 3) := by decide +kernel
theorem dX1_part_15 : decode cX1_part 15 = .ok (.aload_n 0, 1) := by decide +kernel
theorem dX1_part_16 : decode cX1_part 16 = .ok (.getfield 12, 3) := by decide +kernel
theorem dX1_part_19 : decode cX1_part 19 = .ok (.invokevirtual 47, 3) := by decide +kernel
theorem dX1_part_22 : decode cX1_part 22 = .ok (.return_, 1) := by decide +kernel
theorem dX1_stands_0 : decode cX1_stands 0 = .ok (.aload_n 0, 1) := by decide +kernel
theorem dX1_stands_1 : decode cX1_stands 1 = .ok (.getfield 18, 3) := by decide +kernel
theorem dX1_stands_4 : decode cX1_stands 4 = .ok (.iconst (-1), 1) := by decide +kernel
theorem dX1_stands_5 : decode cX1_stands 5 = .ok (.if_icmp .ne 22, 3) := by decide +kernel
theorem dX1_stands_8 : decode cX1_stands 8 = .ok (.aload_n 0, 1) := by decide +kernel
theorem dX1_stands_9 : decode cX1_stands 9 = .ok (.getfield 22, 3) := by decide +kernel
theorem dX1_stands_12 : decode cX1_stands 12 = .ok (.aload_n 0, 1) := by decide +kernel
theorem dX1_stands_13 : decode cX1_stands 13 = .ok (.getfield 32, 3) := by decide +kernel
theorem dX1_stands_16 : decode cX1_stands 16 = .ok (.invokevirtual 50, 3) := by decide +kernel
theorem dX1_stands_19 : decode cX1_stands 19 = .ok (.iload_n 1, 1) := by decide +kernel
theorem dX1_stands_20 : decode cX1_stands 20 = .ok (.if_icmp .ne 7, 3) := by decide +kernel
theorem dX1_stands_23 : decode cX1_stands 23 = .ok (.iconst 1, 1) := by decide +kernel
theorem dX1_stands_24 : decode cX1_stands 24 = .ok (.goto 4, 3) := by decide +kernel
theorem dX1_stands_27 : decode cX1_stands 27 = .ok (.iconst 0, 1) := by decide +kernel
theorem dX1_stands_28 : decode cX1_stands 28 = .ok (.ireturn, 1) := by decide +kernel
theorem dX1_took_0 : decode cX1_took 0 = .ok (.aload_n 0, 1) := by decide +kernel
theorem dX1_took_1 : decode cX1_took 1 = .ok (.iload_n 1, 1) := by decide +kernel
theorem dX1_took_2 : decode cX1_took 2 = .ok (.invokevirtual 54, 3) := by decide +kernel
theorem dX1_took_5 : decode cX1_took 5 = .ok (.ifCond .ne 5, 3) := by decide +kernel
theorem dX1_took_8 : decode cX1_took 8 = .ok (.iconst 0, 1) := by decide +kernel
theorem dX1_took_9 : decode cX1_took 9 = .ok (.ireturn, 1) := by decide +kernel
theorem dX1_took_10 : decode cX1_took 10 = .ok (.aload_n 0, 1) := by decide +kernel
theorem dX1_took_11 : decode cX1_took 11 = .ok (.dup, 1) := by decide +kernel
theorem dX1_took_12 : decode cX1_took 12 = .ok (.getfield 32, 3) := by decide +kernel
theorem dX1_took_15 : decode cX1_took 15 = .ok (.iconst 1, 1) := by decide +kernel
theorem dX1_took_16 : decode cX1_took 16 = .ok (.iadd, 1) := by decide +kernel
theorem dX1_took_17 : decode cX1_took 17 = .ok (.putfield 32, 3) := by decide +kernel
theorem dX1_took_20 : decode cX1_took 20 = .ok (.iconst 1, 1) := by decide +kernel
theorem dX1_took_21 : decode cX1_took 21 = .ok (.ireturn, 1) := by decide +kernel
theorem dX1_need_0 : decode cX1_need 0 = .ok (.aload_n 0, 1) := by decide +kernel
theorem dX1_need_1 : decode cX1_need 1 = .ok (.iload_n 1, 1) := by decide +kernel
theorem dX1_need_2 : decode cX1_need 2 = .ok (.invokevirtual 54, 3) := by decide +kernel
theorem dX1_need_5 : decode cX1_need 5 = .ok (.ifCond .eq 16, 3) := by decide +kernel
theorem dX1_need_8 : decode cX1_need 8 = .ok (.aload_n 0, 1) := by decide +kernel
theorem dX1_need_9 : decode cX1_need 9 = .ok (.dup, 1) := by decide +kernel
theorem dX1_need_10 : decode cX1_need 10 = .ok (.getfield 32, 3) := by decide +kernel
theorem dX1_need_13 : decode cX1_need 13 = .ok (.iconst 1, 1) := by decide +kernel
theorem dX1_need_14 : decode cX1_need 14 = .ok (.iadd, 1) := by decide +kernel
theorem dX1_need_15 : decode cX1_need 15 = .ok (.putfield 32, 3) := by decide +kernel
theorem dX1_need_18 : decode cX1_need 18 = .ok (.goto 7, 3) := by decide +kernel
theorem dX1_need_21 : decode cX1_need 21 = .ok (.aload_n 0, 1) := by decide +kernel
theorem dX1_need_22 : decode cX1_need 22 = .ok (.invokevirtual 58, 3) := by decide +kernel
theorem dX1_need_25 : decode cX1_need 25 = .ok (.return_, 1) := by decide +kernel
theorem dX1_fail_0 : decode cX1_fail 0 = .ok (.aload_n 0, 1) := by decide +kernel
theorem dX1_fail_1 : decode cX1_fail 1 = .ok (.getfield 18, 3) := by decide +kernel
theorem dX1_fail_4 : decode cX1_fail 4 = .ok (.iconst (-1), 1) := by decide +kernel
theorem dX1_fail_5 : decode cX1_fail 5 = .ok (.if_icmp .ne 18, 3) := by decide +kernel
theorem dX1_fail_8 : decode cX1_fail 8 = .ok (.aload_n 0, 1) := by decide +kernel
theorem dX1_fail_9 : decode cX1_fail 9 = .ok (.aload_n 0, 1) := by decide +kernel
theorem dX1_fail_10 : decode cX1_fail 10 = .ok (.getfield 22, 3) := by decide +kernel
theorem dX1_fail_13 : decode cX1_fail 13 = .ok (.aload_n 0, 1) := by decide +kernel
theorem dX1_fail_14 : decode cX1_fail 14 = .ok (.getfield 32, 3) := by decide +kernel
theorem dX1_fail_17 : decode cX1_fail 17 = .ok (.invokevirtual 61, 3) := by decide +kernel
theorem dX1_fail_20 : decode cX1_fail 20 = .ok (.putfield 18, 3) := by decide +kernel
theorem dX1_fail_23 : decode cX1_fail 23 = .ok (.return_, 1) := by decide +kernel
theorem dX1_opened_0 : decode cX1_opened 0 = .ok (.aload_n 0, 1) := by decide +kernel
theorem dX1_opened_1 : decode cX1_opened 1 = .ok (.getfield 29, 3) := by decide +kernel
theorem dX1_opened_4 : decode cX1_opened 4 = .ok (.iconst 5, 1) := by decide +kernel
theorem dX1_opened_5 : decode cX1_opened 5 = .ok (.if_icmp .ge 11, 3) := by decide +kernel
theorem dX1_opened_8 : decode cX1_opened 8 = .ok (.aload_n 0, 1) := by decide +kernel
theorem dX1_opened_9 : decode cX1_opened 9 = .ok (.iload_n 1, 1) := by decide +kernel
theorem dX1_opened_10 : decode cX1_opened 10 = .ok (.invokevirtual 54, 3) := by decide +kernel
theorem dX1_opened_13 : decode cX1_opened 13 = .ok (.ifCond .ne 5, 3) := by decide +kernel
theorem dX1_opened_16 : decode cX1_opened 16 = .ok (.iconst 0, 1) := by decide +kernel
theorem dX1_opened_17 : decode cX1_opened 17 = .ok (.ireturn, 1) := by decide +kernel
theorem dX1_opened_18 : decode cX1_opened 18 = .ok (.aload_n 0, 1) := by decide +kernel
theorem dX1_opened_19 : decode cX1_opened 19 = .ok (.dup, 1) := by decide +kernel
theorem dX1_opened_20 : decode cX1_opened 20 = .ok (.getfield 32, 3) := by decide +kernel
theorem dX1_opened_23 : decode cX1_opened 23 = .ok (.iconst 1, 1) := by decide +kernel
theorem dX1_opened_24 : decode cX1_opened 24 = .ok (.iadd, 1) := by decide +kernel
theorem dX1_opened_25 : decode cX1_opened 25 = .ok (.putfield 32, 3) := by decide +kernel
theorem dX1_opened_28 : decode cX1_opened 28 = .ok (.aload_n 0, 1) := by decide +kernel
theorem dX1_opened_29 : decode cX1_opened 29 = .ok (.dup, 1) := by decide +kernel
theorem dX1_opened_30 : decode cX1_opened 30 = .ok (.getfield 29, 3) := by decide +kernel
theorem dX1_opened_33 : decode cX1_opened 33 = .ok (.iconst 1, 1) := by decide +kernel
theorem dX1_opened_34 : decode cX1_opened 34 = .ok (.iadd, 1) := by decide +kernel
theorem dX1_opened_35 : decode cX1_opened 35 = .ok (.putfield 29, 3) := by decide +kernel
theorem dX1_opened_38 : decode cX1_opened 38 = .ok (.iconst 1, 1) := by decide +kernel
theorem dX1_opened_39 : decode cX1_opened 39 = .ok (.ireturn, 1) := by decide +kernel
theorem dX1_either_0 : decode cX1_either 0 = .ok (.aload_n 0, 1) := by decide +kernel
theorem dX1_either_1 : decode cX1_either 1 = .ok (.invokevirtual 64, 3) := by decide +kernel
theorem dX1_either_4 : decode cX1_either 4 = .ok (.iconst 0, 1) := by decide +kernel
theorem dX1_either_5 : decode cX1_either 5 = .ok (.istore_n 1, 1) := by decide +kernel
theorem dX1_either_6 : decode cX1_either 6 = .ok (.iload_n 1, 1) := by decide +kernel
theorem dX1_either_7 : decode cX1_either 7 = .ok (.sipush 160, 3) := by decide +kernel
theorem dX1_either_10 : decode cX1_either 10 = .ok (.if_icmp .ge 32, 3) := by decide +kernel
theorem dX1_either_13 : decode cX1_either 13 = .ok (.aload_n 0, 1) := by decide +kernel
theorem dX1_either_14 : decode cX1_either 14 = .ok (.sipush 263, 3) := by decide +kernel
theorem dX1_either_17 : decode cX1_either 17 = .ok (.invokevirtual 67, 3) := by decide +kernel
theorem dX1_either_20 : decode cX1_either 20 = .ok (.ifCond .eq 22, 3) := by decide +kernel
theorem dX1_either_23 : decode cX1_either 23 = .ok (.aload_n 0, 1) := by decide +kernel
theorem dX1_either_24 : decode cX1_either 24 = .ok (.invokevirtual 64, 3) := by decide +kernel
theorem dX1_either_27 : decode cX1_either 27 = .ok (.aload_n 0, 1) := by decide +kernel
theorem dX1_either_28 : decode cX1_either 28 = .ok (.getfield 12, 3) := by decide +kernel
theorem dX1_either_31 : decode cX1_either 31 = .ok (.bipush (-11), 2) := by decide +kernel
theorem dX1_either_33 : decode cX1_either 33 = .ok (.invokevirtual 70, 3) := by decide +kernel
theorem dX1_either_36 : decode cX1_either 36 = .ok (.iinc 1 1, 3) := by decide +kernel
theorem dX1_either_39 : decode cX1_either 39 = .ok (.goto (-33), 3) := by decide +kernel
theorem dX1_either_42 : decode cX1_either 42 = .ok (.return_, 1) := by decide +kernel
theorem dX1_both_0 : decode cX1_both 0 = .ok (.aload_n 0, 1) := by decide +kernel
theorem dX1_both_1 : decode cX1_both 1 = .ok (.invokevirtual 73, 3) := by decide +kernel
theorem dX1_both_4 : decode cX1_both 4 = .ok (.iconst 0, 1) := by decide +kernel
theorem dX1_both_5 : decode cX1_both 5 = .ok (.istore_n 1, 1) := by decide +kernel
theorem dX1_both_6 : decode cX1_both 6 = .ok (.iload_n 1, 1) := by decide +kernel
theorem dX1_both_7 : decode cX1_both 7 = .ok (.sipush 160, 3) := by decide +kernel
theorem dX1_both_10 : decode cX1_both 10 = .ok (.if_icmp .ge 32, 3) := by decide +kernel
theorem dX1_both_13 : decode cX1_both 13 = .ok (.aload_n 0, 1) := by decide +kernel
theorem dX1_both_14 : decode cX1_both 14 = .ok (.sipush 264, 3) := by decide +kernel
theorem dX1_both_17 : decode cX1_both 17 = .ok (.invokevirtual 67, 3) := by decide +kernel
theorem dX1_both_20 : decode cX1_both 20 = .ok (.ifCond .eq 22, 3) := by decide +kernel
theorem dX1_both_23 : decode cX1_both 23 = .ok (.aload_n 0, 1) := by decide +kernel
theorem dX1_both_24 : decode cX1_both 24 = .ok (.invokevirtual 73, 3) := by decide +kernel
theorem dX1_both_27 : decode cX1_both 27 = .ok (.aload_n 0, 1) := by decide +kernel
theorem dX1_both_28 : decode cX1_both 28 = .ok (.getfield 12, 3) := by decide +kernel
theorem dX1_both_31 : decode cX1_both 31 = .ok (.bipush (-12), 2) := by decide +kernel
theorem dX1_both_33 : decode cX1_both 33 = .ok (.invokevirtual 70, 3) := by decide +kernel
theorem dX1_both_36 : decode cX1_both 36 = .ok (.iinc 1 1, 3) := by decide +kernel
theorem dX1_both_39 : decode cX1_both 39 = .ok (.goto (-33), 3) := by decide +kernel
theorem dX1_both_42 : decode cX1_both 42 = .ok (.return_, 1) := by decide +kernel
theorem dX1_negated_0 : decode cX1_negated 0 = .ok (.aload_n 0, 1) := by decide +kernel
theorem dX1_negated_1 : decode cX1_negated 1 = .ok (.sipush 265, 3) := by decide +kernel
theorem dX1_negated_4 : decode cX1_negated 4 = .ok (.invokevirtual 76, 3) := by decide +kernel
theorem dX1_negated_7 : decode cX1_negated 7 = .ok (.ifCond .eq 27, 3) := by decide +kernel
theorem dX1_negated_10 : decode cX1_negated 10 = .ok (.aload_n 0, 1) := by decide +kernel
theorem dX1_negated_11 : decode cX1_negated 11 = .ok (.invokevirtual 73, 3) := by decide +kernel
theorem dX1_negated_14 : decode cX1_negated 14 = .ok (.aload_n 0, 1) := by decide +kernel
theorem dX1_negated_15 : decode cX1_negated 15 = .ok (.getfield 12, 3) := by decide +kernel
theorem dX1_negated_18 : decode cX1_negated 18 = .ok (.bipush (-13), 2) := by decide +kernel
theorem dX1_negated_20 : decode cX1_negated 20 = .ok (.invokevirtual 70, 3) := by decide +kernel
theorem dX1_negated_23 : decode cX1_negated 23 = .ok (.aload_n 0, 1) := by decide +kernel
theorem dX1_negated_24 : decode cX1_negated 24 = .ok (.dup, 1) := by decide +kernel
theorem dX1_negated_25 : decode cX1_negated 25 = .ok (.getfield 29, 3) := by decide +kernel
theorem dX1_negated_28 : decode cX1_negated 28 = .ok (.iconst 1, 1) := by decide +kernel
theorem dX1_negated_29 : decode cX1_negated 29 = .ok (.isub, 1) := by decide +kernel
theorem dX1_negated_30 : decode cX1_negated 30 = .ok (.putfield 29, 3) := by decide +kernel
theorem dX1_negated_33 : decode cX1_negated 33 = .ok (.return_, 1) := by decide +kernel
theorem dX1_negated_34 : decode cX1_negated 34 = .ok (.aload_n 0, 1) := by decide +kernel
theorem dX1_negated_35 : decode cX1_negated 35 = .ok (.invokevirtual 79, 3) := by decide +kernel
theorem dX1_negated_38 : decode cX1_negated 38 = .ok (.aload_n 0, 1) := by decide +kernel
theorem dX1_negated_39 : decode cX1_negated 39 = .ok (.bipush 60, 2) := by decide +kernel
theorem dX1_negated_41 : decode cX1_negated 41 = .ok (.invokevirtual 67, 3) := by decide +kernel
theorem dX1_negated_44 : decode cX1_negated 44 = .ok (.ifCond .eq 19, 3) := by decide +kernel
theorem dX1_negated_47 : decode cX1_negated 47 = .ok (.aload_n 0, 1) := by decide +kernel
theorem dX1_negated_48 : decode cX1_negated 48 = .ok (.invokevirtual 79, 3) := by decide +kernel
theorem dX1_negated_51 : decode cX1_negated 51 = .ok (.aload_n 0, 1) := by decide +kernel
theorem dX1_negated_52 : decode cX1_negated 52 = .ok (.getfield 12, 3) := by decide +kernel
theorem dX1_negated_55 : decode cX1_negated 55 = .ok (.bipush (-14), 2) := by decide +kernel
theorem dX1_negated_57 : decode cX1_negated 57 = .ok (.invokevirtual 70, 3) := by decide +kernel
theorem dX1_negated_60 : decode cX1_negated 60 = .ok (.goto 25, 3) := by decide +kernel
theorem dX1_negated_63 : decode cX1_negated 63 = .ok (.aload_n 0, 1) := by decide +kernel
theorem dX1_negated_64 : decode cX1_negated 64 = .ok (.bipush 61, 2) := by decide +kernel
theorem dX1_negated_66 : decode cX1_negated 66 = .ok (.invokevirtual 67, 3) := by decide +kernel
theorem dX1_negated_69 : decode cX1_negated 69 = .ok (.ifCond .eq 16, 3) := by decide +kernel
theorem dX1_negated_72 : decode cX1_negated 72 = .ok (.aload_n 0, 1) := by decide +kernel
theorem dX1_negated_73 : decode cX1_negated 73 = .ok (.invokevirtual 79, 3) := by decide +kernel
theorem dX1_negated_76 : decode cX1_negated 76 = .ok (.aload_n 0, 1) := by decide +kernel
theorem dX1_negated_77 : decode cX1_negated 77 = .ok (.getfield 12, 3) := by decide +kernel
theorem dX1_negated_80 : decode cX1_negated 80 = .ok (.bipush (-15), 2) := by decide +kernel
theorem dX1_negated_82 : decode cX1_negated 82 = .ok (.invokevirtual 70, 3) := by decide +kernel
theorem dX1_negated_85 : decode cX1_negated 85 = .ok (.return_, 1) := by decide +kernel
theorem dX1_summed_0 : decode cX1_summed 0 = .ok (.aload_n 0, 1) := by decide +kernel
theorem dX1_summed_1 : decode cX1_summed 1 = .ok (.invokevirtual 82, 3) := by decide +kernel
theorem dX1_summed_4 : decode cX1_summed 4 = .ok (.iconst 0, 1) := by decide +kernel
theorem dX1_summed_5 : decode cX1_summed 5 = .ok (.istore_n 1, 1) := by decide +kernel
theorem dX1_summed_6 : decode cX1_summed 6 = .ok (.iload_n 1, 1) := by decide +kernel
theorem dX1_summed_7 : decode cX1_summed 7 = .ok (.sipush 160, 3) := by decide +kernel
theorem dX1_summed_10 : decode cX1_summed 10 = .ok (.if_icmp .ge 66, 3) := by decide +kernel
theorem dX1_summed_13 : decode cX1_summed 13 = .ok (.aload_n 0, 1) := by decide +kernel
theorem dX1_summed_14 : decode cX1_summed 14 = .ok (.bipush 43, 2) := by decide +kernel
theorem dX1_summed_16 : decode cX1_summed 16 = .ok (.invokevirtual 54, 3) := by decide +kernel
theorem dX1_summed_19 : decode cX1_summed 19 = .ok (.ifCond .ne 12, 3) := by decide +kernel
theorem dX1_summed_22 : decode cX1_summed 22 = .ok (.aload_n 0, 1) := by decide +kernel
theorem dX1_summed_23 : decode cX1_summed 23 = .ok (.bipush 45, 2) := by decide +kernel
theorem dX1_summed_25 : decode cX1_summed 25 = .ok (.invokevirtual 54, 3) := by decide +kernel
theorem dX1_summed_28 : decode cX1_summed 28 = .ok (.ifCond .eq 48, 3) := by decide +kernel
theorem dX1_summed_31 : decode cX1_summed 31 = .ok (.aload_n 0, 1) := by decide +kernel
theorem dX1_summed_32 : decode cX1_summed 32 = .ok (.bipush 43, 2) := by decide +kernel
theorem dX1_summed_34 : decode cX1_summed 34 = .ok (.invokevirtual 54, 3) := by decide +kernel
theorem dX1_summed_37 : decode cX1_summed 37 = .ok (.ifCond .eq 8, 3) := by decide +kernel
theorem dX1_summed_40 : decode cX1_summed 40 = .ok (.bipush (-16), 2) := by decide +kernel
theorem dX1_summed_42 : decode cX1_summed 42 = .ok (.goto 5, 3) := by decide +kernel
theorem dX1_summed_45 : decode cX1_summed 45 = .ok (.bipush (-17), 2) := by decide +kernel
theorem dX1_summed_47 : decode cX1_summed 47 = .ok (.istore_n 2, 1) := by decide +kernel
theorem dX1_summed_48 : decode cX1_summed 48 = .ok (.aload_n 0, 1) := by decide +kernel
theorem dX1_summed_49 : decode cX1_summed 49 = .ok (.dup, 1) := by decide +kernel
theorem dX1_summed_50 : decode cX1_summed 50 = .ok (.getfield 32, 3) := by decide +kernel
theorem dX1_summed_53 : decode cX1_summed 53 = .ok (.iconst 1, 1) := by decide +kernel
theorem dX1_summed_54 : decode cX1_summed 54 = .ok (.iadd, 1) := by decide +kernel
theorem dX1_summed_55 : decode cX1_summed 55 = .ok (.putfield 32, 3) := by decide +kernel
theorem dX1_summed_58 : decode cX1_summed 58 = .ok (.aload_n 0, 1) := by decide +kernel
theorem dX1_summed_59 : decode cX1_summed 59 = .ok (.invokevirtual 82, 3) := by decide +kernel
theorem dX1_summed_62 : decode cX1_summed 62 = .ok (.aload_n 0, 1) := by decide +kernel
theorem dX1_summed_63 : decode cX1_summed 63 = .ok (.getfield 12, 3) := by decide +kernel
theorem dX1_summed_66 : decode cX1_summed 66 = .ok (.iload_n 2, 1) := by decide +kernel
theorem dX1_summed_67 : decode cX1_summed 67 = .ok (.invokevirtual 70, 3) := by decide +kernel
theorem dX1_summed_70 : decode cX1_summed 70 = .ok (.iinc 1 1, 3) := by decide +kernel
theorem dX1_summed_73 : decode cX1_summed 73 = .ok (.goto (-67), 3) := by decide +kernel
theorem dX1_summed_76 : decode cX1_summed 76 = .ok (.return_, 1) := by decide +kernel
theorem dX1_term_0 : decode cX1_term 0 = .ok (.aload_n 0, 1) := by decide +kernel
theorem dX1_term_1 : decode cX1_term 1 = .ok (.invokevirtual 85, 3) := by decide +kernel
theorem dX1_term_4 : decode cX1_term 4 = .ok (.iconst 0, 1) := by decide +kernel
theorem dX1_term_5 : decode cX1_term 5 = .ok (.istore_n 1, 1) := by decide +kernel
theorem dX1_term_6 : decode cX1_term 6 = .ok (.iload_n 1, 1) := by decide +kernel
theorem dX1_term_7 : decode cX1_term 7 = .ok (.sipush 160, 3) := by decide +kernel
theorem dX1_term_10 : decode cX1_term 10 = .ok (.if_icmp .ge 31, 3) := by decide +kernel
theorem dX1_term_13 : decode cX1_term 13 = .ok (.aload_n 0, 1) := by decide +kernel
theorem dX1_term_14 : decode cX1_term 14 = .ok (.bipush 42, 2) := by decide +kernel
theorem dX1_term_16 : decode cX1_term 16 = .ok (.invokevirtual 67, 3) := by decide +kernel
theorem dX1_term_19 : decode cX1_term 19 = .ok (.ifCond .eq 22, 3) := by decide +kernel
theorem dX1_term_22 : decode cX1_term 22 = .ok (.aload_n 0, 1) := by decide +kernel
theorem dX1_term_23 : decode cX1_term 23 = .ok (.invokevirtual 85, 3) := by decide +kernel
theorem dX1_term_26 : decode cX1_term 26 = .ok (.aload_n 0, 1) := by decide +kernel
theorem dX1_term_27 : decode cX1_term 27 = .ok (.getfield 12, 3) := by decide +kernel
theorem dX1_term_30 : decode cX1_term 30 = .ok (.bipush (-18), 2) := by decide +kernel
theorem dX1_term_32 : decode cX1_term 32 = .ok (.invokevirtual 70, 3) := by decide +kernel
theorem dX1_term_35 : decode cX1_term 35 = .ok (.iinc 1 1, 3) := by decide +kernel
theorem dX1_term_38 : decode cX1_term 38 = .ok (.goto (-32), 3) := by decide +kernel
theorem dX1_term_41 : decode cX1_term 41 = .ok (.return_, 1) := by decide +kernel
theorem dX1_one_0 : decode cX1_one 0 = .ok (.aload_n 0, 1) := by decide +kernel
theorem dX1_one_1 : decode cX1_one 1 = .ok (.bipush 45, 2) := by decide +kernel
theorem dX1_one_3 : decode cX1_one 3 = .ok (.invokevirtual 76, 3) := by decide +kernel
theorem dX1_one_6 : decode cX1_one 6 = .ok (.ifCond .eq 29, 3) := by decide +kernel
theorem dX1_one_9 : decode cX1_one 9 = .ok (.aload_n 0, 1) := by decide +kernel
theorem dX1_one_10 : decode cX1_one 10 = .ok (.invokevirtual 85, 3) := by decide +kernel
theorem dX1_one_13 : decode cX1_one 13 = .ok (.aload_n 0, 1) := by decide +kernel
theorem dX1_one_14 : decode cX1_one 14 = .ok (.getfield 12, 3) := by decide +kernel
theorem dX1_one_17 : decode cX1_one 17 = .ok (.bipush (-19), 2) := by decide +kernel
theorem dX1_one_19 : decode cX1_one 19 = .ok (.invokevirtual 70, 3) := by decide +kernel
theorem dX1_one_22 : decode cX1_one 22 = .ok (.aload_n 0, 1) := by decide +kernel
theorem dX1_one_23 : decode cX1_one 23 = .ok (.dup, 1) := by decide +kernel
theorem dX1_one_24 : decode cX1_one 24 = .ok (.getfield 29, 3) := by decide +kernel
theorem dX1_one_27 : decode cX1_one 27 = .ok (.iconst 1, 1) := by decide +kernel
theorem dX1_one_28 : decode cX1_one 28 = .ok (.isub, 1) := by decide +kernel
theorem dX1_one_29 : decode cX1_one 29 = .ok (.putfield 29, 3) := by decide +kernel
theorem dX1_one_32 : decode cX1_one 32 = .ok (.goto 39, 3) := by decide +kernel
theorem dX1_one_35 : decode cX1_one 35 = .ok (.aload_n 0, 1) := by decide +kernel
theorem dX1_one_36 : decode cX1_one 36 = .ok (.bipush 40, 2) := by decide +kernel
theorem dX1_one_38 : decode cX1_one 38 = .ok (.invokevirtual 76, 3) := by decide +kernel
theorem dX1_one_41 : decode cX1_one 41 = .ok (.ifCond .eq 26, 3) := by decide +kernel
theorem dX1_one_44 : decode cX1_one 44 = .ok (.aload_n 0, 1) := by decide +kernel
theorem dX1_one_45 : decode cX1_one 45 = .ok (.invokevirtual 44, 3) := by decide +kernel
theorem dX1_one_48 : decode cX1_one 48 = .ok (.aload_n 0, 1) := by decide +kernel
theorem dX1_one_49 : decode cX1_one 49 = .ok (.bipush 41, 2) := by decide +kernel
theorem dX1_one_51 : decode cX1_one 51 = .ok (.invokevirtual 41, 3) := by decide +kernel
theorem dX1_one_54 : decode cX1_one 54 = .ok (.aload_n 0, 1) := by decide +kernel
theorem dX1_one_55 : decode cX1_one 55 = .ok (.dup, 1) := by decide +kernel
theorem dX1_one_56 : decode cX1_one 56 = .ok (.getfield 29, 3) := by decide +kernel
theorem dX1_one_59 : decode cX1_one 59 = .ok (.iconst 1, 1) := by decide +kernel
theorem dX1_one_60 : decode cX1_one 60 = .ok (.isub, 1) := by decide +kernel
theorem dX1_one_61 : decode cX1_one 61 = .ok (.putfield 29, 3) := by decide +kernel
theorem dX1_one_64 : decode cX1_one 64 = .ok (.goto 7, 3) := by decide +kernel
theorem dX1_one_67 : decode cX1_one 67 = .ok (.aload_n 0, 1) := by decide +kernel
theorem dX1_one_68 : decode cX1_one 68 = .ok (.invokevirtual 88, 3) := by decide +kernel
theorem dX1_one_71 : decode cX1_one 71 = .ok (.return_, 1) := by decide +kernel
theorem dX1_numberOrName_0 : decode cX1_numberOrName 0 = .ok (.aload_n 0, 1) := by decide +kernel
theorem dX1_numberOrName_1 : decode cX1_numberOrName 1 = .ok (.getfield 18, 3) := by decide +kernel
theorem dX1_numberOrName_4 : decode cX1_numberOrName 4 = .ok (.iconst (-1), 1) := by decide +kernel
theorem dX1_numberOrName_5 : decode cX1_numberOrName 5 = .ok (.if_icmp .ne 17, 3) := by decide +kernel
theorem dX1_numberOrName_8 : decode cX1_numberOrName 8 = .ok (.aload_n 0, 1) := by decide +kernel
theorem dX1_numberOrName_9 : decode cX1_numberOrName 9 = .ok (.getfield 22, 3) := by decide +kernel
theorem dX1_numberOrName_12 : decode cX1_numberOrName 12 = .ok (.aload_n 0, 1) := by decide +kernel
theorem dX1_numberOrName_13 : decode cX1_numberOrName 13 = .ok (.getfield 32, 3) := by decide +kernel
theorem dX1_numberOrName_16 : decode cX1_numberOrName 16 = .ok (.invokevirtual 50, 3) := by decide +kernel
theorem dX1_numberOrName_19 : decode cX1_numberOrName 19 = .ok (.goto 6, 3) := by decide +kernel
theorem dX1_numberOrName_22 : decode cX1_numberOrName 22 = .ok (.sipush 257, 3) := by decide +kernel
theorem dX1_numberOrName_25 : decode cX1_numberOrName 25 = .ok (.istore_n 1, 1) := by decide +kernel
theorem dX1_numberOrName_26 : decode cX1_numberOrName 26 = .ok (.iload_n 1, 1) := by decide +kernel
theorem dX1_numberOrName_27 : decode cX1_numberOrName 27 = .ok (.sipush 1000, 3) := by decide +kernel
theorem dX1_numberOrName_30 : decode cX1_numberOrName 30 = .ok (.if_icmp .lt 18, 3) := by decide +kernel
theorem dX1_numberOrName_33 : decode cX1_numberOrName 33 = .ok (.aload_n 0, 1) := by decide +kernel
theorem dX1_numberOrName_34 : decode cX1_numberOrName 34 = .ok (.getfield 12, 3) := by decide +kernel
theorem dX1_numberOrName_37 : decode cX1_numberOrName 37 = .ok (.iload_n 1, 1) := by decide +kernel
theorem dX1_numberOrName_38 : decode cX1_numberOrName 38 = .ok (.sipush 1000, 3) := by decide +kernel
theorem dX1_numberOrName_41 : decode cX1_numberOrName 41 = .ok (.isub, 1) := by decide +kernel
theorem dX1_numberOrName_42 : decode cX1_numberOrName 42 = .ok (.invokevirtual 70, 3) := by decide +kernel
theorem dX1_numberOrName_45 : decode cX1_numberOrName 45 = .ok (.goto 36, 3) := by decide +kernel
theorem dX1_numberOrName_48 : decode cX1_numberOrName 48 = .ok (.iload_n 1, 1) := by decide +kernel
theorem dX1_numberOrName_49 : decode cX1_numberOrName 49 = .ok (.sipush 270, 3) := by decide +kernel
theorem dX1_numberOrName_52 : decode cX1_numberOrName 52 = .ok (.isub, 1) := by decide +kernel
theorem dX1_numberOrName_53 : decode cX1_numberOrName 53 = .ok (.bipush 6, 2) := by decide +kernel
theorem dX1_numberOrName_55 : decode cX1_numberOrName 55 = .ok (.invokestatic 91, 3) := by decide +kernel
theorem dX1_numberOrName_58 : decode cX1_numberOrName 58 = .ok (.ifCond .eq 18, 3) := by decide +kernel
theorem dX1_numberOrName_61 : decode cX1_numberOrName 61 = .ok (.aload_n 0, 1) := by decide +kernel
theorem dX1_numberOrName_62 : decode cX1_numberOrName 62 = .ok (.getfield 12, 3) := by decide +kernel
theorem dX1_numberOrName_65 : decode cX1_numberOrName 65 = .ok (.iload_n 1, 1) := by decide +kernel
theorem dX1_numberOrName_66 : decode cX1_numberOrName 66 = .ok (.sipush 270, 3) := by decide +kernel
theorem dX1_numberOrName_69 : decode cX1_numberOrName 69 = .ok (.isub, 1) := by decide +kernel
theorem dX1_numberOrName_70 : decode cX1_numberOrName 70 = .ok (.invokevirtual 95, 3) := by decide +kernel
theorem dX1_numberOrName_73 : decode cX1_numberOrName 73 = .ok (.goto 8, 3) := by decide +kernel
theorem dX1_numberOrName_76 : decode cX1_numberOrName 76 = .ok (.aload_n 0, 1) := by decide +kernel
theorem dX1_numberOrName_77 : decode cX1_numberOrName 77 = .ok (.invokevirtual 58, 3) := by decide +kernel
theorem dX1_numberOrName_80 : decode cX1_numberOrName 80 = .ok (.return_, 1) := by decide +kernel
theorem dX1_numberOrName_81 : decode cX1_numberOrName 81 = .ok (.aload_n 0, 1) := by decide +kernel
theorem dX1_numberOrName_82 : decode cX1_numberOrName 82 = .ok (.dup, 1) := by decide +kernel
theorem dX1_numberOrName_83 : decode cX1_numberOrName 83 = .ok (.getfield 32, 3) := by decide +kernel
theorem dX1_numberOrName_86 : decode cX1_numberOrName 86 = .ok (.iconst 1, 1) := by decide +kernel
theorem dX1_numberOrName_87 : decode cX1_numberOrName 87 = .ok (.iadd, 1) := by decide +kernel
theorem dX1_numberOrName_88 : decode cX1_numberOrName 88 = .ok (.putfield 32, 3) := by decide +kernel
theorem dX1_numberOrName_91 : decode cX1_numberOrName 91 = .ok (.return_, 1) := by decide +kernel
theorem dX2_init_0 : decode cX2_init 0 = .ok (.aload_n 0, 1) := by decide +kernel
theorem dX2_init_1 : decode cX2_init 1 = .ok (.invokespecial 3, 3) := by decide +kernel
theorem dX2_init_4 : decode cX2_init 4 = .ok (.aload_n 0, 1) := by decide +kernel
theorem dX2_init_5 : decode cX2_init 5 = .ok (.bipush 16, 2) := by decide +kernel
theorem dX2_init_7 : decode cX2_init 7 = .ok (.newarray .int, 2) := by decide +kernel
theorem dX2_init_9 : decode cX2_init 9 = .ok (.putfield 9, 3) := by decide +kernel
theorem dX2_init_12 : decode cX2_init 12 = .ok (.aload_n 0, 1) := by decide +kernel
theorem dX2_init_13 : decode cX2_init 13 = .ok (.bipush 16, 2) := by decide +kernel
theorem dX2_init_15 : decode cX2_init 15 = .ok (.newarray .int, 2) := by decide +kernel
theorem dX2_init_17 : decode cX2_init 17 = .ok (.putfield 15, 3) := by decide +kernel
theorem dX2_init_20 : decode cX2_init 20 = .ok (.aload_n 0, 1) := by decide +kernel
theorem dX2_init_21 : decode cX2_init 21 = .ok (.new 18, 3) := by decide +kernel
theorem dX2_init_24 : decode cX2_init 24 = .ok (.dup, 1) := by decide +kernel
theorem dX2_init_25 : decode cX2_init 25 = .ok (.bipush 64, 2) := by decide +kernel
theorem dX2_init_27 : decode cX2_init 27 = .ok (.invokespecial 20, 3) := by decide +kernel
theorem dX2_init_30 : decode cX2_init 30 = .ok (.putfield 23, 3) := by decide +kernel
theorem dX2_init_33 : decode cX2_init 33 = .ok (.aload_n 0, 1) := by decide +kernel
theorem dX2_init_34 : decode cX2_init 34 = .ok (.new 18, 3) := by decide +kernel
theorem dX2_init_37 : decode cX2_init 37 = .ok (.dup, 1) := by decide +kernel
theorem dX2_init_38 : decode cX2_init 38 = .ok (.bipush 64, 2) := by decide +kernel
theorem dX2_init_40 : decode cX2_init 40 = .ok (.invokespecial 20, 3) := by decide +kernel
theorem dX2_init_43 : decode cX2_init 43 = .ok (.putfield 27, 3) := by decide +kernel
theorem dX2_init_46 : decode cX2_init 46 = .ok (.aload_n 0, 1) := by decide +kernel
theorem dX2_init_47 : decode cX2_init 47 = .ok (.new 18, 3) := by decide +kernel
theorem dX2_init_50 : decode cX2_init 50 = .ok (.dup, 1) := by decide +kernel
theorem dX2_init_51 : decode cX2_init 51 = .ok (.bipush 64, 2) := by decide +kernel
theorem dX2_init_53 : decode cX2_init 53 = .ok (.invokespecial 20, 3) := by decide +kernel
theorem dX2_init_56 : decode cX2_init 56 = .ok (.putfield 30, 3) := by decide +kernel
theorem dX2_init_59 : decode cX2_init 59 = .ok (.aload_n 0, 1) := by decide +kernel
theorem dX2_init_60 : decode cX2_init 60 = .ok (.new 18, 3) := by decide +kernel
theorem dX2_init_63 : decode cX2_init 63 = .ok (.dup, 1) := by decide +kernel
theorem dX2_init_64 : decode cX2_init 64 = .ok (.bipush 64, 2) := by decide +kernel
theorem dX2_init_66 : decode cX2_init 66 = .ok (.invokespecial 20, 3) := by decide +kernel
theorem dX2_init_69 : decode cX2_init 69 = .ok (.putfield 33, 3) := by decide +kernel
theorem dX2_init_72 : decode cX2_init 72 = .ok (.aload_n 0, 1) := by decide +kernel
theorem dX2_init_73 : decode cX2_init 73 = .ok (.new 18, 3) := by decide +kernel
theorem dX2_init_76 : decode cX2_init 76 = .ok (.dup, 1) := by decide +kernel
theorem dX2_init_77 : decode cX2_init 77 = .ok (.bipush 64, 2) := by decide +kernel
theorem dX2_init_79 : decode cX2_init 79 = .ok (.invokespecial 20, 3) := by decide +kernel
theorem dX2_init_82 : decode cX2_init 82 = .ok (.putfield 36, 3) := by decide +kernel
theorem dX2_init_85 : decode cX2_init 85 = .ok (.aload_n 0, 1) := by decide +kernel
theorem dX2_init_86 : decode cX2_init 86 = .ok (.aload_n 1, 1) := by decide +kernel
theorem dX2_init_87 : decode cX2_init 87 = .ok (.putfield 39, 3) := by decide +kernel
theorem dX2_init_90 : decode cX2_init 90 = .ok (.aload_n 0, 1) := by decide +kernel
theorem dX2_init_91 : decode cX2_init 91 = .ok (.aload_n 2, 1) := by decide +kernel
theorem dX2_init_92 : decode cX2_init 92 = .ok (.putfield 43, 3) := by decide +kernel
theorem dX2_init_95 : decode cX2_init 95 = .ok (.return_, 1) := by decide +kernel
theorem dX2_size_0 : decode cX2_size 0 = .ok (.aload_n 0, 1) := by decide +kernel
theorem dX2_size_1 : decode cX2_size 1 = .ok (.getfield 47, 3) := by decide +kernel
theorem dX2_size_4 : decode cX2_size 4 = .ok (.ireturn, 1) := by decide +kernel
theorem dX2_wipe_0 : decode cX2_wipe 0 = .ok (.aload_n 0, 1) := by decide +kernel
theorem dX2_wipe_1 : decode cX2_wipe 1 = .ok (.iconst 0, 1) := by decide +kernel
theorem dX2_wipe_2 : decode cX2_wipe 2 = .ok (.putfield 47, 3) := by decide +kernel
theorem dX2_wipe_5 : decode cX2_wipe 5 = .ok (.return_, 1) := by decide +kernel
theorem dX2_append_0 : decode cX2_append 0 = .ok (.aload_n 0, 1) := by decide +kernel
theorem dX2_append_1 : decode cX2_append 1 = .ok (.getfield 47, 3) := by decide +kernel
theorem dX2_append_4 : decode cX2_append 4 = .ok (.bipush 16, 2) := by decide +kernel
theorem dX2_append_6 : decode cX2_append 6 = .ok (.if_icmp .ge 33, 3) := by decide +kernel
theorem dX2_append_9 : decode cX2_append 9 = .ok (.aload_n 0, 1) := by decide +kernel
theorem dX2_append_10 : decode cX2_append 10 = .ok (.getfield 9, 3) := by decide +kernel
theorem dX2_append_13 : decode cX2_append 13 = .ok (.aload_n 0, 1) := by decide +kernel
theorem dX2_append_14 : decode cX2_append 14 = .ok (.getfield 47, 3) := by decide +kernel
theorem dX2_append_17 : decode cX2_append 17 = .ok (.iload_n 1, 1) := by decide +kernel
theorem dX2_append_18 : decode cX2_append 18 = .ok (.iastore, 1) := by decide +kernel
theorem dX2_append_19 : decode cX2_append 19 = .ok (.aload_n 0, 1) := by decide +kernel
theorem dX2_append_20 : decode cX2_append 20 = .ok (.getfield 15, 3) := by decide +kernel
theorem dX2_append_23 : decode cX2_append 23 = .ok (.aload_n 0, 1) := by decide +kernel
theorem dX2_append_24 : decode cX2_append 24 = .ok (.getfield 47, 3) := by decide +kernel
theorem dX2_append_27 : decode cX2_append 27 = .ok (.iconst 0, 1) := by decide +kernel
theorem dX2_append_28 : decode cX2_append 28 = .ok (.iastore, 1) := by decide +kernel
theorem dX2_append_29 : decode cX2_append 29 = .ok (.aload_n 0, 1) := by decide +kernel
theorem dX2_append_30 : decode cX2_append 30 = .ok (.dup, 1) := by decide +kernel
theorem dX2_append_31 : decode cX2_append 31 = .ok (.getfield 47, 3) := by decide +kernel
theorem dX2_append_34 : decode cX2_append 34 = .ok (.iconst 1, 1) := by decide +kernel
theorem dX2_append_35 : decode cX2_append 35 = .ok (.iadd, 1) := by decide +kernel
theorem dX2_append_36 : decode cX2_append 36 = .ok (.putfield 47, 3) := by decide +kernel
theorem dX2_append_39 : decode cX2_append 39 = .ok (.return_, 1) := by decide +kernel
theorem dX2_numberOf_0 : decode cX2_numberOf 0 = .ok (.iload_n 1, 1) := by decide +kernel
theorem dX2_numberOf_1 : decode cX2_numberOf 1 = .ok (.aload_n 0, 1) := by decide +kernel
theorem dX2_numberOf_2 : decode cX2_numberOf 2 = .ok (.getfield 47, 3) := by decide +kernel
theorem dX2_numberOf_5 : decode cX2_numberOf 5 = .ok (.invokestatic 51, 3) := by decide +kernel
theorem dX2_numberOf_8 : decode cX2_numberOf 8 = .ok (.ifCond .eq 12, 3) := by decide +kernel
theorem dX2_numberOf_11 : decode cX2_numberOf 11 = .ok (.aload_n 0, 1) := by decide +kernel
theorem dX2_numberOf_12 : decode cX2_numberOf 12 = .ok (.getfield 9, 3) := by decide +kernel
theorem dX2_numberOf_15 : decode cX2_numberOf 15 = .ok (.iload_n 1, 1) := by decide +kernel
theorem dX2_numberOf_16 : decode cX2_numberOf 16 = .ok (.iaload, 1) := by decide +kernel
theorem dX2_numberOf_17 : decode cX2_numberOf 17 = .ok (.goto 4, 3) := by decide +kernel
theorem dX2_numberOf_20 : decode cX2_numberOf 20 = .ok (.iconst 0, 1) := by decide +kernel
theorem dX2_numberOf_21 : decode cX2_numberOf 21 = .ok (.ireturn, 1) := by decide +kernel
theorem dX2_valueOf_0 : decode cX2_valueOf 0 = .ok (.iload_n 1, 1) := by decide +kernel
theorem dX2_valueOf_1 : decode cX2_valueOf 1 = .ok (.aload_n 0, 1) := by decide +kernel
theorem dX2_valueOf_2 : decode cX2_valueOf 2 = .ok (.getfield 47, 3) := by decide +kernel
theorem dX2_valueOf_5 : decode cX2_valueOf 5 = .ok (.invokestatic 51, 3) := by decide +kernel
theorem dX2_valueOf_8 : decode cX2_valueOf 8 = .ok (.ifCond .eq 12, 3) := by decide +kernel
theorem dX2_valueOf_11 : decode cX2_valueOf 11 = .ok (.aload_n 0, 1) := by decide +kernel
theorem dX2_valueOf_12 : decode cX2_valueOf 12 = .ok (.getfield 15, 3) := by decide +kernel
theorem dX2_valueOf_15 : decode cX2_valueOf 15 = .ok (.iload_n 1, 1) := by decide +kernel
theorem dX2_valueOf_16 : decode cX2_valueOf 16 = .ok (.iaload, 1) := by decide +kernel
theorem dX2_valueOf_17 : decode cX2_valueOf 17 = .ok (.goto 4, 3) := by decide +kernel
theorem dX2_valueOf_20 : decode cX2_valueOf 20 = .ok (.iconst 0, 1) := by decide +kernel
theorem dX2_valueOf_21 : decode cX2_valueOf 21 = .ok (.ireturn, 1) := by decide +kernel
theorem dX2_give_0 : decode cX2_give 0 = .ok (.iload_n 1, 1) := by decide +kernel
theorem dX2_give_1 : decode cX2_give 1 = .ok (.aload_n 0, 1) := by decide +kernel
theorem dX2_give_2 : decode cX2_give 2 = .ok (.getfield 47, 3) := by decide +kernel
theorem dX2_give_5 : decode cX2_give 5 = .ok (.invokestatic 51, 3) := by decide +kernel
theorem dX2_give_8 : decode cX2_give 8 = .ok (.ifCond .eq 10, 3) := by decide +kernel
theorem dX2_give_11 : decode cX2_give 11 = .ok (.aload_n 0, 1) := by decide +kernel
theorem dX2_give_12 : decode cX2_give 12 = .ok (.getfield 15, 3) := by decide +kernel
theorem dX2_give_15 : decode cX2_give 15 = .ok (.iload_n 1, 1) := by decide +kernel
theorem dX2_give_16 : decode cX2_give 16 = .ok (.iload_n 2, 1) := by decide +kernel
theorem dX2_give_17 : decode cX2_give 17 = .ok (.iastore, 1) := by decide +kernel
theorem dX2_give_18 : decode cX2_give 18 = .ok (.return_, 1) := by decide +kernel
theorem dX2_timesAhead_0 : decode cX2_timesAhead 0 = .ok (.iconst 0, 1) := by decide +kernel
theorem dX2_timesAhead_1 : decode cX2_timesAhead 1 = .ok (.istore_n 2, 1) := by decide +kernel
theorem dX2_timesAhead_2 : decode cX2_timesAhead 2 = .ok (.iconst 0, 1) := by decide +kernel
theorem dX2_timesAhead_3 : decode cX2_timesAhead 3 = .ok (.istore_n 3, 1) := by decide +kernel
theorem dX2_timesAhead_4 : decode cX2_timesAhead 4 = .ok (.iload_n 3, 1) := by decide +kernel
theorem dX2_timesAhead_5 : decode cX2_timesAhead 5 = .ok (.iload_n 1, 1) := by decide +kernel
theorem dX2_timesAhead_6 : decode cX2_timesAhead 6 = .ok (.if_icmp .ge 25, 3) := by decide +kernel
theorem dX2_timesAhead_9 : decode cX2_timesAhead 9 = .ok (.aload_n 0, 1) := by decide +kernel
theorem dX2_timesAhead_10 : decode cX2_timesAhead 10 = .ok (.iload_n 3, 1) := by decide +kernel
theorem dX2_timesAhead_11 : decode cX2_timesAhead 11 = .ok (.invokevirtual 55, 3) := by decide +kernel
theorem dX2_timesAhead_14 : decode cX2_timesAhead 14 = .ok (.aload_n 0, 1) := by decide +kernel
theorem dX2_timesAhead_15 : decode cX2_timesAhead 15 = .ok (.iload_n 1, 1) := by decide +kernel
theorem dX2_timesAhead_16 : decode cX2_timesAhead 16 = .ok (.invokevirtual 55, 3) := by decide +kernel
theorem dX2_timesAhead_19 : decode cX2_timesAhead 19 = .ok (.if_icmp .ne 6, 3) := by decide +kernel
theorem dX2_timesAhead_22 : decode cX2_timesAhead 22 = .ok (.iinc 2 1, 3) := by decide +kernel
theorem dX2_timesAhead_25 : decode cX2_timesAhead 25 = .ok (.iinc 3 1, 3) := by decide +kernel
theorem dX2_timesAhead_28 : decode cX2_timesAhead 28 = .ok (.goto (-24), 3) := by decide +kernel
theorem dX2_timesAhead_31 : decode cX2_timesAhead 31 = .ok (.iload_n 2, 1) := by decide +kernel
theorem dX2_timesAhead_32 : decode cX2_timesAhead 32 = .ok (.ireturn, 1) := by decide +kernel
theorem dX2_hasAlike_0 : decode cX2_hasAlike 0 = .ok (.iconst 0, 1) := by decide +kernel
theorem dX2_hasAlike_1 : decode cX2_hasAlike 1 = .ok (.istore_n 1, 1) := by decide +kernel
theorem dX2_hasAlike_2 : decode cX2_hasAlike 2 = .ok (.iload_n 1, 1) := by decide +kernel
theorem dX2_hasAlike_3 : decode cX2_hasAlike 3 = .ok (.aload_n 0, 1) := by decide +kernel
theorem dX2_hasAlike_4 : decode cX2_hasAlike 4 = .ok (.getfield 47, 3) := by decide +kernel
theorem dX2_hasAlike_7 : decode cX2_hasAlike 7 = .ok (.if_icmp .ge 19, 3) := by decide +kernel
theorem dX2_hasAlike_10 : decode cX2_hasAlike 10 = .ok (.aload_n 0, 1) := by decide +kernel
theorem dX2_hasAlike_11 : decode cX2_hasAlike 11 = .ok (.iload_n 1, 1) := by decide +kernel
theorem dX2_hasAlike_12 : decode cX2_hasAlike 12 = .ok (.invokevirtual 59, 3) := by decide +kernel
theorem dX2_hasAlike_15 : decode cX2_hasAlike 15 = .ok (.ifCond .le 5, 3) := by decide +kernel
theorem dX2_hasAlike_18 : decode cX2_hasAlike 18 = .ok (.iconst 1, 1) := by decide +kernel
theorem dX2_hasAlike_19 : decode cX2_hasAlike 19 = .ok (.ireturn, 1) := by decide +kernel
theorem dX2_hasAlike_20 : decode cX2_hasAlike 20 = .ok (.iinc 1 1, 3) := by decide +kernel
theorem dX2_hasAlike_23 : decode cX2_hasAlike 23 = .ok (.goto (-21), 3) := by decide +kernel
theorem dX2_hasAlike_26 : decode cX2_hasAlike 26 = .ok (.iconst 0, 1) := by decide +kernel
theorem dX2_hasAlike_27 : decode cX2_hasAlike 27 = .ok (.ireturn, 1) := by decide +kernel
theorem dX2_interpolated_0 : decode cX2_interpolated 0 = .ok (.aload_n 0, 1) := by decide +kernel
theorem dX2_interpolated_1 : decode cX2_interpolated 1 = .ok (.getfield 23, 3) := by decide +kernel
theorem dX2_interpolated_4 : decode cX2_interpolated 4 = .ok (.invokevirtual 62, 3) := by decide +kernel
theorem dX2_interpolated_7 : decode cX2_interpolated 7 = .ok (.aload_n 0, 1) := by decide +kernel
theorem dX2_interpolated_8 : decode cX2_interpolated 8 = .ok (.getfield 27, 3) := by decide +kernel
theorem dX2_interpolated_11 : decode cX2_interpolated 11 = .ok (.invokevirtual 62, 3) := by decide +kernel
theorem dX2_interpolated_14 : decode cX2_interpolated 14 = .ok (.aload_n 0, 1) := by decide +kernel
theorem dX2_interpolated_15 : decode cX2_interpolated 15 = .ok (.getfield 27, 3) := by decide +kernel
theorem dX2_interpolated_18 : decode cX2_interpolated 18 = .ok (.iconst 0, 1) := by decide +kernel
theorem dX2_interpolated_19 : decode cX2_interpolated 19 = .ok (.iconst 1, 1) := by decide +kernel
theorem dX2_interpolated_20 : decode cX2_interpolated 20 = .ok (.invokevirtual 65, 3) := by decide +kernel
theorem dX2_interpolated_23 : decode cX2_interpolated 23 = .ok (.iconst 0, 1) := by decide +kernel
theorem dX2_interpolated_24 : decode cX2_interpolated 24 = .ok (.istore_n 1, 1) := by decide +kernel
theorem dX2_interpolated_25 : decode cX2_interpolated 25 = .ok (.iload_n 1, 1) := by decide +kernel
theorem dX2_interpolated_26 : decode cX2_interpolated 26 = .ok (.aload_n 0, 1) := by decide +kernel
theorem dX2_interpolated_27 : decode cX2_interpolated 27 = .ok (.getfield 47, 3) := by decide +kernel
theorem dX2_interpolated_30 : decode cX2_interpolated 30 = .ok (.if_icmp .ge 138, 3) := by decide +kernel
theorem dX2_interpolated_33 : decode cX2_interpolated 33 = .ok (.aload_n 0, 1) := by decide +kernel
theorem dX2_interpolated_34 : decode cX2_interpolated 34 = .ok (.iload_n 1, 1) := by decide +kernel
theorem dX2_interpolated_35 : decode cX2_interpolated 35 = .ok (.invokevirtual 55, 3) := by decide +kernel
theorem dX2_interpolated_38 : decode cX2_interpolated 38 = .ok (.istore_n 2, 1) := by decide +kernel
theorem dX2_interpolated_39 : decode cX2_interpolated 39 = .ok (.aload_n 0, 1) := by decide +kernel
theorem dX2_interpolated_40 : decode cX2_interpolated 40 = .ok (.iload_n 1, 1) := by decide +kernel
theorem dX2_interpolated_41 : decode cX2_interpolated 41 = .ok (.invokevirtual 59, 3) := by decide +kernel
theorem dX2_interpolated_44 : decode cX2_interpolated 44 = .ok (.istore_n 3, 1) := by decide +kernel
theorem dX2_interpolated_45 : decode cX2_interpolated 45 = .ok (.aload_n 0, 1) := by decide +kernel
theorem dX2_interpolated_46 : decode cX2_interpolated 46 = .ok (.getfield 39, 3) := by decide +kernel
theorem dX2_interpolated_49 : decode cX2_interpolated 49 = .ok (.aload_n 0, 1) := by decide +kernel
theorem dX2_interpolated_50 : decode cX2_interpolated 50 = .ok (.iload_n 1, 1) := by decide +kernel
theorem dX2_interpolated_51 : decode cX2_interpolated 51 = .ok (.invokevirtual 69, 3) := by decide +kernel
theorem dX2_interpolated_54 : decode cX2_interpolated 54 = .ok (.i2l, 1) := by decide +kernel
theorem dX2_interpolated_55 : decode cX2_interpolated 55 = .ok (.aload_n 0, 1) := by decide +kernel
theorem dX2_interpolated_56 : decode cX2_interpolated 56 = .ok (.getfield 43, 3) := by decide +kernel
theorem dX2_interpolated_59 : decode cX2_interpolated 59 = .ok (.aload_n 0, 1) := by decide +kernel
theorem dX2_interpolated_60 : decode cX2_interpolated 60 = .ok (.getfield 23, 3) := by decide +kernel
theorem dX2_interpolated_63 : decode cX2_interpolated 63 = .ok (.iload_n 2, 1) := by decide +kernel
theorem dX2_interpolated_64 : decode cX2_interpolated 64 = .ok (.iload_n 3, 1) := by decide +kernel
theorem dX2_interpolated_65 : decode cX2_interpolated 65 = .ok (.iconst 1, 1) := by decide +kernel
theorem dX2_interpolated_66 : decode cX2_interpolated 66 = .ok (.iadd, 1) := by decide +kernel
theorem dX2_interpolated_67 : decode cX2_interpolated 67 = .ok (.invokevirtual 72, 3) := by decide +kernel
theorem dX2_interpolated_70 : decode cX2_interpolated 70 = .ok (.iload_n 3, 1) := by decide +kernel
theorem dX2_interpolated_71 : decode cX2_interpolated 71 = .ok (.invokevirtual 78, 3) := by decide +kernel
theorem dX2_interpolated_74 : decode cX2_interpolated 74 = .ok (.i2l, 1) := by decide +kernel
theorem dX2_interpolated_75 : decode cX2_interpolated 75 = .ok (.lsub, 1) := by decide +kernel
theorem dX2_interpolated_76 : decode cX2_interpolated 76 = .ok (.invokevirtual 81, 3) := by decide +kernel
theorem dX2_interpolated_79 : decode cX2_interpolated 79 = .ok (.istore 4, 2) := by decide +kernel
theorem dX2_interpolated_81 : decode cX2_interpolated 81 = .ok (.aload_n 0, 1) := by decide +kernel
theorem dX2_interpolated_82 : decode cX2_interpolated 82 = .ok (.getfield 43, 3) := by decide +kernel
theorem dX2_interpolated_85 : decode cX2_interpolated 85 = .ok (.aload_n 0, 1) := by decide +kernel
theorem dX2_interpolated_86 : decode cX2_interpolated 86 = .ok (.getfield 27, 3) := by decide +kernel
theorem dX2_interpolated_89 : decode cX2_interpolated 89 = .ok (.iload_n 2, 1) := by decide +kernel
theorem dX2_interpolated_90 : decode cX2_interpolated 90 = .ok (.iload_n 3, 1) := by decide +kernel
theorem dX2_interpolated_91 : decode cX2_interpolated 91 = .ok (.iconst 1, 1) := by decide +kernel
theorem dX2_interpolated_92 : decode cX2_interpolated 92 = .ok (.iadd, 1) := by decide +kernel
theorem dX2_interpolated_93 : decode cX2_interpolated 93 = .ok (.invokevirtual 72, 3) := by decide +kernel
theorem dX2_interpolated_96 : decode cX2_interpolated 96 = .ok (.iload_n 3, 1) := by decide +kernel
theorem dX2_interpolated_97 : decode cX2_interpolated 97 = .ok (.invokevirtual 78, 3) := by decide +kernel
theorem dX2_interpolated_100 : decode cX2_interpolated 100 = .ok (.istore 5, 2) := by decide +kernel
theorem dX2_interpolated_102 : decode cX2_interpolated 102 = .ok (.aload_n 0, 1) := by decide +kernel
theorem dX2_interpolated_103 : decode cX2_interpolated 103 = .ok (.getfield 43, 3) := by decide +kernel
theorem dX2_interpolated_106 : decode cX2_interpolated 106 = .ok (.aload_n 0, 1) := by decide +kernel
theorem dX2_interpolated_107 : decode cX2_interpolated 107 = .ok (.getfield 23, 3) := by decide +kernel
theorem dX2_interpolated_110 : decode cX2_interpolated 110 = .ok (.aload_n 0, 1) := by decide +kernel
theorem dX2_interpolated_111 : decode cX2_interpolated 111 = .ok (.getfield 39, 3) := by decide +kernel
theorem dX2_interpolated_114 : decode cX2_interpolated 114 = .ok (.iload 4, 2) := by decide +kernel
theorem dX2_interpolated_116 : decode cX2_interpolated 116 = .ok (.aload_n 0, 1) := by decide +kernel
theorem dX2_interpolated_117 : decode cX2_interpolated 117 = .ok (.getfield 39, 3) := by decide +kernel
theorem dX2_interpolated_120 : decode cX2_interpolated 120 = .ok (.iload 5, 2) := by decide +kernel
theorem dX2_interpolated_122 : decode cX2_interpolated 122 = .ok (.invokevirtual 87, 3) := by decide +kernel
theorem dX2_interpolated_125 : decode cX2_interpolated 125 = .ok (.invokevirtual 90, 3) := by decide +kernel
theorem dX2_interpolated_128 : decode cX2_interpolated 128 = .ok (.aload_n 0, 1) := by decide +kernel
theorem dX2_interpolated_129 : decode cX2_interpolated 129 = .ok (.getfield 27, 3) := by decide +kernel
theorem dX2_interpolated_132 : decode cX2_interpolated 132 = .ok (.iconst 0, 1) := by decide +kernel
theorem dX2_interpolated_133 : decode cX2_interpolated 133 = .ok (.invokevirtual 94, 3) := by decide +kernel
theorem dX2_interpolated_136 : decode cX2_interpolated 136 = .ok (.aload_n 0, 1) := by decide +kernel
theorem dX2_interpolated_137 : decode cX2_interpolated 137 = .ok (.getfield 27, 3) := by decide +kernel
theorem dX2_interpolated_140 : decode cX2_interpolated 140 = .ok (.aload_n 0, 1) := by decide +kernel
theorem dX2_interpolated_141 : decode cX2_interpolated 141 = .ok (.getfield 43, 3) := by decide +kernel
theorem dX2_interpolated_144 : decode cX2_interpolated 144 = .ok (.aload_n 0, 1) := by decide +kernel
theorem dX2_interpolated_145 : decode cX2_interpolated 145 = .ok (.getfield 27, 3) := by decide +kernel
theorem dX2_interpolated_148 : decode cX2_interpolated 148 = .ok (.aload_n 0, 1) := by decide +kernel
theorem dX2_interpolated_149 : decode cX2_interpolated 149 = .ok (.getfield 43, 3) := by decide +kernel
theorem dX2_interpolated_152 : decode cX2_interpolated 152 = .ok (.iload_n 2, 1) := by decide +kernel
theorem dX2_interpolated_153 : decode cX2_interpolated 153 = .ok (.invokevirtual 98, 3) := by decide +kernel
theorem dX2_interpolated_156 : decode cX2_interpolated 156 = .ok (.invokevirtual 102, 3) := by decide +kernel
theorem dX2_interpolated_159 : decode cX2_interpolated 159 = .ok (.invokevirtual 106, 3) := by decide +kernel
theorem dX2_interpolated_162 : decode cX2_interpolated 162 = .ok (.iinc 1 1, 3) := by decide +kernel
theorem dX2_interpolated_165 : decode cX2_interpolated 165 = .ok (.goto (-140), 3) := by decide +kernel
theorem dX2_interpolated_168 : decode cX2_interpolated 168 = .ok (.aload_n 0, 1) := by decide +kernel
theorem dX2_interpolated_169 : decode cX2_interpolated 169 = .ok (.getfield 23, 3) := by decide +kernel
theorem dX2_interpolated_172 : decode cX2_interpolated 172 = .ok (.areturn, 1) := by decide +kernel
theorem dX2_nearest_0 : decode cX2_nearest 0 = .ok (.aload_n 0, 1) := by decide +kernel
theorem dX2_nearest_1 : decode cX2_nearest 1 = .ok (.invokevirtual 110, 3) := by decide +kernel
theorem dX2_nearest_4 : decode cX2_nearest 4 = .ok (.pop, 1) := by decide +kernel
theorem dX2_nearest_5 : decode cX2_nearest 5 = .ok (.aload_n 0, 1) := by decide +kernel
theorem dX2_nearest_6 : decode cX2_nearest 6 = .ok (.getfield 43, 3) := by decide +kernel
theorem dX2_nearest_9 : decode cX2_nearest 9 = .ok (.aload_n 0, 1) := by decide +kernel
theorem dX2_nearest_10 : decode cX2_nearest 10 = .ok (.getfield 27, 3) := by decide +kernel
theorem dX2_nearest_13 : decode cX2_nearest 13 = .ok (.aload_n 0, 1) := by decide +kernel
theorem dX2_nearest_14 : decode cX2_nearest 14 = .ok (.getfield 23, 3) := by decide +kernel
theorem dX2_nearest_17 : decode cX2_nearest 17 = .ok (.aload_n 0, 1) := by decide +kernel
theorem dX2_nearest_18 : decode cX2_nearest 18 = .ok (.getfield 47, 3) := by decide +kernel
theorem dX2_nearest_21 : decode cX2_nearest 21 = .ok (.iload_n 1, 1) := by decide +kernel
theorem dX2_nearest_22 : decode cX2_nearest 22 = .ok (.iadd, 1) := by decide +kernel
theorem dX2_nearest_23 : decode cX2_nearest 23 = .ok (.iconst 1, 1) := by decide +kernel
theorem dX2_nearest_24 : decode cX2_nearest 24 = .ok (.iadd, 1) := by decide +kernel
theorem dX2_nearest_25 : decode cX2_nearest 25 = .ok (.iconst 2, 1) := by decide +kernel
theorem dX2_nearest_26 : decode cX2_nearest 26 = .ok (.idiv, 1) := by decide +kernel
theorem dX2_nearest_27 : decode cX2_nearest 27 = .ok (.invokevirtual 114, 3) := by decide +kernel
theorem dX2_nearest_30 : decode cX2_nearest 30 = .ok (.aload_n 0, 1) := by decide +kernel
theorem dX2_nearest_31 : decode cX2_nearest 31 = .ok (.getfield 43, 3) := by decide +kernel
theorem dX2_nearest_34 : decode cX2_nearest 34 = .ok (.invokevirtual 118, 3) := by decide +kernel
theorem dX2_nearest_37 : decode cX2_nearest 37 = .ok (.areturn, 1) := by decide +kernel
theorem dX2_wrongFor_0 : decode cX2_wrongFor 0 = .ok (.iconst 0, 1) := by decide +kernel
theorem dX2_wrongFor_1 : decode cX2_wrongFor 1 = .ok (.istore_n 2, 1) := by decide +kernel
theorem dX2_wrongFor_2 : decode cX2_wrongFor 2 = .ok (.iconst 0, 1) := by decide +kernel
theorem dX2_wrongFor_3 : decode cX2_wrongFor 3 = .ok (.istore_n 3, 1) := by decide +kernel
theorem dX2_wrongFor_4 : decode cX2_wrongFor 4 = .ok (.iload_n 3, 1) := by decide +kernel
theorem dX2_wrongFor_5 : decode cX2_wrongFor 5 = .ok (.aload_n 0, 1) := by decide +kernel
theorem dX2_wrongFor_6 : decode cX2_wrongFor 6 = .ok (.getfield 47, 3) := by decide +kernel
theorem dX2_wrongFor_9 : decode cX2_wrongFor 9 = .ok (.if_icmp .ge 33, 3) := by decide +kernel
theorem dX2_wrongFor_12 : decode cX2_wrongFor 12 = .ok (.aload_n 0, 1) := by decide +kernel
theorem dX2_wrongFor_13 : decode cX2_wrongFor 13 = .ok (.getfield 43, 3) := by decide +kernel
theorem dX2_wrongFor_16 : decode cX2_wrongFor 16 = .ok (.aload_n 1, 1) := by decide +kernel
theorem dX2_wrongFor_17 : decode cX2_wrongFor 17 = .ok (.aload_n 0, 1) := by decide +kernel
theorem dX2_wrongFor_18 : decode cX2_wrongFor 18 = .ok (.iload_n 3, 1) := by decide +kernel
theorem dX2_wrongFor_19 : decode cX2_wrongFor 19 = .ok (.invokevirtual 55, 3) := by decide +kernel
theorem dX2_wrongFor_22 : decode cX2_wrongFor 22 = .ok (.invokevirtual 121, 3) := by decide +kernel
theorem dX2_wrongFor_25 : decode cX2_wrongFor 25 = .ok (.aload_n 0, 1) := by decide +kernel
theorem dX2_wrongFor_26 : decode cX2_wrongFor 26 = .ok (.iload_n 3, 1) := by decide +kernel
theorem dX2_wrongFor_27 : decode cX2_wrongFor 27 = .ok (.invokevirtual 69, 3) := by decide +kernel
theorem dX2_wrongFor_30 : decode cX2_wrongFor 30 = .ok (.if_icmp .eq 6, 3) := by decide +kernel
theorem dX2_wrongFor_33 : decode cX2_wrongFor 33 = .ok (.iinc 2 1, 3) := by decide +kernel
theorem dX2_wrongFor_36 : decode cX2_wrongFor 36 = .ok (.iinc 3 1, 3) := by decide +kernel
theorem dX2_wrongFor_39 : decode cX2_wrongFor 39 = .ok (.goto (-35), 3) := by decide +kernel
theorem dX2_wrongFor_42 : decode cX2_wrongFor 42 = .ok (.iload_n 2, 1) := by decide +kernel
theorem dX2_wrongFor_43 : decode cX2_wrongFor 43 = .ok (.ireturn, 1) := by decide +kernel
theorem dX2_seekRelation_0 : decode cX2_seekRelation 0 = .ok (.aload_n 0, 1) := by decide +kernel
theorem dX2_seekRelation_1 : decode cX2_seekRelation 1 = .ok (.getfield 30, 3) := by decide +kernel
theorem dX2_seekRelation_4 : decode cX2_seekRelation 4 = .ok (.invokevirtual 62, 3) := by decide +kernel
theorem dX2_seekRelation_7 : decode cX2_seekRelation 7 = .ok (.aload_n 0, 1) := by decide +kernel
theorem dX2_seekRelation_8 : decode cX2_seekRelation 8 = .ok (.getfield 30, 3) := by decide +kernel
theorem dX2_seekRelation_11 : decode cX2_seekRelation 11 = .ok (.iconst 0, 1) := by decide +kernel
theorem dX2_seekRelation_12 : decode cX2_seekRelation 12 = .ok (.iconst 1, 1) := by decide +kernel
theorem dX2_seekRelation_13 : decode cX2_seekRelation 13 = .ok (.invokevirtual 65, 3) := by decide +kernel
theorem dX2_seekRelation_16 : decode cX2_seekRelation 16 = .ok (.aload_n 0, 1) := by decide +kernel
theorem dX2_seekRelation_17 : decode cX2_seekRelation 17 = .ok (.getfield 33, 3) := by decide +kernel
theorem dX2_seekRelation_20 : decode cX2_seekRelation 20 = .ok (.aload_n 0, 1) := by decide +kernel
theorem dX2_seekRelation_21 : decode cX2_seekRelation 21 = .ok (.getfield 30, 3) := by decide +kernel
theorem dX2_seekRelation_24 : decode cX2_seekRelation 24 = .ok (.invokevirtual 106, 3) := by decide +kernel
theorem dX2_seekRelation_27 : decode cX2_seekRelation 27 = .ok (.iconst 0, 1) := by decide +kernel
theorem dX2_seekRelation_28 : decode cX2_seekRelation 28 = .ok (.istore_n 1, 1) := by decide +kernel
theorem dX2_seekRelation_29 : decode cX2_seekRelation 29 = .ok (.iconst 1, 1) := by decide +kernel
theorem dX2_seekRelation_30 : decode cX2_seekRelation 30 = .ok (.istore_n 2, 1) := by decide +kernel
theorem dX2_seekRelation_31 : decode cX2_seekRelation 31 = .ok (.iconst 1, 1) := by decide +kernel
theorem dX2_seekRelation_32 : decode cX2_seekRelation 32 = .ok (.istore_n 3, 1) := by decide +kernel
theorem dX2_seekRelation_33 : decode cX2_seekRelation 33 = .ok (.iconst 0, 1) := by decide +kernel
theorem dX2_seekRelation_34 : decode cX2_seekRelation 34 = .ok (.istore 4, 2) := by decide +kernel
theorem dX2_seekRelation_36 : decode cX2_seekRelation 36 = .ok (.iload 4, 2) := by decide +kernel
theorem dX2_seekRelation_38 : decode cX2_seekRelation 38 = .ok (.aload_n 0, 1) := by decide +kernel
theorem dX2_seekRelation_39 : decode cX2_seekRelation 39 = .ok (.getfield 47, 3) := by decide +kernel
theorem dX2_seekRelation_42 : decode cX2_seekRelation 42 = .ok (.if_icmp .ge 117, 3) := by decide +kernel
theorem dX2_seekRelation_45 : decode cX2_seekRelation 45 = .ok (.aload_n 0, 1) := by decide +kernel
theorem dX2_seekRelation_46 : decode cX2_seekRelation 46 = .ok (.iload 4, 2) := by decide +kernel
theorem dX2_seekRelation_48 : decode cX2_seekRelation 48 = .ok (.invokevirtual 125, 3) := by decide +kernel
theorem dX2_seekRelation_51 : decode cX2_seekRelation 51 = .ok (.istore 5, 2) := by decide +kernel
theorem dX2_seekRelation_53 : decode cX2_seekRelation 53 = .ok (.iload 5, 2) := by decide +kernel
theorem dX2_seekRelation_55 : decode cX2_seekRelation 55 = .ok (.ifCond .ne 6, 3) := by decide +kernel
theorem dX2_seekRelation_58 : decode cX2_seekRelation 58 = .ok (.goto 92, 3) := by decide +kernel
theorem dX2_seekRelation_61 : decode cX2_seekRelation 61 = .ok (.aload_n 0, 1) := by decide +kernel
theorem dX2_seekRelation_62 : decode cX2_seekRelation 62 = .ok (.getfield 36, 3) := by decide +kernel
theorem dX2_seekRelation_65 : decode cX2_seekRelation 65 = .ok (.aload_n 0, 1) := by decide +kernel
theorem dX2_seekRelation_66 : decode cX2_seekRelation 66 = .ok (.getfield 30, 3) := by decide +kernel
theorem dX2_seekRelation_69 : decode cX2_seekRelation 69 = .ok (.invokevirtual 106, 3) := by decide +kernel
theorem dX2_seekRelation_72 : decode cX2_seekRelation 72 = .ok (.aload_n 0, 1) := by decide +kernel
theorem dX2_seekRelation_73 : decode cX2_seekRelation 73 = .ok (.getfield 39, 3) := by decide +kernel
theorem dX2_seekRelation_76 : decode cX2_seekRelation 76 = .ok (.iload 5, 2) := by decide +kernel
theorem dX2_seekRelation_78 : decode cX2_seekRelation 78 = .ok (.aload_n 0, 1) := by decide +kernel
theorem dX2_seekRelation_79 : decode cX2_seekRelation 79 = .ok (.getfield 39, 3) := by decide +kernel
theorem dX2_seekRelation_82 : decode cX2_seekRelation 82 = .ok (.iload_n 3, 1) := by decide +kernel
theorem dX2_seekRelation_83 : decode cX2_seekRelation 83 = .ok (.invokevirtual 87, 3) := by decide +kernel
theorem dX2_seekRelation_86 : decode cX2_seekRelation 86 = .ok (.invokevirtual 90, 3) := by decide +kernel
theorem dX2_seekRelation_89 : decode cX2_seekRelation 89 = .ok (.istore 6, 2) := by decide +kernel
theorem dX2_seekRelation_91 : decode cX2_seekRelation 91 = .ok (.aload_n 0, 1) := by decide +kernel
theorem dX2_seekRelation_92 : decode cX2_seekRelation 92 = .ok (.getfield 43, 3) := by decide +kernel
theorem dX2_seekRelation_95 : decode cX2_seekRelation 95 = .ok (.aload_n 0, 1) := by decide +kernel
theorem dX2_seekRelation_96 : decode cX2_seekRelation 96 = .ok (.getfield 30, 3) := by decide +kernel
theorem dX2_seekRelation_99 : decode cX2_seekRelation 99 = .ok (.iload 6, 2) := by decide +kernel
theorem dX2_seekRelation_101 : decode cX2_seekRelation 101 = .ok (.ineg, 1) := by decide +kernel
theorem dX2_seekRelation_102 : decode cX2_seekRelation 102 = .ok (.aload_n 0, 1) := by decide +kernel
theorem dX2_seekRelation_103 : decode cX2_seekRelation 103 = .ok (.getfield 33, 3) := by decide +kernel
theorem dX2_seekRelation_106 : decode cX2_seekRelation 106 = .ok (.iload_n 2, 1) := by decide +kernel
theorem dX2_seekRelation_107 : decode cX2_seekRelation 107 = .ok (.invokevirtual 94, 3) := by decide +kernel
theorem dX2_seekRelation_110 : decode cX2_seekRelation 110 = .ok (.iconst 2, 1) := by decide +kernel
theorem dX2_seekRelation_111 : decode cX2_seekRelation 111 = .ok (.iload_n 1, 1) := by decide +kernel
theorem dX2_seekRelation_112 : decode cX2_seekRelation 112 = .ok (.imul, 1) := by decide +kernel
theorem dX2_seekRelation_113 : decode cX2_seekRelation 113 = .ok (.iload 4, 2) := by decide +kernel
theorem dX2_seekRelation_115 : decode cX2_seekRelation 115 = .ok (.if_icmp .gt 35, 3) := by decide +kernel
theorem dX2_seekRelation_118 : decode cX2_seekRelation 118 = .ok (.iload 4, 2) := by decide +kernel
theorem dX2_seekRelation_120 : decode cX2_seekRelation 120 = .ok (.iconst 1, 1) := by decide +kernel
theorem dX2_seekRelation_121 : decode cX2_seekRelation 121 = .ok (.iadd, 1) := by decide +kernel
theorem dX2_seekRelation_122 : decode cX2_seekRelation 122 = .ok (.iload_n 1, 1) := by decide +kernel
theorem dX2_seekRelation_123 : decode cX2_seekRelation 123 = .ok (.isub, 1) := by decide +kernel
theorem dX2_seekRelation_124 : decode cX2_seekRelation 124 = .ok (.istore_n 1, 1) := by decide +kernel
theorem dX2_seekRelation_125 : decode cX2_seekRelation 125 = .ok (.iload 5, 2) := by decide +kernel
theorem dX2_seekRelation_127 : decode cX2_seekRelation 127 = .ok (.istore_n 3, 1) := by decide +kernel
theorem dX2_seekRelation_128 : decode cX2_seekRelation 128 = .ok (.iconst 0, 1) := by decide +kernel
theorem dX2_seekRelation_129 : decode cX2_seekRelation 129 = .ok (.istore_n 2, 1) := by decide +kernel
theorem dX2_seekRelation_130 : decode cX2_seekRelation 130 = .ok (.aload_n 0, 1) := by decide +kernel
theorem dX2_seekRelation_131 : decode cX2_seekRelation 131 = .ok (.getfield 33, 3) := by decide +kernel
theorem dX2_seekRelation_134 : decode cX2_seekRelation 134 = .ok (.astore 7, 2) := by decide +kernel
theorem dX2_seekRelation_136 : decode cX2_seekRelation 136 = .ok (.aload_n 0, 1) := by decide +kernel
theorem dX2_seekRelation_137 : decode cX2_seekRelation 137 = .ok (.aload_n 0, 1) := by decide +kernel
theorem dX2_seekRelation_138 : decode cX2_seekRelation 138 = .ok (.getfield 36, 3) := by decide +kernel
theorem dX2_seekRelation_141 : decode cX2_seekRelation 141 = .ok (.putfield 33, 3) := by decide +kernel
theorem dX2_seekRelation_144 : decode cX2_seekRelation 144 = .ok (.aload_n 0, 1) := by decide +kernel
theorem dX2_seekRelation_145 : decode cX2_seekRelation 145 = .ok (.aload 7, 2) := by decide +kernel
theorem dX2_seekRelation_147 : decode cX2_seekRelation 147 = .ok (.putfield 36, 3) := by decide +kernel
theorem dX2_seekRelation_150 : decode cX2_seekRelation 150 = .ok (.iinc 4 1, 3) := by decide +kernel
theorem dX2_seekRelation_153 : decode cX2_seekRelation 153 = .ok (.iinc 2 1, 3) := by decide +kernel
theorem dX2_seekRelation_156 : decode cX2_seekRelation 156 = .ok (.goto (-120), 3) := by decide +kernel
theorem dX2_seekRelation_159 : decode cX2_seekRelation 159 = .ok (.iload_n 1, 1) := by decide +kernel
theorem dX2_seekRelation_160 : decode cX2_seekRelation 160 = .ok (.ireturn, 1) := by decide +kernel
theorem dX2_lack_0 : decode cX2_lack 0 = .ok (.lconst 0, 1) := by decide +kernel
theorem dX2_lack_1 : decode cX2_lack 1 = .ok (.lstore_n 2, 1) := by decide +kernel
theorem dX2_lack_2 : decode cX2_lack 2 = .ok (.iconst 0, 1) := by decide +kernel
theorem dX2_lack_3 : decode cX2_lack 3 = .ok (.istore 4, 2) := by decide +kernel
theorem dX2_lack_5 : decode cX2_lack 5 = .ok (.iload 4, 2) := by decide +kernel
theorem dX2_lack_7 : decode cX2_lack 7 = .ok (.aload_n 0, 1) := by decide +kernel
theorem dX2_lack_8 : decode cX2_lack 8 = .ok (.getfield 30, 3) := by decide +kernel
theorem dX2_lack_11 : decode cX2_lack 11 = .ok (.invokevirtual 128, 3) := by decide +kernel
theorem dX2_lack_14 : decode cX2_lack 14 = .ok (.if_icmp .ge 32, 3) := by decide +kernel
theorem dX2_lack_17 : decode cX2_lack 17 = .ok (.lload_n 2, 1) := by decide +kernel
theorem dX2_lack_18 : decode cX2_lack 18 = .ok (.aload_n 0, 1) := by decide +kernel
theorem dX2_lack_19 : decode cX2_lack 19 = .ok (.getfield 30, 3) := by decide +kernel
theorem dX2_lack_22 : decode cX2_lack 22 = .ok (.iload 4, 2) := by decide +kernel
theorem dX2_lack_24 : decode cX2_lack 24 = .ok (.invokevirtual 78, 3) := by decide +kernel
theorem dX2_lack_27 : decode cX2_lack 27 = .ok (.i2l, 1) := by decide +kernel
theorem dX2_lack_28 : decode cX2_lack 28 = .ok (.aload_n 0, 1) := by decide +kernel
theorem dX2_lack_29 : decode cX2_lack 29 = .ok (.iload_n 1, 1) := by decide +kernel
theorem dX2_lack_30 : decode cX2_lack 30 = .ok (.iload 4, 2) := by decide +kernel
theorem dX2_lack_32 : decode cX2_lack 32 = .ok (.isub, 1) := by decide +kernel
theorem dX2_lack_33 : decode cX2_lack 33 = .ok (.invokevirtual 69, 3) := by decide +kernel
theorem dX2_lack_36 : decode cX2_lack 36 = .ok (.i2l, 1) := by decide +kernel
theorem dX2_lack_37 : decode cX2_lack 37 = .ok (.lmul, 1) := by decide +kernel
theorem dX2_lack_38 : decode cX2_lack 38 = .ok (.ladd, 1) := by decide +kernel
theorem dX2_lack_39 : decode cX2_lack 39 = .ok (.lstore_n 2, 1) := by decide +kernel
theorem dX2_lack_40 : decode cX2_lack 40 = .ok (.iinc 4 1, 3) := by decide +kernel
theorem dX2_lack_43 : decode cX2_lack 43 = .ok (.goto (-38), 3) := by decide +kernel
theorem dX2_lack_46 : decode cX2_lack 46 = .ok (.aload_n 0, 1) := by decide +kernel
theorem dX2_lack_47 : decode cX2_lack 47 = .ok (.getfield 39, 3) := by decide +kernel
theorem dX2_lack_50 : decode cX2_lack 50 = .ok (.lload_n 2, 1) := by decide +kernel
theorem dX2_lack_51 : decode cX2_lack 51 = .ok (.invokevirtual 81, 3) := by decide +kernel
theorem dX2_lack_54 : decode cX2_lack 54 = .ok (.ireturn, 1) := by decide +kernel
theorem dX2_soughtFactor_0 : decode cX2_soughtFactor 0 = .ok (.aload_n 0, 1) := by decide +kernel
theorem dX2_soughtFactor_1 : decode cX2_soughtFactor 1 = .ok (.getfield 39, 3) := by decide +kernel
theorem dX2_soughtFactor_4 : decode cX2_soughtFactor 4 = .ok (.aload_n 0, 1) := by decide +kernel
theorem dX2_soughtFactor_5 : decode cX2_soughtFactor 5 = .ok (.getfield 30, 3) := by decide +kernel
theorem dX2_soughtFactor_8 : decode cX2_soughtFactor 8 = .ok (.iload_n 1, 1) := by decide +kernel
theorem dX2_soughtFactor_9 : decode cX2_soughtFactor 9 = .ok (.invokevirtual 78, 3) := by decide +kernel
theorem dX2_soughtFactor_12 : decode cX2_soughtFactor 12 = .ok (.ineg, 1) := by decide +kernel
theorem dX2_soughtFactor_13 : decode cX2_soughtFactor 13 = .ok (.i2l, 1) := by decide +kernel
theorem dX2_soughtFactor_14 : decode cX2_soughtFactor 14 = .ok (.invokevirtual 81, 3) := by decide +kernel
theorem dX2_soughtFactor_17 : decode cX2_soughtFactor 17 = .ok (.ireturn, 1) := by decide +kernel
theorem dX2_summed_0 : decode cX2_summed 0 = .ok (.iconst 0, 1) := by decide +kernel
theorem dX2_summed_1 : decode cX2_summed 1 = .ok (.istore_n 2, 1) := by decide +kernel
theorem dX2_summed_2 : decode cX2_summed 2 = .ok (.iconst 0, 1) := by decide +kernel
theorem dX2_summed_3 : decode cX2_summed 3 = .ok (.istore_n 3, 1) := by decide +kernel
theorem dX2_summed_4 : decode cX2_summed 4 = .ok (.iload_n 3, 1) := by decide +kernel
theorem dX2_summed_5 : decode cX2_summed 5 = .ok (.aload_n 0, 1) := by decide +kernel
theorem dX2_summed_6 : decode cX2_summed 6 = .ok (.getfield 47, 3) := by decide +kernel
theorem dX2_summed_9 : decode cX2_summed 9 = .ok (.if_icmp .ge 41, 3) := by decide +kernel
theorem dX2_summed_12 : decode cX2_summed 12 = .ok (.aload_n 0, 1) := by decide +kernel
theorem dX2_summed_13 : decode cX2_summed 13 = .ok (.getfield 39, 3) := by decide +kernel
theorem dX2_summed_16 : decode cX2_summed 16 = .ok (.iload_n 2, 1) := by decide +kernel
theorem dX2_summed_17 : decode cX2_summed 17 = .ok (.i2l, 1) := by decide +kernel
theorem dX2_summed_18 : decode cX2_summed 18 = .ok (.aload_n 0, 1) := by decide +kernel
theorem dX2_summed_19 : decode cX2_summed 19 = .ok (.iload_n 3, 1) := by decide +kernel
theorem dX2_summed_20 : decode cX2_summed 20 = .ok (.invokevirtual 69, 3) := by decide +kernel
theorem dX2_summed_23 : decode cX2_summed 23 = .ok (.i2l, 1) := by decide +kernel
theorem dX2_summed_24 : decode cX2_summed 24 = .ok (.aload_n 0, 1) := by decide +kernel
theorem dX2_summed_25 : decode cX2_summed 25 = .ok (.getfield 39, 3) := by decide +kernel
theorem dX2_summed_28 : decode cX2_summed 28 = .ok (.aload_n 0, 1) := by decide +kernel
theorem dX2_summed_29 : decode cX2_summed 29 = .ok (.iload_n 3, 1) := by decide +kernel
theorem dX2_summed_30 : decode cX2_summed 30 = .ok (.invokevirtual 55, 3) := by decide +kernel
theorem dX2_summed_33 : decode cX2_summed 33 = .ok (.iload_n 1, 1) := by decide +kernel
theorem dX2_summed_34 : decode cX2_summed 34 = .ok (.invokevirtual 132, 3) := by decide +kernel
theorem dX2_summed_37 : decode cX2_summed 37 = .ok (.i2l, 1) := by decide +kernel
theorem dX2_summed_38 : decode cX2_summed 38 = .ok (.lmul, 1) := by decide +kernel
theorem dX2_summed_39 : decode cX2_summed 39 = .ok (.ladd, 1) := by decide +kernel
theorem dX2_summed_40 : decode cX2_summed 40 = .ok (.invokevirtual 81, 3) := by decide +kernel
theorem dX2_summed_43 : decode cX2_summed 43 = .ok (.istore_n 2, 1) := by decide +kernel
theorem dX2_summed_44 : decode cX2_summed 44 = .ok (.iinc 3 1, 3) := by decide +kernel
theorem dX2_summed_47 : decode cX2_summed 47 = .ok (.goto (-43), 3) := by decide +kernel
theorem dX2_summed_50 : decode cX2_summed 50 = .ok (.iload_n 2, 1) := by decide +kernel
theorem dX2_summed_51 : decode cX2_summed 51 = .ok (.ireturn, 1) := by decide +kernel
theorem dX3_init_0 : decode cX3_init 0 = .ok (.aload_n 0, 1) := by decide +kernel
theorem dX3_init_1 : decode cX3_init 1 = .ok (.invokespecial 1, 3) := by decide +kernel
theorem dX3_init_4 : decode cX3_init 4 = .ok (.aload_n 0, 1) := by decide +kernel
theorem dX3_init_5 : decode cX3_init 5 = .ok (.iload_n 1, 1) := by decide +kernel
theorem dX3_init_6 : decode cX3_init 6 = .ok (.invokestatic 7, 3) := by decide +kernel
theorem dX3_init_9 : decode cX3_init 9 = .ok (.putfield 13, 3) := by decide +kernel
theorem dX3_init_12 : decode cX3_init 12 = .ok (.return_, 1) := by decide +kernel
theorem dX3_primeOf_0 : decode cX3_primeOf 0 = .ok (.iload_n 0, 1) := by decide +kernel
theorem dX3_primeOf_1 : decode cX3_primeOf 1 = .ok (.iconst 4, 1) := by decide +kernel
theorem dX3_primeOf_2 : decode cX3_primeOf 2 = .ok (.invokestatic 17, 3) := by decide +kernel
theorem dX3_primeOf_5 : decode cX3_primeOf 5 = .ok (.tableswitch 38 0 2 #[27, 30, 34], 27) := by decide +kernel
theorem dX3_primeOf_32 : decode cX3_primeOf 32 = .ok (.bipush 97, 2) := by decide +kernel
theorem dX3_primeOf_34 : decode cX3_primeOf 34 = .ok (.ireturn, 1) := by decide +kernel
theorem dX3_primeOf_35 : decode cX3_primeOf 35 = .ok (.sipush 193, 3) := by decide +kernel
theorem dX3_primeOf_38 : decode cX3_primeOf 38 = .ok (.ireturn, 1) := by decide +kernel
theorem dX3_primeOf_39 : decode cX3_primeOf 39 = .ok (.sipush 257, 3) := by decide +kernel
theorem dX3_primeOf_42 : decode cX3_primeOf 42 = .ok (.ireturn, 1) := by decide +kernel
theorem dX3_primeOf_43 : decode cX3_primeOf 43 = .ok (.sipush 7681, 3) := by decide +kernel
theorem dX3_primeOf_46 : decode cX3_primeOf 46 = .ok (.ireturn, 1) := by decide +kernel
theorem dX3_prime_0 : decode cX3_prime 0 = .ok (.aload_n 0, 1) := by decide +kernel
theorem dX3_prime_1 : decode cX3_prime 1 = .ok (.getfield 13, 3) := by decide +kernel
theorem dX3_prime_4 : decode cX3_prime 4 = .ok (.ireturn, 1) := by decide +kernel
theorem dX3_rest_0 : decode cX3_rest 0 = .ok (.lload_n 1, 1) := by decide +kernel
theorem dX3_rest_1 : decode cX3_rest 1 = .ok (.aload_n 0, 1) := by decide +kernel
theorem dX3_rest_2 : decode cX3_rest 2 = .ok (.getfield 13, 3) := by decide +kernel
theorem dX3_rest_5 : decode cX3_rest 5 = .ok (.i2l, 1) := by decide +kernel
theorem dX3_rest_6 : decode cX3_rest 6 = .ok (.lrem, 1) := by decide +kernel
theorem dX3_rest_7 : decode cX3_rest 7 = .ok (.l2i, 1) := by decide +kernel
theorem dX3_rest_8 : decode cX3_rest 8 = .ok (.istore_n 3, 1) := by decide +kernel
theorem dX3_rest_9 : decode cX3_rest 9 = .ok (.iload_n 3, 1) := by decide +kernel
theorem dX3_rest_10 : decode cX3_rest 10 = .ok (.ifCond .ge 12, 3) := by decide +kernel
theorem dX3_rest_13 : decode cX3_rest 13 = .ok (.iload_n 3, 1) := by decide +kernel
theorem dX3_rest_14 : decode cX3_rest 14 = .ok (.aload_n 0, 1) := by decide +kernel
theorem dX3_rest_15 : decode cX3_rest 15 = .ok (.getfield 13, 3) := by decide +kernel
theorem dX3_rest_18 : decode cX3_rest 18 = .ok (.iadd, 1) := by decide +kernel
theorem dX3_rest_19 : decode cX3_rest 19 = .ok (.goto 4, 3) := by decide +kernel
theorem dX3_rest_22 : decode cX3_rest 22 = .ok (.iload_n 3, 1) := by decide +kernel
theorem dX3_rest_23 : decode cX3_rest 23 = .ok (.ireturn, 1) := by decide +kernel
theorem dX3_product_0 : decode cX3_product 0 = .ok (.iload_n 1, 1) := by decide +kernel
theorem dX3_product_1 : decode cX3_product 1 = .ok (.i2l, 1) := by decide +kernel
theorem dX3_product_2 : decode cX3_product 2 = .ok (.iload_n 2, 1) := by decide +kernel
theorem dX3_product_3 : decode cX3_product 3 = .ok (.i2l, 1) := by decide +kernel
theorem dX3_product_4 : decode cX3_product 4 = .ok (.lmul, 1) := by decide +kernel
theorem dX3_product_5 : decode cX3_product 5 = .ok (.aload_n 0, 1) := by decide +kernel
theorem dX3_product_6 : decode cX3_product 6 = .ok (.getfield 13, 3) := by decide +kernel
theorem dX3_product_9 : decode cX3_product 9 = .ok (.i2l, 1) := by decide +kernel
theorem dX3_product_10 : decode cX3_product 10 = .ok (.lrem, 1) := by decide +kernel
theorem dX3_product_11 : decode cX3_product 11 = .ok (.l2i, 1) := by decide +kernel
theorem dX3_product_12 : decode cX3_product 12 = .ok (.ireturn, 1) := by decide +kernel
theorem dX3_raised_0 : decode cX3_raised 0 = .ok (.iconst 1, 1) := by decide +kernel
theorem dX3_raised_1 : decode cX3_raised 1 = .ok (.istore_n 3, 1) := by decide +kernel
theorem dX3_raised_2 : decode cX3_raised 2 = .ok (.iload_n 1, 1) := by decide +kernel
theorem dX3_raised_3 : decode cX3_raised 3 = .ok (.istore 4, 2) := by decide +kernel
theorem dX3_raised_5 : decode cX3_raised 5 = .ok (.iload_n 2, 1) := by decide +kernel
theorem dX3_raised_6 : decode cX3_raised 6 = .ok (.istore 5, 2) := by decide +kernel
theorem dX3_raised_8 : decode cX3_raised 8 = .ok (.iload 5, 2) := by decide +kernel
theorem dX3_raised_10 : decode cX3_raised 10 = .ok (.ifCond .le 38, 3) := by decide +kernel
theorem dX3_raised_13 : decode cX3_raised 13 = .ok (.iload 5, 2) := by decide +kernel
theorem dX3_raised_15 : decode cX3_raised 15 = .ok (.iconst 1, 1) := by decide +kernel
theorem dX3_raised_16 : decode cX3_raised 16 = .ok (.iand, 1) := by decide +kernel
theorem dX3_raised_17 : decode cX3_raised 17 = .ok (.iconst 1, 1) := by decide +kernel
theorem dX3_raised_18 : decode cX3_raised 18 = .ok (.if_icmp .ne 11, 3) := by decide +kernel
theorem dX3_raised_21 : decode cX3_raised 21 = .ok (.aload_n 0, 1) := by decide +kernel
theorem dX3_raised_22 : decode cX3_raised 22 = .ok (.iload_n 3, 1) := by decide +kernel
theorem dX3_raised_23 : decode cX3_raised 23 = .ok (.iload 4, 2) := by decide +kernel
theorem dX3_raised_25 : decode cX3_raised 25 = .ok (.invokevirtual 23, 3) := by decide +kernel
theorem dX3_raised_28 : decode cX3_raised 28 = .ok (.istore_n 3, 1) := by decide +kernel
theorem dX3_raised_29 : decode cX3_raised 29 = .ok (.aload_n 0, 1) := by decide +kernel
theorem dX3_raised_30 : decode cX3_raised 30 = .ok (.iload 4, 2) := by decide +kernel
theorem dX3_raised_32 : decode cX3_raised 32 = .ok (.iload 4, 2) := by decide +kernel
theorem dX3_raised_34 : decode cX3_raised 34 = .ok (.invokevirtual 23, 3) := by decide +kernel
theorem dX3_raised_37 : decode cX3_raised 37 = .ok (.istore 4, 2) := by decide +kernel
theorem dX3_raised_39 : decode cX3_raised 39 = .ok (.iload 5, 2) := by decide +kernel
theorem dX3_raised_41 : decode cX3_raised 41 = .ok (.iconst 1, 1) := by decide +kernel
theorem dX3_raised_42 : decode cX3_raised 42 = .ok (.ishr, 1) := by decide +kernel
theorem dX3_raised_43 : decode cX3_raised 43 = .ok (.istore 5, 2) := by decide +kernel
theorem dX3_raised_45 : decode cX3_raised 45 = .ok (.goto (-37), 3) := by decide +kernel
theorem dX3_raised_48 : decode cX3_raised 48 = .ok (.iload_n 3, 1) := by decide +kernel
theorem dX3_raised_49 : decode cX3_raised 49 = .ok (.ireturn, 1) := by decide +kernel
theorem dX3_inverse_0 : decode cX3_inverse 0 = .ok (.aload_n 0, 1) := by decide +kernel
theorem dX3_inverse_1 : decode cX3_inverse 1 = .ok (.iload_n 1, 1) := by decide +kernel
theorem dX3_inverse_2 : decode cX3_inverse 2 = .ok (.aload_n 0, 1) := by decide +kernel
theorem dX3_inverse_3 : decode cX3_inverse 3 = .ok (.getfield 13, 3) := by decide +kernel
theorem dX3_inverse_6 : decode cX3_inverse 6 = .ok (.iconst 2, 1) := by decide +kernel
theorem dX3_inverse_7 : decode cX3_inverse 7 = .ok (.isub, 1) := by decide +kernel
theorem dX3_inverse_8 : decode cX3_inverse 8 = .ok (.invokevirtual 26, 3) := by decide +kernel
theorem dX3_inverse_11 : decode cX3_inverse 11 = .ok (.ireturn, 1) := by decide +kernel
theorem dX4_init_0 : decode cX4_init 0 = .ok (.aload_n 0, 1) := by decide +kernel
theorem dX4_init_1 : decode cX4_init 1 = .ok (.invokespecial 1, 3) := by decide +kernel
theorem dX4_init_4 : decode cX4_init 4 = .ok (.aload_n 0, 1) := by decide +kernel
theorem dX4_init_5 : decode cX4_init 5 = .ok (.iload_n 1, 1) := by decide +kernel
theorem dX4_init_6 : decode cX4_init 6 = .ok (.iconst 0, 1) := by decide +kernel
theorem dX4_init_7 : decode cX4_init 7 = .ok (.invokestatic 7, 3) := by decide +kernel
theorem dX4_init_10 : decode cX4_init 10 = .ok (.newarray .int, 2) := by decide +kernel
theorem dX4_init_12 : decode cX4_init 12 = .ok (.putfield 13, 3) := by decide +kernel
theorem dX4_init_15 : decode cX4_init 15 = .ok (.return_, 1) := by decide +kernel
theorem dX4_length_0 : decode cX4_length 0 = .ok (.aload_n 0, 1) := by decide +kernel
theorem dX4_length_1 : decode cX4_length 1 = .ok (.getfield 19, 3) := by decide +kernel
theorem dX4_length_4 : decode cX4_length 4 = .ok (.ireturn, 1) := by decide +kernel
theorem dX4_get_0 : decode cX4_get 0 = .ok (.iload_n 1, 1) := by decide +kernel
theorem dX4_get_1 : decode cX4_get 1 = .ok (.ifCond .lt 21, 3) := by decide +kernel
theorem dX4_get_4 : decode cX4_get 4 = .ok (.iload_n 1, 1) := by decide +kernel
theorem dX4_get_5 : decode cX4_get 5 = .ok (.aload_n 0, 1) := by decide +kernel
theorem dX4_get_6 : decode cX4_get 6 = .ok (.getfield 13, 3) := by decide +kernel
theorem dX4_get_9 : decode cX4_get 9 = .ok (.arraylength, 1) := by decide +kernel
theorem dX4_get_10 : decode cX4_get 10 = .ok (.if_icmp .ge 12, 3) := by decide +kernel
theorem dX4_get_13 : decode cX4_get 13 = .ok (.aload_n 0, 1) := by decide +kernel
theorem dX4_get_14 : decode cX4_get 14 = .ok (.getfield 13, 3) := by decide +kernel
theorem dX4_get_17 : decode cX4_get 17 = .ok (.iload_n 1, 1) := by decide +kernel
theorem dX4_get_18 : decode cX4_get 18 = .ok (.iaload, 1) := by decide +kernel
theorem dX4_get_19 : decode cX4_get 19 = .ok (.goto 4, 3) := by decide +kernel
theorem dX4_get_22 : decode cX4_get 22 = .ok (.iconst 0, 1) := by decide +kernel
theorem dX4_get_23 : decode cX4_get 23 = .ok (.ireturn, 1) := by decide +kernel
theorem dX4_lead_0 : decode cX4_lead 0 = .ok (.aload_n 0, 1) := by decide +kernel
theorem dX4_lead_1 : decode cX4_lead 1 = .ok (.aload_n 0, 1) := by decide +kernel
theorem dX4_lead_2 : decode cX4_lead 2 = .ok (.getfield 19, 3) := by decide +kernel
theorem dX4_lead_5 : decode cX4_lead 5 = .ok (.iconst 1, 1) := by decide +kernel
theorem dX4_lead_6 : decode cX4_lead 6 = .ok (.isub, 1) := by decide +kernel
theorem dX4_lead_7 : decode cX4_lead 7 = .ok (.invokevirtual 23, 3) := by decide +kernel
theorem dX4_lead_10 : decode cX4_lead 10 = .ok (.ireturn, 1) := by decide +kernel
theorem dX4_set_0 : decode cX4_set 0 = .ok (.iload_n 1, 1) := by decide +kernel
theorem dX4_set_1 : decode cX4_set 1 = .ok (.ifCond .lt 12, 3) := by decide +kernel
theorem dX4_set_4 : decode cX4_set 4 = .ok (.iload_n 1, 1) := by decide +kernel
theorem dX4_set_5 : decode cX4_set 5 = .ok (.aload_n 0, 1) := by decide +kernel
theorem dX4_set_6 : decode cX4_set 6 = .ok (.getfield 13, 3) := by decide +kernel
theorem dX4_set_9 : decode cX4_set 9 = .ok (.arraylength, 1) := by decide +kernel
theorem dX4_set_10 : decode cX4_set 10 = .ok (.if_icmp .lt 4, 3) := by decide +kernel
theorem dX4_set_13 : decode cX4_set 13 = .ok (.return_, 1) := by decide +kernel
theorem dX4_set_14 : decode cX4_set 14 = .ok (.aload_n 0, 1) := by decide +kernel
theorem dX4_set_15 : decode cX4_set 15 = .ok (.getfield 13, 3) := by decide +kernel
theorem dX4_set_18 : decode cX4_set 18 = .ok (.iload_n 1, 1) := by decide +kernel
theorem dX4_set_19 : decode cX4_set 19 = .ok (.iload_n 2, 1) := by decide +kernel
theorem dX4_set_20 : decode cX4_set 20 = .ok (.iastore, 1) := by decide +kernel
theorem dX4_set_21 : decode cX4_set 21 = .ok (.iload_n 2, 1) := by decide +kernel
theorem dX4_set_22 : decode cX4_set 22 = .ok (.ifCond .eq 18, 3) := by decide +kernel
theorem dX4_set_25 : decode cX4_set 25 = .ok (.iload_n 1, 1) := by decide +kernel
theorem dX4_set_26 : decode cX4_set 26 = .ok (.aload_n 0, 1) := by decide +kernel
theorem dX4_set_27 : decode cX4_set 27 = .ok (.getfield 19, 3) := by decide +kernel
theorem dX4_set_30 : decode cX4_set 30 = .ok (.if_icmp .lt 10, 3) := by decide +kernel
theorem dX4_set_33 : decode cX4_set 33 = .ok (.aload_n 0, 1) := by decide +kernel
theorem dX4_set_34 : decode cX4_set 34 = .ok (.iload_n 1, 1) := by decide +kernel
theorem dX4_set_35 : decode cX4_set 35 = .ok (.iconst 1, 1) := by decide +kernel
theorem dX4_set_36 : decode cX4_set 36 = .ok (.iadd, 1) := by decide +kernel
theorem dX4_set_37 : decode cX4_set 37 = .ok (.putfield 19, 3) := by decide +kernel
theorem dX4_set_40 : decode cX4_set 40 = .ok (.aload_n 0, 1) := by decide +kernel
theorem dX4_set_41 : decode cX4_set 41 = .ok (.getfield 19, 3) := by decide +kernel
theorem dX4_set_44 : decode cX4_set 44 = .ok (.ifCond .le 30, 3) := by decide +kernel
theorem dX4_set_47 : decode cX4_set 47 = .ok (.aload_n 0, 1) := by decide +kernel
theorem dX4_set_48 : decode cX4_set 48 = .ok (.getfield 13, 3) := by decide +kernel
theorem dX4_set_51 : decode cX4_set 51 = .ok (.aload_n 0, 1) := by decide +kernel
theorem dX4_set_52 : decode cX4_set 52 = .ok (.getfield 19, 3) := by decide +kernel
theorem dX4_set_55 : decode cX4_set 55 = .ok (.iconst 1, 1) := by decide +kernel
theorem dX4_set_56 : decode cX4_set 56 = .ok (.isub, 1) := by decide +kernel
theorem dX4_set_57 : decode cX4_set 57 = .ok (.iaload, 1) := by decide +kernel
theorem dX4_set_58 : decode cX4_set 58 = .ok (.ifCond .ne 16, 3) := by decide +kernel
theorem dX4_set_61 : decode cX4_set 61 = .ok (.aload_n 0, 1) := by decide +kernel
theorem dX4_set_62 : decode cX4_set 62 = .ok (.dup, 1) := by decide +kernel
theorem dX4_set_63 : decode cX4_set 63 = .ok (.getfield 19, 3) := by decide +kernel
theorem dX4_set_66 : decode cX4_set 66 = .ok (.iconst 1, 1) := by decide +kernel
theorem dX4_set_67 : decode cX4_set 67 = .ok (.isub, 1) := by decide +kernel
theorem dX4_set_68 : decode cX4_set 68 = .ok (.putfield 19, 3) := by decide +kernel
theorem dX4_set_71 : decode cX4_set 71 = .ok (.goto (-31), 3) := by decide +kernel
theorem dX4_set_74 : decode cX4_set 74 = .ok (.return_, 1) := by decide +kernel
theorem dX4_wipe_0 : decode cX4_wipe 0 = .ok (.iconst 0, 1) := by decide +kernel
theorem dX4_wipe_1 : decode cX4_wipe 1 = .ok (.istore_n 1, 1) := by decide +kernel
theorem dX4_wipe_2 : decode cX4_wipe 2 = .ok (.iload_n 1, 1) := by decide +kernel
theorem dX4_wipe_3 : decode cX4_wipe 3 = .ok (.aload_n 0, 1) := by decide +kernel
theorem dX4_wipe_4 : decode cX4_wipe 4 = .ok (.getfield 13, 3) := by decide +kernel
theorem dX4_wipe_7 : decode cX4_wipe 7 = .ok (.arraylength, 1) := by decide +kernel
theorem dX4_wipe_8 : decode cX4_wipe 8 = .ok (.if_icmp .ge 16, 3) := by decide +kernel
theorem dX4_wipe_11 : decode cX4_wipe 11 = .ok (.aload_n 0, 1) := by decide +kernel
theorem dX4_wipe_12 : decode cX4_wipe 12 = .ok (.getfield 13, 3) := by decide +kernel
theorem dX4_wipe_15 : decode cX4_wipe 15 = .ok (.iload_n 1, 1) := by decide +kernel
theorem dX4_wipe_16 : decode cX4_wipe 16 = .ok (.iconst 0, 1) := by decide +kernel
theorem dX4_wipe_17 : decode cX4_wipe 17 = .ok (.iastore, 1) := by decide +kernel
theorem dX4_wipe_18 : decode cX4_wipe 18 = .ok (.iinc 1 1, 3) := by decide +kernel
theorem dX4_wipe_21 : decode cX4_wipe 21 = .ok (.goto (-19), 3) := by decide +kernel
theorem dX4_wipe_24 : decode cX4_wipe 24 = .ok (.aload_n 0, 1) := by decide +kernel
theorem dX4_wipe_25 : decode cX4_wipe 25 = .ok (.iconst 0, 1) := by decide +kernel
theorem dX4_wipe_26 : decode cX4_wipe 26 = .ok (.putfield 19, 3) := by decide +kernel
theorem dX4_wipe_29 : decode cX4_wipe 29 = .ok (.return_, 1) := by decide +kernel
theorem dX4_copy_0 : decode cX4_copy 0 = .ok (.iconst 0, 1) := by decide +kernel
theorem dX4_copy_1 : decode cX4_copy 1 = .ok (.istore_n 2, 1) := by decide +kernel
theorem dX4_copy_2 : decode cX4_copy 2 = .ok (.iload_n 2, 1) := by decide +kernel
theorem dX4_copy_3 : decode cX4_copy 3 = .ok (.aload_n 0, 1) := by decide +kernel
theorem dX4_copy_4 : decode cX4_copy 4 = .ok (.getfield 13, 3) := by decide +kernel
theorem dX4_copy_7 : decode cX4_copy 7 = .ok (.arraylength, 1) := by decide +kernel
theorem dX4_copy_8 : decode cX4_copy 8 = .ok (.if_icmp .ge 19, 3) := by decide +kernel
theorem dX4_copy_11 : decode cX4_copy 11 = .ok (.aload_n 0, 1) := by decide +kernel
theorem dX4_copy_12 : decode cX4_copy 12 = .ok (.iload_n 2, 1) := by decide +kernel
theorem dX4_copy_13 : decode cX4_copy 13 = .ok (.aload_n 1, 1) := by decide +kernel
theorem dX4_copy_14 : decode cX4_copy 14 = .ok (.iload_n 2, 1) := by decide +kernel
theorem dX4_copy_15 : decode cX4_copy 15 = .ok (.invokevirtual 23, 3) := by decide +kernel
theorem dX4_copy_18 : decode cX4_copy 18 = .ok (.invokevirtual 27, 3) := by decide +kernel
theorem dX4_copy_21 : decode cX4_copy 21 = .ok (.iinc 2 1, 3) := by decide +kernel
theorem dX4_copy_24 : decode cX4_copy 24 = .ok (.goto (-22), 3) := by decide +kernel
theorem dX4_copy_27 : decode cX4_copy 27 = .ok (.return_, 1) := by decide +kernel
theorem dX4_isLike_0 : decode cX4_isLike 0 = .ok (.aload_n 0, 1) := by decide +kernel
theorem dX4_isLike_1 : decode cX4_isLike 1 = .ok (.getfield 19, 3) := by decide +kernel
theorem dX4_isLike_4 : decode cX4_isLike 4 = .ok (.aload_n 1, 1) := by decide +kernel
theorem dX4_isLike_5 : decode cX4_isLike 5 = .ok (.invokevirtual 31, 3) := by decide +kernel
theorem dX4_isLike_8 : decode cX4_isLike 8 = .ok (.if_icmp .eq 5, 3) := by decide +kernel
theorem dX4_isLike_11 : decode cX4_isLike 11 = .ok (.iconst 0, 1) := by decide +kernel
theorem dX4_isLike_12 : decode cX4_isLike 12 = .ok (.ireturn, 1) := by decide +kernel
theorem dX4_isLike_13 : decode cX4_isLike 13 = .ok (.iconst 0, 1) := by decide +kernel
theorem dX4_isLike_14 : decode cX4_isLike 14 = .ok (.istore_n 2, 1) := by decide +kernel
theorem dX4_isLike_15 : decode cX4_isLike 15 = .ok (.iload_n 2, 1) := by decide +kernel
theorem dX4_isLike_16 : decode cX4_isLike 16 = .ok (.aload_n 0, 1) := by decide +kernel
theorem dX4_isLike_17 : decode cX4_isLike 17 = .ok (.getfield 19, 3) := by decide +kernel
theorem dX4_isLike_20 : decode cX4_isLike 20 = .ok (.if_icmp .ge 24, 3) := by decide +kernel
theorem dX4_isLike_23 : decode cX4_isLike 23 = .ok (.aload_n 0, 1) := by decide +kernel
theorem dX4_isLike_24 : decode cX4_isLike 24 = .ok (.iload_n 2, 1) := by decide +kernel
theorem dX4_isLike_25 : decode cX4_isLike 25 = .ok (.invokevirtual 23, 3) := by decide +kernel
theorem dX4_isLike_28 : decode cX4_isLike 28 = .ok (.aload_n 1, 1) := by decide +kernel
theorem dX4_isLike_29 : decode cX4_isLike 29 = .ok (.iload_n 2, 1) := by decide +kernel
theorem dX4_isLike_30 : decode cX4_isLike 30 = .ok (.invokevirtual 23, 3) := by decide +kernel
theorem dX4_isLike_33 : decode cX4_isLike 33 = .ok (.if_icmp .eq 5, 3) := by decide +kernel
theorem dX4_isLike_36 : decode cX4_isLike 36 = .ok (.iconst 0, 1) := by decide +kernel
theorem dX4_isLike_37 : decode cX4_isLike 37 = .ok (.ireturn, 1) := by decide +kernel
theorem dX4_isLike_38 : decode cX4_isLike 38 = .ok (.iinc 2 1, 3) := by decide +kernel
theorem dX4_isLike_41 : decode cX4_isLike 41 = .ok (.goto (-26), 3) := by decide +kernel
theorem dX4_isLike_44 : decode cX4_isLike 44 = .ok (.iconst 1, 1) := by decide +kernel
theorem dX4_isLike_45 : decode cX4_isLike 45 = .ok (.ireturn, 1) := by decide +kernel
theorem dX5_init_0 : decode cX5_init 0 = .ok (.aload_n 0, 1) := by decide +kernel
theorem dX5_init_1 : decode cX5_init 1 = .ok (.invokespecial 3, 3) := by decide +kernel
theorem dX5_init_4 : decode cX5_init 4 = .ok (.aload_n 0, 1) := by decide +kernel
theorem dX5_init_5 : decode cX5_init 5 = .ok (.iconst (-1), 1) := by decide +kernel
theorem dX5_init_6 : decode cX5_init 6 = .ok (.putfield 11, 3) := by decide +kernel
theorem dX5_init_9 : decode cX5_init 9 = .ok (.aload_n 0, 1) := by decide +kernel
theorem dX5_init_10 : decode cX5_init 10 = .ok (.bipush 40, 2) := by decide +kernel
theorem dX5_init_12 : decode cX5_init 12 = .ok (.newarray .int, 2) := by decide +kernel
theorem dX5_init_14 : decode cX5_init 14 = .ok (.putfield 15, 3) := by decide +kernel
theorem dX5_init_17 : decode cX5_init 17 = .ok (.return_, 1) := by decide +kernel
theorem dX5_sort_0 : decode cX5_sort 0 = .ok (.aload_n 0, 1) := by decide +kernel
theorem dX5_sort_1 : decode cX5_sort 1 = .ok (.getfield 11, 3) := by decide +kernel
theorem dX5_sort_4 : decode cX5_sort 4 = .ok (.ireturn, 1) := by decide +kernel
theorem dX5_size_0 : decode cX5_size 0 = .ok (.aload_n 0, 1) := by decide +kernel
theorem dX5_size_1 : decode cX5_size 1 = .ok (.getfield 19, 3) := by decide +kernel
theorem dX5_size_4 : decode cX5_size 4 = .ok (.ireturn, 1) := by decide +kernel
theorem dX5_begin_0 : decode cX5_begin 0 = .ok (.aload_n 0, 1) := by decide +kernel
theorem dX5_begin_1 : decode cX5_begin 1 = .ok (.iload_n 1, 1) := by decide +kernel
theorem dX5_begin_2 : decode cX5_begin 2 = .ok (.putfield 11, 3) := by decide +kernel
theorem dX5_begin_5 : decode cX5_begin 5 = .ok (.aload_n 0, 1) := by decide +kernel
theorem dX5_begin_6 : decode cX5_begin 6 = .ok (.iload_n 2, 1) := by decide +kernel
theorem dX5_begin_7 : decode cX5_begin 7 = .ok (.bipush 40, 2) := by decide +kernel
theorem dX5_begin_9 : decode cX5_begin 9 = .ok (.invokestatic 22, 3) := by decide +kernel
theorem dX5_begin_12 : decode cX5_begin 12 = .ok (.putfield 19, 3) := by decide +kernel
theorem dX5_begin_15 : decode cX5_begin 15 = .ok (.iconst 0, 1) := by decide +kernel
theorem dX5_begin_16 : decode cX5_begin 16 = .ok (.istore_n 3, 1) := by decide +kernel
theorem dX5_begin_17 : decode cX5_begin 17 = .ok (.iload_n 3, 1) := by decide +kernel
theorem dX5_begin_18 : decode cX5_begin 18 = .ok (.bipush 40, 2) := by decide +kernel
theorem dX5_begin_20 : decode cX5_begin 20 = .ok (.if_icmp .ge 16, 3) := by decide +kernel
theorem dX5_begin_23 : decode cX5_begin 23 = .ok (.aload_n 0, 1) := by decide +kernel
theorem dX5_begin_24 : decode cX5_begin 24 = .ok (.getfield 15, 3) := by decide +kernel
theorem dX5_begin_27 : decode cX5_begin 27 = .ok (.iload_n 3, 1) := by decide +kernel
theorem dX5_begin_28 : decode cX5_begin 28 = .ok (.iconst 0, 1) := by decide +kernel
theorem dX5_begin_29 : decode cX5_begin 29 = .ok (.iastore, 1) := by decide +kernel
theorem dX5_begin_30 : decode cX5_begin 30 = .ok (.iinc 3 1, 3) := by decide +kernel
theorem dX5_begin_33 : decode cX5_begin 33 = .ok (.goto (-16), 3) := by decide +kernel
theorem dX5_begin_36 : decode cX5_begin 36 = .ok (.return_, 1) := by decide +kernel
theorem dX5_read_0 : decode cX5_read 0 = .ok (.iload_n 1, 1) := by decide +kernel
theorem dX5_read_1 : decode cX5_read 1 = .ok (.aload_n 0, 1) := by decide +kernel
theorem dX5_read_2 : decode cX5_read 2 = .ok (.getfield 19, 3) := by decide +kernel
theorem dX5_read_5 : decode cX5_read 5 = .ok (.invokestatic 28, 3) := by decide +kernel
theorem dX5_read_8 : decode cX5_read 8 = .ok (.ifCond .eq 21, 3) := by decide +kernel
theorem dX5_read_11 : decode cX5_read 11 = .ok (.iload_n 1, 1) := by decide +kernel
theorem dX5_read_12 : decode cX5_read 12 = .ok (.aload_n 0, 1) := by decide +kernel
theorem dX5_read_13 : decode cX5_read 13 = .ok (.getfield 15, 3) := by decide +kernel
theorem dX5_read_16 : decode cX5_read 16 = .ok (.arraylength, 1) := by decide +kernel
theorem dX5_read_17 : decode cX5_read 17 = .ok (.if_icmp .ge 12, 3) := by decide +kernel
theorem dX5_read_20 : decode cX5_read 20 = .ok (.aload_n 0, 1) := by decide +kernel
theorem dX5_read_21 : decode cX5_read 21 = .ok (.getfield 15, 3) := by decide +kernel
theorem dX5_read_24 : decode cX5_read 24 = .ok (.iload_n 1, 1) := by decide +kernel
theorem dX5_read_25 : decode cX5_read 25 = .ok (.iaload, 1) := by decide +kernel
theorem dX5_read_26 : decode cX5_read 26 = .ok (.goto 4, 3) := by decide +kernel
theorem dX5_read_29 : decode cX5_read 29 = .ok (.iconst 0, 1) := by decide +kernel
theorem dX5_read_30 : decode cX5_read 30 = .ok (.ireturn, 1) := by decide +kernel
theorem dX5_write_0 : decode cX5_write 0 = .ok (.iload_n 1, 1) := by decide +kernel
theorem dX5_write_1 : decode cX5_write 1 = .ok (.aload_n 0, 1) := by decide +kernel
theorem dX5_write_2 : decode cX5_write 2 = .ok (.getfield 19, 3) := by decide +kernel
theorem dX5_write_5 : decode cX5_write 5 = .ok (.invokestatic 28, 3) := by decide +kernel
theorem dX5_write_8 : decode cX5_write 8 = .ok (.ifCond .eq 12, 3) := by decide +kernel
theorem dX5_write_11 : decode cX5_write 11 = .ok (.iload_n 1, 1) := by decide +kernel
theorem dX5_write_12 : decode cX5_write 12 = .ok (.aload_n 0, 1) := by decide +kernel
theorem dX5_write_13 : decode cX5_write 13 = .ok (.getfield 15, 3) := by decide +kernel
theorem dX5_write_16 : decode cX5_write 16 = .ok (.arraylength, 1) := by decide +kernel
theorem dX5_write_17 : decode cX5_write 17 = .ok (.if_icmp .lt 4, 3) := by decide +kernel
theorem dX5_write_20 : decode cX5_write 20 = .ok (.return_, 1) := by decide +kernel
theorem dX5_write_21 : decode cX5_write 21 = .ok (.aload_n 0, 1) := by decide +kernel
theorem dX5_write_22 : decode cX5_write 22 = .ok (.getfield 11, 3) := by decide +kernel
theorem dX5_write_25 : decode cX5_write 25 = .ok (.lookupswitch 49 #[(0, 27), (1, 38)], 27) := by decide +kernel
theorem dX5_write_52 : decode cX5_write 52 = .ok (.aload_n 0, 1) := by decide +kernel
theorem dX5_write_53 : decode cX5_write 53 = .ok (.getfield 15, 3) := by decide +kernel
theorem dX5_write_56 : decode cX5_write 56 = .ok (.iload_n 1, 1) := by decide +kernel
theorem dX5_write_57 : decode cX5_write 57 = .ok (.iload_n 2, 1) := by decide +kernel
theorem dX5_write_58 : decode cX5_write 58 = .ok (.i2b, 1) := by decide +kernel
theorem dX5_write_59 : decode cX5_write 59 = .ok (.iastore, 1) := by decide +kernel
theorem dX5_write_60 : decode cX5_write 60 = .ok (.goto 21, 3) := by decide +kernel
theorem dX5_write_63 : decode cX5_write 63 = .ok (.aload_n 0, 1) := by decide +kernel
theorem dX5_write_64 : decode cX5_write 64 = .ok (.getfield 15, 3) := by decide +kernel
theorem dX5_write_67 : decode cX5_write 67 = .ok (.iload_n 1, 1) := by decide +kernel
theorem dX5_write_68 : decode cX5_write 68 = .ok (.iload_n 2, 1) := by decide +kernel
theorem dX5_write_69 : decode cX5_write 69 = .ok (.i2s, 1) := by decide +kernel
theorem dX5_write_70 : decode cX5_write 70 = .ok (.iastore, 1) := by decide +kernel
theorem dX5_write_71 : decode cX5_write 71 = .ok (.goto 10, 3) := by decide +kernel
theorem dX5_write_74 : decode cX5_write 74 = .ok (.aload_n 0, 1) := by decide +kernel
theorem dX5_write_75 : decode cX5_write 75 = .ok (.getfield 15, 3) := by decide +kernel
theorem dX5_write_78 : decode cX5_write 78 = .ok (.iload_n 1, 1) := by decide +kernel
theorem dX5_write_79 : decode cX5_write 79 = .ok (.iload_n 2, 1) := by decide +kernel
theorem dX5_write_80 : decode cX5_write 80 = .ok (.iastore, 1) := by decide +kernel
theorem dX5_write_81 : decode cX5_write 81 = .ok (.return_, 1) := by decide +kernel
theorem dX6_init_0 : decode cX6_init 0 = .ok (.aload_n 0, 1) := by decide +kernel
theorem dX6_init_1 : decode cX6_init 1 = .ok (.invokespecial 3, 3) := by decide +kernel
theorem dX6_init_4 : decode cX6_init 4 = .ok (.aload_n 0, 1) := by decide +kernel
theorem dX6_init_5 : decode cX6_init 5 = .ok (.sipush 160, 3) := by decide +kernel
theorem dX6_init_8 : decode cX6_init 8 = .ok (.newarray .byte, 2) := by decide +kernel
theorem dX6_init_10 : decode cX6_init 10 = .ok (.putfield 9, 3) := by decide +kernel
theorem dX6_init_13 : decode cX6_init 13 = .ok (.aload_n 0, 1) := by decide +kernel
theorem dX6_init_14 : decode cX6_init 14 = .ok (.sipush 160, 3) := by decide +kernel
theorem dX6_init_17 : decode cX6_init 17 = .ok (.newarray .int, 2) := by decide +kernel
theorem dX6_init_19 : decode cX6_init 19 = .ok (.putfield 15, 3) := by decide +kernel
theorem dX6_init_22 : decode cX6_init 22 = .ok (.aload_n 0, 1) := by decide +kernel
theorem dX6_init_23 : decode cX6_init 23 = .ok (.sipush 160, 3) := by decide +kernel
theorem dX6_init_26 : decode cX6_init 26 = .ok (.newarray .int, 2) := by decide +kernel
theorem dX6_init_28 : decode cX6_init 28 = .ok (.putfield 19, 3) := by decide +kernel
theorem dX6_init_31 : decode cX6_init 31 = .ok (.return_, 1) := by decide +kernel
theorem dX6_size_0 : decode cX6_size 0 = .ok (.aload_n 0, 1) := by decide +kernel
theorem dX6_size_1 : decode cX6_size 1 = .ok (.getfield 22, 3) := by decide +kernel
theorem dX6_size_4 : decode cX6_size 4 = .ok (.ireturn, 1) := by decide +kernel
theorem dX6_token_0 : decode cX6_token 0 = .ok (.iload_n 1, 1) := by decide +kernel
theorem dX6_token_1 : decode cX6_token 1 = .ok (.ifCond .lt 29, 3) := by decide +kernel
theorem dX6_token_4 : decode cX6_token 4 = .ok (.iload_n 1, 1) := by decide +kernel
theorem dX6_token_5 : decode cX6_token 5 = .ok (.aload_n 0, 1) := by decide +kernel
theorem dX6_token_6 : decode cX6_token 6 = .ok (.getfield 26, 3) := by decide +kernel
theorem dX6_token_9 : decode cX6_token 9 = .ok (.if_icmp .ge 21, 3) := by decide +kernel
theorem dX6_token_12 : decode cX6_token 12 = .ok (.iload_n 1, 1) := by decide +kernel
theorem dX6_token_13 : decode cX6_token 13 = .ok (.aload_n 0, 1) := by decide +kernel
theorem dX6_token_14 : decode cX6_token 14 = .ok (.getfield 15, 3) := by decide +kernel
theorem dX6_token_17 : decode cX6_token 17 = .ok (.arraylength, 1) := by decide +kernel
theorem dX6_token_18 : decode cX6_token 18 = .ok (.if_icmp .ge 12, 3) := by decide +kernel
theorem dX6_token_21 : decode cX6_token 21 = .ok (.aload_n 0, 1) := by decide +kernel
theorem dX6_token_22 : decode cX6_token 22 = .ok (.getfield 15, 3) := by decide +kernel
theorem dX6_token_25 : decode cX6_token 25 = .ok (.iload_n 1, 1) := by decide +kernel
theorem dX6_token_26 : decode cX6_token 26 = .ok (.iaload, 1) := by decide +kernel
theorem dX6_token_27 : decode cX6_token 27 = .ok (.goto 6, 3) := by decide +kernel
theorem dX6_token_30 : decode cX6_token 30 = .ok (.sipush 256, 3) := by decide +kernel
theorem dX6_token_33 : decode cX6_token 33 = .ok (.ireturn, 1) := by decide +kernel
theorem dX6_start_0 : decode cX6_start 0 = .ok (.iload_n 1, 1) := by decide +kernel
theorem dX6_start_1 : decode cX6_start 1 = .ok (.ifCond .lt 29, 3) := by decide +kernel
theorem dX6_start_4 : decode cX6_start 4 = .ok (.iload_n 1, 1) := by decide +kernel
theorem dX6_start_5 : decode cX6_start 5 = .ok (.aload_n 0, 1) := by decide +kernel
theorem dX6_start_6 : decode cX6_start 6 = .ok (.getfield 26, 3) := by decide +kernel
theorem dX6_start_9 : decode cX6_start 9 = .ok (.if_icmp .ge 21, 3) := by decide +kernel
theorem dX6_start_12 : decode cX6_start 12 = .ok (.iload_n 1, 1) := by decide +kernel
theorem dX6_start_13 : decode cX6_start 13 = .ok (.aload_n 0, 1) := by decide +kernel
theorem dX6_start_14 : decode cX6_start 14 = .ok (.getfield 19, 3) := by decide +kernel
theorem dX6_start_17 : decode cX6_start 17 = .ok (.arraylength, 1) := by decide +kernel
theorem dX6_start_18 : decode cX6_start 18 = .ok (.if_icmp .ge 12, 3) := by decide +kernel
theorem dX6_start_21 : decode cX6_start 21 = .ok (.aload_n 0, 1) := by decide +kernel
theorem dX6_start_22 : decode cX6_start 22 = .ok (.getfield 19, 3) := by decide +kernel
theorem dX6_start_25 : decode cX6_start 25 = .ok (.iload_n 1, 1) := by decide +kernel
theorem dX6_start_26 : decode cX6_start 26 = .ok (.iaload, 1) := by decide +kernel
theorem dX6_start_27 : decode cX6_start 27 = .ok (.goto 7, 3) := by decide +kernel
theorem dX6_start_30 : decode cX6_start 30 = .ok (.aload_n 0, 1) := by decide +kernel
theorem dX6_start_31 : decode cX6_start 31 = .ok (.getfield 22, 3) := by decide +kernel
theorem dX6_start_34 : decode cX6_start 34 = .ok (.ireturn, 1) := by decide +kernel
theorem dX6_wipe_0 : decode cX6_wipe 0 = .ok (.aload_n 0, 1) := by decide +kernel
theorem dX6_wipe_1 : decode cX6_wipe 1 = .ok (.iconst 0, 1) := by decide +kernel
theorem dX6_wipe_2 : decode cX6_wipe 2 = .ok (.putfield 22, 3) := by decide +kernel
theorem dX6_wipe_5 : decode cX6_wipe 5 = .ok (.return_, 1) := by decide +kernel
theorem dX6_append_0 : decode cX6_append 0 = .ok (.iconst 0, 1) := by decide +kernel
theorem dX6_append_1 : decode cX6_append 1 = .ok (.istore 4, 2) := by decide +kernel
theorem dX6_append_3 : decode cX6_append 3 = .ok (.iload 4, 2) := by decide +kernel
theorem dX6_append_5 : decode cX6_append 5 = .ok (.iload_n 1, 1) := by decide +kernel
theorem dX6_append_6 : decode cX6_append 6 = .ok (.if_icmp .ge 22, 3) := by decide +kernel
theorem dX6_append_9 : decode cX6_append 9 = .ok (.aload_n 0, 1) := by decide +kernel
theorem dX6_append_10 : decode cX6_append 10 = .ok (.lload_n 2, 1) := by decide +kernel
theorem dX6_append_11 : decode cX6_append 11 = .ok (.bipush 8, 2) := by decide +kernel
theorem dX6_append_13 : decode cX6_append 13 = .ok (.iload 4, 2) := by decide +kernel
theorem dX6_append_15 : decode cX6_append 15 = .ok (.imul, 1) := by decide +kernel
theorem dX6_append_16 : decode cX6_append 16 = .ok (.lshr, 1) := by decide +kernel
theorem dX6_append_17 : decode cX6_append 17 = .ok (.l2i, 1) := by decide +kernel
theorem dX6_append_18 : decode cX6_append 18 = .ok (.i2b, 1) := by decide +kernel
theorem dX6_append_19 : decode cX6_append 19 = .ok (.invokevirtual 29, 3) := by decide +kernel
theorem dX6_append_22 : decode cX6_append 22 = .ok (.iinc 4 1, 3) := by decide +kernel
theorem dX6_append_25 : decode cX6_append 25 = .ok (.goto (-22), 3) := by decide +kernel
theorem dX6_append_28 : decode cX6_append 28 = .ok (.return_, 1) := by decide +kernel
theorem dX6_write_0 : decode cX6_write 0 = .ok (.iconst 0, 1) := by decide +kernel
theorem dX6_write_1 : decode cX6_write 1 = .ok (.istore_n 2, 1) := by decide +kernel
theorem dX6_write_2 : decode cX6_write 2 = .ok (.iload_n 2, 1) := by decide +kernel
theorem dX6_write_3 : decode cX6_write 3 = .ok (.aload_n 1, 1) := by decide +kernel
theorem dX6_write_4 : decode cX6_write 4 = .ok (.invokevirtual 33, 3) := by decide +kernel
theorem dX6_write_7 : decode cX6_write 7 = .ok (.if_icmp .ge 19, 3) := by decide +kernel
theorem dX6_write_10 : decode cX6_write 10 = .ok (.aload_n 0, 1) := by decide +kernel
theorem dX6_write_11 : decode cX6_write 11 = .ok (.aload_n 1, 1) := by decide +kernel
theorem dX6_write_12 : decode cX6_write 12 = .ok (.iload_n 2, 1) := by decide +kernel
theorem dX6_write_13 : decode cX6_write 13 = .ok (.invokevirtual 39, 3) := by decide +kernel
theorem dX6_write_16 : decode cX6_write 16 = .ok (.i2b, 1) := by decide +kernel
theorem dX6_write_17 : decode cX6_write 17 = .ok (.invokevirtual 29, 3) := by decide +kernel
theorem dX6_write_20 : decode cX6_write 20 = .ok (.iinc 2 1, 3) := by decide +kernel
theorem dX6_write_23 : decode cX6_write 23 = .ok (.goto (-21), 3) := by decide +kernel
theorem dX6_write_26 : decode cX6_write 26 = .ok (.return_, 1) := by decide +kernel
theorem dX6_add_0 : decode cX6_add 0 = .ok (.aload_n 0, 1) := by decide +kernel
theorem dX6_add_1 : decode cX6_add 1 = .ok (.getfield 22, 3) := by decide +kernel
theorem dX6_add_4 : decode cX6_add 4 = .ok (.aload_n 0, 1) := by decide +kernel
theorem dX6_add_5 : decode cX6_add 5 = .ok (.getfield 9, 3) := by decide +kernel
theorem dX6_add_8 : decode cX6_add 8 = .ok (.arraylength, 1) := by decide +kernel
theorem dX6_add_9 : decode cX6_add 9 = .ok (.if_icmp .ge 23, 3) := by decide +kernel
theorem dX6_add_12 : decode cX6_add 12 = .ok (.aload_n 0, 1) := by decide +kernel
theorem dX6_add_13 : decode cX6_add 13 = .ok (.getfield 9, 3) := by decide +kernel
theorem dX6_add_16 : decode cX6_add 16 = .ok (.aload_n 0, 1) := by decide +kernel
theorem dX6_add_17 : decode cX6_add 17 = .ok (.getfield 22, 3) := by decide +kernel
theorem dX6_add_20 : decode cX6_add 20 = .ok (.iload_n 1, 1) := by decide +kernel
theorem dX6_add_21 : decode cX6_add 21 = .ok (.bastore, 1) := by decide +kernel
theorem dX6_add_22 : decode cX6_add 22 = .ok (.aload_n 0, 1) := by decide +kernel
theorem dX6_add_23 : decode cX6_add 23 = .ok (.dup, 1) := by decide +kernel
theorem dX6_add_24 : decode cX6_add 24 = .ok (.getfield 22, 3) := by decide +kernel
theorem dX6_add_27 : decode cX6_add 27 = .ok (.iconst 1, 1) := by decide +kernel
theorem dX6_add_28 : decode cX6_add 28 = .ok (.iadd, 1) := by decide +kernel
theorem dX6_add_29 : decode cX6_add 29 = .ok (.putfield 22, 3) := by decide +kernel
theorem dX6_add_32 : decode cX6_add 32 = .ok (.return_, 1) := by decide +kernel
theorem dX6_byteAt_0 : decode cX6_byteAt 0 = .ok (.iload_n 1, 1) := by decide +kernel
theorem dX6_byteAt_1 : decode cX6_byteAt 1 = .ok (.ifCond .lt 29, 3) := by decide +kernel
theorem dX6_byteAt_4 : decode cX6_byteAt 4 = .ok (.iload_n 1, 1) := by decide +kernel
theorem dX6_byteAt_5 : decode cX6_byteAt 5 = .ok (.aload_n 0, 1) := by decide +kernel
theorem dX6_byteAt_6 : decode cX6_byteAt 6 = .ok (.getfield 22, 3) := by decide +kernel
theorem dX6_byteAt_9 : decode cX6_byteAt 9 = .ok (.if_icmp .ge 21, 3) := by decide +kernel
theorem dX6_byteAt_12 : decode cX6_byteAt 12 = .ok (.iload_n 1, 1) := by decide +kernel
theorem dX6_byteAt_13 : decode cX6_byteAt 13 = .ok (.aload_n 0, 1) := by decide +kernel
theorem dX6_byteAt_14 : decode cX6_byteAt 14 = .ok (.getfield 9, 3) := by decide +kernel
theorem dX6_byteAt_17 : decode cX6_byteAt 17 = .ok (.arraylength, 1) := by decide +kernel
theorem dX6_byteAt_18 : decode cX6_byteAt 18 = .ok (.if_icmp .ge 12, 3) := by decide +kernel
theorem dX6_byteAt_21 : decode cX6_byteAt 21 = .ok (.aload_n 0, 1) := by decide +kernel
theorem dX6_byteAt_22 : decode cX6_byteAt 22 = .ok (.getfield 9, 3) := by decide +kernel
theorem dX6_byteAt_25 : decode cX6_byteAt 25 = .ok (.iload_n 1, 1) := by decide +kernel
theorem dX6_byteAt_26 : decode cX6_byteAt 26 = .ok (.baload, 1) := by decide +kernel
theorem dX6_byteAt_27 : decode cX6_byteAt 27 = .ok (.goto 6, 3) := by decide +kernel
theorem dX6_byteAt_30 : decode cX6_byteAt 30 = .ok (.sipush 256, 3) := by decide +kernel
theorem dX6_byteAt_33 : decode cX6_byteAt 33 = .ok (.ireturn, 1) := by decide +kernel
theorem dX6_cutUp_0 : decode cX6_cutUp 0 = .ok (.aload_n 0, 1) := by decide +kernel
theorem dX6_cutUp_1 : decode cX6_cutUp 1 = .ok (.iconst 0, 1) := by decide +kernel
theorem dX6_cutUp_2 : decode cX6_cutUp 2 = .ok (.putfield 26, 3) := by decide +kernel
theorem dX6_cutUp_5 : decode cX6_cutUp 5 = .ok (.aload_n 0, 1) := by decide +kernel
theorem dX6_cutUp_6 : decode cX6_cutUp 6 = .ok (.iconst 0, 1) := by decide +kernel
theorem dX6_cutUp_7 : decode cX6_cutUp 7 = .ok (.putfield 43, 3) := by decide +kernel
theorem dX6_cutUp_10 : decode cX6_cutUp 10 = .ok (.aload_n 0, 1) := by decide +kernel
theorem dX6_cutUp_11 : decode cX6_cutUp 11 = .ok (.invokevirtual 46, 3) := by decide +kernel
theorem dX6_cutUp_14 : decode cX6_cutUp 14 = .ok (.aload_n 0, 1) := by decide +kernel
theorem dX6_cutUp_15 : decode cX6_cutUp 15 = .ok (.getfield 43, 3) := by decide +kernel
theorem dX6_cutUp_18 : decode cX6_cutUp 18 = .ok (.aload_n 0, 1) := by decide +kernel
theorem dX6_cutUp_19 : decode cX6_cutUp 19 = .ok (.getfield 22, 3) := by decide +kernel
theorem dX6_cutUp_22 : decode cX6_cutUp 22 = .ok (.if_icmp .ge 58, 3) := by decide +kernel
theorem dX6_cutUp_25 : decode cX6_cutUp 25 = .ok (.aload_n 0, 1) := by decide +kernel
theorem dX6_cutUp_26 : decode cX6_cutUp 26 = .ok (.getfield 26, 3) := by decide +kernel
theorem dX6_cutUp_29 : decode cX6_cutUp 29 = .ok (.aload_n 0, 1) := by decide +kernel
theorem dX6_cutUp_30 : decode cX6_cutUp 30 = .ok (.getfield 15, 3) := by decide +kernel
theorem dX6_cutUp_33 : decode cX6_cutUp 33 = .ok (.arraylength, 1) := by decide +kernel
theorem dX6_cutUp_34 : decode cX6_cutUp 34 = .ok (.if_icmp .ge 46, 3) := by decide +kernel
theorem dX6_cutUp_37 : decode cX6_cutUp 37 = .ok (.aload_n 0, 1) := by decide +kernel
theorem dX6_cutUp_38 : decode cX6_cutUp 38 = .ok (.getfield 19, 3) := by decide +kernel
theorem dX6_cutUp_41 : decode cX6_cutUp 41 = .ok (.aload_n 0, 1) := by decide +kernel
theorem dX6_cutUp_42 : decode cX6_cutUp 42 = .ok (.getfield 26, 3) := by decide +kernel
theorem dX6_cutUp_45 : decode cX6_cutUp 45 = .ok (.aload_n 0, 1) := by decide +kernel
theorem dX6_cutUp_46 : decode cX6_cutUp 46 = .ok (.getfield 43, 3) := by decide +kernel
theorem dX6_cutUp_49 : decode cX6_cutUp 49 = .ok (.iastore, 1) := by decide +kernel
theorem dX6_cutUp_50 : decode cX6_cutUp 50 = .ok (.aload_n 0, 1) := by decide +kernel
theorem dX6_cutUp_51 : decode cX6_cutUp 51 = .ok (.getfield 15, 3) := by decide +kernel
theorem dX6_cutUp_54 : decode cX6_cutUp 54 = .ok (.aload_n 0, 1) := by decide +kernel
theorem dX6_cutUp_55 : decode cX6_cutUp 55 = .ok (.getfield 26, 3) := by decide +kernel
theorem dX6_cutUp_58 : decode cX6_cutUp 58 = .ok (.aload_n 0, 1) := by decide +kernel
theorem dX6_cutUp_59 : decode cX6_cutUp 59 = .ok (.invokevirtual 49, 3) := by decide +kernel
theorem dX6_cutUp_62 : decode cX6_cutUp 62 = .ok (.iastore, 1) := by decide +kernel
theorem dX6_cutUp_63 : decode cX6_cutUp 63 = .ok (.aload_n 0, 1) := by decide +kernel
theorem dX6_cutUp_64 : decode cX6_cutUp 64 = .ok (.dup, 1) := by decide +kernel
theorem dX6_cutUp_65 : decode cX6_cutUp 65 = .ok (.getfield 26, 3) := by decide +kernel
theorem dX6_cutUp_68 : decode cX6_cutUp 68 = .ok (.iconst 1, 1) := by decide +kernel
theorem dX6_cutUp_69 : decode cX6_cutUp 69 = .ok (.iadd, 1) := by decide +kernel
theorem dX6_cutUp_70 : decode cX6_cutUp 70 = .ok (.putfield 26, 3) := by decide +kernel
theorem dX6_cutUp_73 : decode cX6_cutUp 73 = .ok (.aload_n 0, 1) := by decide +kernel
theorem dX6_cutUp_74 : decode cX6_cutUp 74 = .ok (.invokevirtual 46, 3) := by decide +kernel
theorem dX6_cutUp_77 : decode cX6_cutUp 77 = .ok (.goto (-63), 3) := by decide +kernel
theorem dX6_cutUp_80 : decode cX6_cutUp 80 = .ok (.return_, 1) := by decide +kernel
theorem dX6_skipBlanks_0 : decode cX6_skipBlanks 0 = .ok (.aload_n 0, 1) := by decide +kernel
theorem dX6_skipBlanks_1 : decode cX6_skipBlanks 1 = .ok (.getfield 43, 3) := by decide +kernel
theorem dX6_skipBlanks_4 : decode cX6_skipBlanks 4 = .ok (.aload_n 0, 1) := by decide +kernel
theorem dX6_skipBlanks_5 : decode cX6_skipBlanks 5 = .ok (.getfield 22, 3) := by decide +kernel
theorem dX6_skipBlanks_8 : decode cX6_skipBlanks 8 = .ok (.if_icmp .ge 42, 3) := by decide +kernel
theorem dX6_skipBlanks_11 : decode cX6_skipBlanks 11 = .ok (.aload_n 0, 1) := by decide +kernel
theorem dX6_skipBlanks_12 : decode cX6_skipBlanks 12 = .ok (.aload_n 0, 1) := by decide +kernel
theorem dX6_skipBlanks_13 : decode cX6_skipBlanks 13 = .ok (.getfield 43, 3) := by decide +kernel
theorem dX6_skipBlanks_16 : decode cX6_skipBlanks 16 = .ok (.invokevirtual 52, 3) := by decide +kernel
theorem dX6_skipBlanks_19 : decode cX6_skipBlanks 19 = .ok (.bipush 32, 2) := by decide +kernel
theorem dX6_skipBlanks_21 : decode cX6_skipBlanks 21 = .ok (.if_icmp .eq 16, 3) := by decide +kernel
theorem dX6_skipBlanks_24 : decode cX6_skipBlanks 24 = .ok (.aload_n 0, 1) := by decide +kernel
theorem dX6_skipBlanks_25 : decode cX6_skipBlanks 25 = .ok (.aload_n 0, 1) := by decide +kernel
theorem dX6_skipBlanks_26 : decode cX6_skipBlanks 26 = .ok (.getfield 43, 3) := by decide +kernel
theorem dX6_skipBlanks_29 : decode cX6_skipBlanks 29 = .ok (.invokevirtual 52, 3) := by decide +kernel
theorem dX6_skipBlanks_32 : decode cX6_skipBlanks 32 = .ok (.bipush 10, 2) := by decide +kernel
theorem dX6_skipBlanks_34 : decode cX6_skipBlanks 34 = .ok (.if_icmp .ne 16, 3) := by decide +kernel
theorem dX6_skipBlanks_37 : decode cX6_skipBlanks 37 = .ok (.aload_n 0, 1) := by decide +kernel
theorem dX6_skipBlanks_38 : decode cX6_skipBlanks 38 = .ok (.dup, 1) := by decide +kernel
theorem dX6_skipBlanks_39 : decode cX6_skipBlanks 39 = .ok (.getfield 43, 3) := by decide +kernel
theorem dX6_skipBlanks_42 : decode cX6_skipBlanks 42 = .ok (.iconst 1, 1) := by decide +kernel
theorem dX6_skipBlanks_43 : decode cX6_skipBlanks 43 = .ok (.iadd, 1) := by decide +kernel
theorem dX6_skipBlanks_44 : decode cX6_skipBlanks 44 = .ok (.putfield 43, 3) := by decide +kernel
theorem dX6_skipBlanks_47 : decode cX6_skipBlanks 47 = .ok (.goto (-47), 3) := by decide +kernel
theorem dX6_skipBlanks_50 : decode cX6_skipBlanks 50 = .ok (.return_, 1) := by decide +kernel
theorem dX6_readToken_0 : decode cX6_readToken 0 = .ok (.aload_n 0, 1) := by decide +kernel
theorem dX6_readToken_1 : decode cX6_readToken 1 = .ok (.aload_n 0, 1) := by decide +kernel
theorem dX6_readToken_2 : decode cX6_readToken 2 = .ok (.getfield 43, 3) := by decide +kernel
theorem dX6_readToken_5 : decode cX6_readToken 5 = .ok (.invokevirtual 52, 3) := by decide +kernel
theorem dX6_readToken_8 : decode cX6_readToken 8 = .ok (.istore_n 1, 1) := by decide +kernel
theorem dX6_readToken_9 : decode cX6_readToken 9 = .ok (.iload_n 1, 1) := by decide +kernel
theorem dX6_readToken_10 : decode cX6_readToken 10 = .ok (.invokestatic 56, 3) := by decide +kernel
theorem dX6_readToken_13 : decode cX6_readToken 13 = .ok (.ifCond .eq 8, 3) := by decide +kernel
theorem dX6_readToken_16 : decode cX6_readToken 16 = .ok (.aload_n 0, 1) := by decide +kernel
theorem dX6_readToken_17 : decode cX6_readToken 17 = .ok (.invokevirtual 60, 3) := by decide +kernel
theorem dX6_readToken_20 : decode cX6_readToken 20 = .ok (.ireturn, 1) := by decide +kernel
theorem dX6_readToken_21 : decode cX6_readToken 21 = .ok (.iload_n 1, 1) := by decide +kernel
theorem dX6_readToken_22 : decode cX6_readToken 22 = .ok (.invokestatic 63, 3) := by decide +kernel
theorem dX6_readToken_25 : decode cX6_readToken 25 = .ok (.ifCond .eq 8, 3) := by decide +kernel
theorem dX6_readToken_28 : decode cX6_readToken 28 = .ok (.aload_n 0, 1) := by decide +kernel
theorem dX6_readToken_29 : decode cX6_readToken 29 = .ok (.invokevirtual 66, 3) := by decide +kernel
theorem dX6_readToken_32 : decode cX6_readToken 32 = .ok (.ireturn, 1) := by decide +kernel
theorem dX6_readToken_33 : decode cX6_readToken 33 = .ok (.aload_n 0, 1) := by decide +kernel
theorem dX6_readToken_34 : decode cX6_readToken 34 = .ok (.dup, 1) := by decide +kernel
theorem dX6_readToken_35 : decode cX6_readToken 35 = .ok (.getfield 43, 3) := by decide +kernel
theorem dX6_readToken_38 : decode cX6_readToken 38 = .ok (.iconst 1, 1) := by decide +kernel
theorem dX6_readToken_39 : decode cX6_readToken 39 = .ok (.iadd, 1) := by decide +kernel
theorem dX6_readToken_40 : decode cX6_readToken 40 = .ok (.putfield 43, 3) := by decide +kernel
theorem dX6_readToken_43 : decode cX6_readToken 43 = .ok (.iload_n 1, 1) := by decide +kernel
theorem dX6_readToken_44 : decode cX6_readToken 44 = .ok (.invokestatic 69, 3) := by decide +kernel
theorem dX6_readToken_47 : decode cX6_readToken 47 = .ok (.ifCond .eq 7, 3) := by decide +kernel
theorem dX6_readToken_50 : decode cX6_readToken 50 = .ok (.iload_n 1, 1) := by decide +kernel
theorem dX6_readToken_51 : decode cX6_readToken 51 = .ok (.goto 6, 3) := by decide +kernel
theorem dX6_readToken_54 : decode cX6_readToken 54 = .ok (.sipush 257, 3) := by decide +kernel
theorem dX6_readToken_57 : decode cX6_readToken 57 = .ok (.ireturn, 1) := by decide +kernel
theorem dX6_isLetter_0 : decode cX6_isLetter 0 = .ok (.iload_n 0, 1) := by decide +kernel
theorem dX6_isLetter_1 : decode cX6_isLetter 1 = .ok (.bipush 97, 2) := by decide +kernel
theorem dX6_isLetter_3 : decode cX6_isLetter 3 = .ok (.if_icmp .lt 13, 3) := by decide +kernel
theorem dX6_isLetter_6 : decode cX6_isLetter 6 = .ok (.iload_n 0, 1) := by decide +kernel
theorem dX6_isLetter_7 : decode cX6_isLetter 7 = .ok (.bipush 122, 2) := by decide +kernel
theorem dX6_isLetter_9 : decode cX6_isLetter 9 = .ok (.if_icmp .gt 7, 3) := by decide +kernel
theorem dX6_isLetter_12 : decode cX6_isLetter 12 = .ok (.iconst 1, 1) := by decide +kernel
theorem dX6_isLetter_13 : decode cX6_isLetter 13 = .ok (.goto 4, 3) := by decide +kernel
theorem dX6_isLetter_16 : decode cX6_isLetter 16 = .ok (.iconst 0, 1) := by decide +kernel
theorem dX6_isLetter_17 : decode cX6_isLetter 17 = .ok (.ireturn, 1) := by decide +kernel
theorem dX6_isDigit_0 : decode cX6_isDigit 0 = .ok (.iload_n 0, 1) := by decide +kernel
theorem dX6_isDigit_1 : decode cX6_isDigit 1 = .ok (.bipush 48, 2) := by decide +kernel
theorem dX6_isDigit_3 : decode cX6_isDigit 3 = .ok (.if_icmp .lt 13, 3) := by decide +kernel
theorem dX6_isDigit_6 : decode cX6_isDigit 6 = .ok (.iload_n 0, 1) := by decide +kernel
theorem dX6_isDigit_7 : decode cX6_isDigit 7 = .ok (.bipush 57, 2) := by decide +kernel
theorem dX6_isDigit_9 : decode cX6_isDigit 9 = .ok (.if_icmp .gt 7, 3) := by decide +kernel
theorem dX6_isDigit_12 : decode cX6_isDigit 12 = .ok (.iconst 1, 1) := by decide +kernel
theorem dX6_isDigit_13 : decode cX6_isDigit 13 = .ok (.goto 4, 3) := by decide +kernel
theorem dX6_isDigit_16 : decode cX6_isDigit 16 = .ok (.iconst 0, 1) := by decide +kernel
theorem dX6_isDigit_17 : decode cX6_isDigit 17 = .ok (.ireturn, 1) := by decide +kernel
theorem dX6_isSign_0 : decode cX6_isSign 0 = .ok (.iload_n 0, 1) := by decide +kernel
theorem dX6_isSign_1 : decode cX6_isSign 1 = .ok (.tableswitch 105 40 61 #[103, 103, 103, 103, 105, 103, 105, 105, 105, 105, 105, 105, 105, 105, 105, 105, 105, 105, 105, 103, 103, 103], 103) := by decide +kernel
theorem dX6_isSign_104 : decode cX6_isSign 104 = .ok (.iconst 1, 1) := by decide +kernel
theorem dX6_isSign_105 : decode cX6_isSign 105 = .ok (.ireturn, 1) := by decide +kernel
theorem dX6_isSign_106 : decode cX6_isSign 106 = .ok (.iconst 0, 1) := by decide +kernel
theorem dX6_isSign_107 : decode cX6_isSign 107 = .ok (.ireturn, 1) := by decide +kernel
theorem dX6_readNumber_0 : decode cX6_readNumber 0 = .ok (.aload_n 0, 1) := by decide +kernel
theorem dX6_readNumber_1 : decode cX6_readNumber 1 = .ok (.getfield 43, 3) := by decide +kernel
theorem dX6_readNumber_4 : decode cX6_readNumber 4 = .ok (.istore_n 1, 1) := by decide +kernel
theorem dX6_readNumber_5 : decode cX6_readNumber 5 = .ok (.iconst 0, 1) := by decide +kernel
theorem dX6_readNumber_6 : decode cX6_readNumber 6 = .ok (.istore_n 2, 1) := by decide +kernel
theorem dX6_readNumber_7 : decode cX6_readNumber 7 = .ok (.aload_n 0, 1) := by decide +kernel
theorem dX6_readNumber_8 : decode cX6_readNumber 8 = .ok (.getfield 43, 3) := by decide +kernel
theorem dX6_readNumber_11 : decode cX6_readNumber 11 = .ok (.aload_n 0, 1) := by decide +kernel
theorem dX6_readNumber_12 : decode cX6_readNumber 12 = .ok (.getfield 22, 3) := by decide +kernel
theorem dX6_readNumber_15 : decode cX6_readNumber 15 = .ok (.if_icmp .ge 47, 3) := by decide +kernel
theorem dX6_readNumber_18 : decode cX6_readNumber 18 = .ok (.aload_n 0, 1) := by decide +kernel
theorem dX6_readNumber_19 : decode cX6_readNumber 19 = .ok (.aload_n 0, 1) := by decide +kernel
theorem dX6_readNumber_20 : decode cX6_readNumber 20 = .ok (.getfield 43, 3) := by decide +kernel
theorem dX6_readNumber_23 : decode cX6_readNumber 23 = .ok (.invokevirtual 52, 3) := by decide +kernel
theorem dX6_readNumber_26 : decode cX6_readNumber 26 = .ok (.invokestatic 63, 3) := by decide +kernel
theorem dX6_readNumber_29 : decode cX6_readNumber 29 = .ok (.ifCond .eq 33, 3) := by decide +kernel
theorem dX6_readNumber_32 : decode cX6_readNumber 32 = .ok (.bipush 10, 2) := by decide +kernel
theorem dX6_readNumber_34 : decode cX6_readNumber 34 = .ok (.iload_n 2, 1) := by decide +kernel
theorem dX6_readNumber_35 : decode cX6_readNumber 35 = .ok (.imul, 1) := by decide +kernel
theorem dX6_readNumber_36 : decode cX6_readNumber 36 = .ok (.aload_n 0, 1) := by decide +kernel
theorem dX6_readNumber_37 : decode cX6_readNumber 37 = .ok (.aload_n 0, 1) := by decide +kernel
theorem dX6_readNumber_38 : decode cX6_readNumber 38 = .ok (.getfield 43, 3) := by decide +kernel
theorem dX6_readNumber_41 : decode cX6_readNumber 41 = .ok (.invokevirtual 52, 3) := by decide +kernel
theorem dX6_readNumber_44 : decode cX6_readNumber 44 = .ok (.iadd, 1) := by decide +kernel
theorem dX6_readNumber_45 : decode cX6_readNumber 45 = .ok (.bipush 48, 2) := by decide +kernel
theorem dX6_readNumber_47 : decode cX6_readNumber 47 = .ok (.isub, 1) := by decide +kernel
theorem dX6_readNumber_48 : decode cX6_readNumber 48 = .ok (.istore_n 2, 1) := by decide +kernel
theorem dX6_readNumber_49 : decode cX6_readNumber 49 = .ok (.aload_n 0, 1) := by decide +kernel
theorem dX6_readNumber_50 : decode cX6_readNumber 50 = .ok (.dup, 1) := by decide +kernel
theorem dX6_readNumber_51 : decode cX6_readNumber 51 = .ok (.getfield 43, 3) := by decide +kernel
theorem dX6_readNumber_54 : decode cX6_readNumber 54 = .ok (.iconst 1, 1) := by decide +kernel
theorem dX6_readNumber_55 : decode cX6_readNumber 55 = .ok (.iadd, 1) := by decide +kernel
theorem dX6_readNumber_56 : decode cX6_readNumber 56 = .ok (.putfield 43, 3) := by decide +kernel
theorem dX6_readNumber_59 : decode cX6_readNumber 59 = .ok (.goto (-52), 3) := by decide +kernel
theorem dX6_readNumber_62 : decode cX6_readNumber 62 = .ok (.aload_n 0, 1) := by decide +kernel
theorem dX6_readNumber_63 : decode cX6_readNumber 63 = .ok (.getfield 43, 3) := by decide +kernel
theorem dX6_readNumber_66 : decode cX6_readNumber 66 = .ok (.iload_n 1, 1) := by decide +kernel
theorem dX6_readNumber_67 : decode cX6_readNumber 67 = .ok (.isub, 1) := by decide +kernel
theorem dX6_readNumber_68 : decode cX6_readNumber 68 = .ok (.iconst 4, 1) := by decide +kernel
theorem dX6_readNumber_69 : decode cX6_readNumber 69 = .ok (.if_icmp .le 9, 3) := by decide +kernel
theorem dX6_readNumber_72 : decode cX6_readNumber 72 = .ok (.sipush 257, 3) := by decide +kernel
theorem dX6_readNumber_75 : decode cX6_readNumber 75 = .ok (.goto 8, 3) := by decide +kernel
theorem dX6_readNumber_78 : decode cX6_readNumber 78 = .ok (.sipush 1000, 3) := by decide +kernel
theorem dX6_readNumber_81 : decode cX6_readNumber 81 = .ok (.iload_n 2, 1) := by decide +kernel
theorem dX6_readNumber_82 : decode cX6_readNumber 82 = .ok (.iadd, 1) := by decide +kernel
theorem dX6_readNumber_83 : decode cX6_readNumber 83 = .ok (.ireturn, 1) := by decide +kernel
theorem dX6_readWord_0 : decode cX6_readWord 0 = .ok (.aload_n 0, 1) := by decide +kernel
theorem dX6_readWord_1 : decode cX6_readWord 1 = .ok (.getfield 43, 3) := by decide +kernel
theorem dX6_readWord_4 : decode cX6_readWord 4 = .ok (.istore_n 1, 1) := by decide +kernel
theorem dX6_readWord_5 : decode cX6_readWord 5 = .ok (.aload_n 0, 1) := by decide +kernel
theorem dX6_readWord_6 : decode cX6_readWord 6 = .ok (.getfield 43, 3) := by decide +kernel
theorem dX6_readWord_9 : decode cX6_readWord 9 = .ok (.aload_n 0, 1) := by decide +kernel
theorem dX6_readWord_10 : decode cX6_readWord 10 = .ok (.getfield 22, 3) := by decide +kernel
theorem dX6_readWord_13 : decode cX6_readWord 13 = .ok (.if_icmp .ge 30, 3) := by decide +kernel
theorem dX6_readWord_16 : decode cX6_readWord 16 = .ok (.aload_n 0, 1) := by decide +kernel
theorem dX6_readWord_17 : decode cX6_readWord 17 = .ok (.aload_n 0, 1) := by decide +kernel
theorem dX6_readWord_18 : decode cX6_readWord 18 = .ok (.getfield 43, 3) := by decide +kernel
theorem dX6_readWord_21 : decode cX6_readWord 21 = .ok (.invokevirtual 52, 3) := by decide +kernel
theorem dX6_readWord_24 : decode cX6_readWord 24 = .ok (.invokestatic 56, 3) := by decide +kernel
theorem dX6_readWord_27 : decode cX6_readWord 27 = .ok (.ifCond .eq 16, 3) := by decide +kernel
theorem dX6_readWord_30 : decode cX6_readWord 30 = .ok (.aload_n 0, 1) := by decide +kernel
theorem dX6_readWord_31 : decode cX6_readWord 31 = .ok (.dup, 1) := by decide +kernel
theorem dX6_readWord_32 : decode cX6_readWord 32 = .ok (.getfield 43, 3) := by decide +kernel
theorem dX6_readWord_35 : decode cX6_readWord 35 = .ok (.iconst 1, 1) := by decide +kernel
theorem dX6_readWord_36 : decode cX6_readWord 36 = .ok (.iadd, 1) := by decide +kernel
theorem dX6_readWord_37 : decode cX6_readWord 37 = .ok (.putfield 43, 3) := by decide +kernel
theorem dX6_readWord_40 : decode cX6_readWord 40 = .ok (.goto (-35), 3) := by decide +kernel
theorem dX6_readWord_43 : decode cX6_readWord 43 = .ok (.aload_n 0, 1) := by decide +kernel
theorem dX6_readWord_44 : decode cX6_readWord 44 = .ok (.iload_n 1, 1) := by decide +kernel
theorem dX6_readWord_45 : decode cX6_readWord 45 = .ok (.invokevirtual 72, 3) := by decide +kernel
theorem dX6_readWord_48 : decode cX6_readWord 48 = .ok (.ireturn, 1) := by decide +kernel
theorem dX6_keyOrName_0 : decode cX6_keyOrName 0 = .ok (.aload_n 0, 1) := by decide +kernel
theorem dX6_keyOrName_1 : decode cX6_keyOrName 1 = .ok (.ldc 75, 2) := by decide +kernel
theorem dX6_keyOrName_3 : decode cX6_keyOrName 3 = .ok (.iload_n 1, 1) := by decide +kernel
theorem dX6_keyOrName_4 : decode cX6_keyOrName 4 = .ok (.invokevirtual 77, 3) := by decide +kernel
theorem dX6_keyOrName_7 : decode cX6_keyOrName 7 = .ok (.ifCond .eq 7, 3) := by decide +kernel
theorem dX6_keyOrName_10 : decode cX6_keyOrName 10 = .ok (.sipush 260, 3) := by decide +kernel
theorem dX6_keyOrName_13 : decode cX6_keyOrName 13 = .ok (.ireturn, 1) := by decide +kernel
theorem dX6_keyOrName_14 : decode cX6_keyOrName 14 = .ok (.aload_n 0, 1) := by decide +kernel
theorem dX6_keyOrName_15 : decode cX6_keyOrName 15 = .ok (.ldc 81, 2) := by decide +kernel
theorem dX6_keyOrName_17 : decode cX6_keyOrName 17 = .ok (.iload_n 1, 1) := by decide +kernel
theorem dX6_keyOrName_18 : decode cX6_keyOrName 18 = .ok (.invokevirtual 77, 3) := by decide +kernel
theorem dX6_keyOrName_21 : decode cX6_keyOrName 21 = .ok (.ifCond .eq 7, 3) := by decide +kernel
theorem dX6_keyOrName_24 : decode cX6_keyOrName 24 = .ok (.sipush 261, 3) := by decide +kernel
theorem dX6_keyOrName_27 : decode cX6_keyOrName 27 = .ok (.ireturn, 1) := by decide +kernel
theorem dX6_keyOrName_28 : decode cX6_keyOrName 28 = .ok (.aload_n 0, 1) := by decide +kernel
theorem dX6_keyOrName_29 : decode cX6_keyOrName 29 = .ok (.ldc 83, 2) := by decide +kernel
theorem dX6_keyOrName_31 : decode cX6_keyOrName 31 = .ok (.iload_n 1, 1) := by decide +kernel
theorem dX6_keyOrName_32 : decode cX6_keyOrName 32 = .ok (.invokevirtual 77, 3) := by decide +kernel
theorem dX6_keyOrName_35 : decode cX6_keyOrName 35 = .ok (.ifCond .eq 7, 3) := by decide +kernel
theorem dX6_keyOrName_38 : decode cX6_keyOrName 38 = .ok (.sipush 262, 3) := by decide +kernel
theorem dX6_keyOrName_41 : decode cX6_keyOrName 41 = .ok (.ireturn, 1) := by decide +kernel
theorem dX6_keyOrName_42 : decode cX6_keyOrName 42 = .ok (.aload_n 0, 1) := by decide +kernel
theorem dX6_keyOrName_43 : decode cX6_keyOrName 43 = .ok (.ldc 85, 2) := by decide +kernel
theorem dX6_keyOrName_45 : decode cX6_keyOrName 45 = .ok (.iload_n 1, 1) := by decide +kernel
theorem dX6_keyOrName_46 : decode cX6_keyOrName 46 = .ok (.invokevirtual 77, 3) := by decide +kernel
theorem dX6_keyOrName_49 : decode cX6_keyOrName 49 = .ok (.ifCond .eq 7, 3) := by decide +kernel
theorem dX6_keyOrName_52 : decode cX6_keyOrName 52 = .ok (.sipush 263, 3) := by decide +kernel
theorem dX6_keyOrName_55 : decode cX6_keyOrName 55 = .ok (.ireturn, 1) := by decide +kernel
theorem dX6_keyOrName_56 : decode cX6_keyOrName 56 = .ok (.aload_n 0, 1) := by decide +kernel
theorem dX6_keyOrName_57 : decode cX6_keyOrName 57 = .ok (.ldc 87, 2) := by decide +kernel
theorem dX6_keyOrName_59 : decode cX6_keyOrName 59 = .ok (.iload_n 1, 1) := by decide +kernel
theorem dX6_keyOrName_60 : decode cX6_keyOrName 60 = .ok (.invokevirtual 77, 3) := by decide +kernel
theorem dX6_keyOrName_63 : decode cX6_keyOrName 63 = .ok (.ifCond .eq 7, 3) := by decide +kernel
theorem dX6_keyOrName_66 : decode cX6_keyOrName 66 = .ok (.sipush 264, 3) := by decide +kernel
theorem dX6_keyOrName_69 : decode cX6_keyOrName 69 = .ok (.ireturn, 1) := by decide +kernel
theorem dX6_keyOrName_70 : decode cX6_keyOrName 70 = .ok (.aload_n 0, 1) := by decide +kernel
theorem dX6_keyOrName_71 : decode cX6_keyOrName 71 = .ok (.ldc 89, 2) := by decide +kernel
theorem dX6_keyOrName_73 : decode cX6_keyOrName 73 = .ok (.iload_n 1, 1) := by decide +kernel
theorem dX6_keyOrName_74 : decode cX6_keyOrName 74 = .ok (.invokevirtual 77, 3) := by decide +kernel
theorem dX6_keyOrName_77 : decode cX6_keyOrName 77 = .ok (.ifCond .eq 7, 3) := by decide +kernel
theorem dX6_keyOrName_80 : decode cX6_keyOrName 80 = .ok (.sipush 265, 3) := by decide +kernel
theorem dX6_keyOrName_83 : decode cX6_keyOrName 83 = .ok (.ireturn, 1) := by decide +kernel
theorem dX6_keyOrName_84 : decode cX6_keyOrName 84 = .ok (.aload_n 0, 1) := by decide +kernel
theorem dX6_keyOrName_85 : decode cX6_keyOrName 85 = .ok (.ldc 91, 2) := by decide +kernel
theorem dX6_keyOrName_87 : decode cX6_keyOrName 87 = .ok (.iload_n 1, 1) := by decide +kernel
theorem dX6_keyOrName_88 : decode cX6_keyOrName 88 = .ok (.invokevirtual 77, 3) := by decide +kernel
theorem dX6_keyOrName_91 : decode cX6_keyOrName 91 = .ok (.ifCond .eq 7, 3) := by decide +kernel
theorem dX6_keyOrName_94 : decode cX6_keyOrName 94 = .ok (.sipush 270, 3) := by decide +kernel
theorem dX6_keyOrName_97 : decode cX6_keyOrName 97 = .ok (.ireturn, 1) := by decide +kernel
theorem dX6_keyOrName_98 : decode cX6_keyOrName 98 = .ok (.aload_n 0, 1) := by decide +kernel
theorem dX6_keyOrName_99 : decode cX6_keyOrName 99 = .ok (.ldc 95, 2) := by decide +kernel
theorem dX6_keyOrName_101 : decode cX6_keyOrName 101 = .ok (.iload_n 1, 1) := by decide +kernel
theorem dX6_keyOrName_102 : decode cX6_keyOrName 102 = .ok (.invokevirtual 77, 3) := by decide +kernel
theorem dX6_keyOrName_105 : decode cX6_keyOrName 105 = .ok (.ifCond .eq 7, 3) := by decide +kernel
theorem dX6_keyOrName_108 : decode cX6_keyOrName 108 = .ok (.sipush 271, 3) := by decide +kernel
theorem dX6_keyOrName_111 : decode cX6_keyOrName 111 = .ok (.ireturn, 1) := by decide +kernel
theorem dX6_keyOrName_112 : decode cX6_keyOrName 112 = .ok (.aload_n 0, 1) := by decide +kernel
theorem dX6_keyOrName_113 : decode cX6_keyOrName 113 = .ok (.ldc 97, 2) := by decide +kernel
theorem dX6_keyOrName_115 : decode cX6_keyOrName 115 = .ok (.iload_n 1, 1) := by decide +kernel
theorem dX6_keyOrName_116 : decode cX6_keyOrName 116 = .ok (.invokevirtual 77, 3) := by decide +kernel
theorem dX6_keyOrName_119 : decode cX6_keyOrName 119 = .ok (.ifCond .eq 7, 3) := by decide +kernel
theorem dX6_keyOrName_122 : decode cX6_keyOrName 122 = .ok (.sipush 272, 3) := by decide +kernel
theorem dX6_keyOrName_125 : decode cX6_keyOrName 125 = .ok (.ireturn, 1) := by decide +kernel
theorem dX6_keyOrName_126 : decode cX6_keyOrName 126 = .ok (.aload_n 0, 1) := by decide +kernel
theorem dX6_keyOrName_127 : decode cX6_keyOrName 127 = .ok (.ldc 98, 2) := by decide +kernel
theorem dX6_keyOrName_129 : decode cX6_keyOrName 129 = .ok (.iload_n 1, 1) := by decide +kernel
theorem dX6_keyOrName_130 : decode cX6_keyOrName 130 = .ok (.invokevirtual 77, 3) := by decide +kernel
theorem dX6_keyOrName_133 : decode cX6_keyOrName 133 = .ok (.ifCond .eq 7, 3) := by decide +kernel
theorem dX6_keyOrName_136 : decode cX6_keyOrName 136 = .ok (.sipush 273, 3) := by decide +kernel
theorem dX6_keyOrName_139 : decode cX6_keyOrName 139 = .ok (.ireturn, 1) := by decide +kernel
theorem dX6_keyOrName_140 : decode cX6_keyOrName 140 = .ok (.aload_n 0, 1) := by decide +kernel
theorem dX6_keyOrName_141 : decode cX6_keyOrName 141 = .ok (.ldc 100, 2) := by decide +kernel
theorem dX6_keyOrName_143 : decode cX6_keyOrName 143 = .ok (.iload_n 1, 1) := by decide +kernel
theorem dX6_keyOrName_144 : decode cX6_keyOrName 144 = .ok (.invokevirtual 77, 3) := by decide +kernel
theorem dX6_keyOrName_147 : decode cX6_keyOrName 147 = .ok (.ifCond .eq 7, 3) := by decide +kernel
theorem dX6_keyOrName_150 : decode cX6_keyOrName 150 = .ok (.sipush 274, 3) := by decide +kernel
theorem dX6_keyOrName_153 : decode cX6_keyOrName 153 = .ok (.ireturn, 1) := by decide +kernel
theorem dX6_keyOrName_154 : decode cX6_keyOrName 154 = .ok (.aload_n 0, 1) := by decide +kernel
theorem dX6_keyOrName_155 : decode cX6_keyOrName 155 = .ok (.ldc 102, 2) := by decide +kernel
theorem dX6_keyOrName_157 : decode cX6_keyOrName 157 = .ok (.iload_n 1, 1) := by decide +kernel
theorem dX6_keyOrName_158 : decode cX6_keyOrName 158 = .ok (.invokevirtual 77, 3) := by decide +kernel
theorem dX6_keyOrName_161 : decode cX6_keyOrName 161 = .ok (.ifCond .eq 7, 3) := by decide +kernel
theorem dX6_keyOrName_164 : decode cX6_keyOrName 164 = .ok (.sipush 275, 3) := by decide +kernel
theorem dX6_keyOrName_167 : decode cX6_keyOrName 167 = .ok (.ireturn, 1) := by decide +kernel
theorem dX6_keyOrName_168 : decode cX6_keyOrName 168 = .ok (.sipush 257, 3) := by decide +kernel
theorem dX6_keyOrName_171 : decode cX6_keyOrName 171 = .ok (.ireturn, 1) := by decide +kernel
theorem dX6_spells_0 : decode cX6_spells 0 = .ok (.aload_n 0, 1) := by decide +kernel
theorem dX6_spells_1 : decode cX6_spells 1 = .ok (.getfield 43, 3) := by decide +kernel
theorem dX6_spells_4 : decode cX6_spells 4 = .ok (.iload_n 2, 1) := by decide +kernel
theorem dX6_spells_5 : decode cX6_spells 5 = .ok (.isub, 1) := by decide +kernel
theorem dX6_spells_6 : decode cX6_spells 6 = .ok (.aload_n 1, 1) := by decide +kernel
theorem dX6_spells_7 : decode cX6_spells 7 = .ok (.invokevirtual 33, 3) := by decide +kernel
theorem dX6_spells_10 : decode cX6_spells 10 = .ok (.if_icmp .eq 5, 3) := by decide +kernel
theorem dX6_spells_13 : decode cX6_spells 13 = .ok (.iconst 0, 1) := by decide +kernel
theorem dX6_spells_14 : decode cX6_spells 14 = .ok (.ireturn, 1) := by decide +kernel
theorem dX6_spells_15 : decode cX6_spells 15 = .ok (.iconst 0, 1) := by decide +kernel
theorem dX6_spells_16 : decode cX6_spells 16 = .ok (.istore_n 3, 1) := by decide +kernel
theorem dX6_spells_17 : decode cX6_spells 17 = .ok (.iload_n 3, 1) := by decide +kernel
theorem dX6_spells_18 : decode cX6_spells 18 = .ok (.aload_n 1, 1) := by decide +kernel
theorem dX6_spells_19 : decode cX6_spells 19 = .ok (.invokevirtual 33, 3) := by decide +kernel
theorem dX6_spells_22 : decode cX6_spells 22 = .ok (.if_icmp .ge 26, 3) := by decide +kernel
theorem dX6_spells_25 : decode cX6_spells 25 = .ok (.aload_n 0, 1) := by decide +kernel
theorem dX6_spells_26 : decode cX6_spells 26 = .ok (.iload_n 2, 1) := by decide +kernel
theorem dX6_spells_27 : decode cX6_spells 27 = .ok (.iload_n 3, 1) := by decide +kernel
theorem dX6_spells_28 : decode cX6_spells 28 = .ok (.iadd, 1) := by decide +kernel
theorem dX6_spells_29 : decode cX6_spells 29 = .ok (.invokevirtual 52, 3) := by decide +kernel
theorem dX6_spells_32 : decode cX6_spells 32 = .ok (.aload_n 1, 1) := by decide +kernel
theorem dX6_spells_33 : decode cX6_spells 33 = .ok (.iload_n 3, 1) := by decide +kernel
theorem dX6_spells_34 : decode cX6_spells 34 = .ok (.invokevirtual 39, 3) := by decide +kernel
theorem dX6_spells_37 : decode cX6_spells 37 = .ok (.if_icmp .eq 5, 3) := by decide +kernel
theorem dX6_spells_40 : decode cX6_spells 40 = .ok (.iconst 0, 1) := by decide +kernel
theorem dX6_spells_41 : decode cX6_spells 41 = .ok (.ireturn, 1) := by decide +kernel
theorem dX6_spells_42 : decode cX6_spells 42 = .ok (.iinc 3 1, 3) := by decide +kernel
theorem dX6_spells_45 : decode cX6_spells 45 = .ok (.goto (-28), 3) := by decide +kernel
theorem dX6_spells_48 : decode cX6_spells 48 = .ok (.iconst 1, 1) := by decide +kernel
theorem dX6_spells_49 : decode cX6_spells 49 = .ok (.ireturn, 1) := by decide +kernel
theorem dX7_init_0 : decode cX7_init 0 = .ok (.aload_n 0, 1) := by decide +kernel
theorem dX7_init_1 : decode cX7_init 1 = .ok (.invokespecial 3, 3) := by decide +kernel
theorem dX7_init_4 : decode cX7_init 4 = .ok (.aload_n 0, 1) := by decide +kernel
theorem dX7_init_5 : decode cX7_init 5 = .ok (.sipush 160, 3) := by decide +kernel
theorem dX7_init_8 : decode cX7_init 8 = .ok (.newarray .int, 2) := by decide +kernel
theorem dX7_init_10 : decode cX7_init 10 = .ok (.putfield 9, 3) := by decide +kernel
theorem dX7_init_13 : decode cX7_init 13 = .ok (.aload_n 0, 1) := by decide +kernel
theorem dX7_init_14 : decode cX7_init 14 = .ok (.iconst 3, 1) := by decide +kernel
theorem dX7_init_15 : decode cX7_init 15 = .ok (.newarray .int, 2) := by decide +kernel
theorem dX7_init_17 : decode cX7_init 17 = .ok (.putfield 15, 3) := by decide +kernel
theorem dX7_init_20 : decode cX7_init 20 = .ok (.aload_n 0, 1) := by decide +kernel
theorem dX7_init_21 : decode cX7_init 21 = .ok (.sipush 160, 3) := by decide +kernel
theorem dX7_init_24 : decode cX7_init 24 = .ok (.newarray .int, 2) := by decide +kernel
theorem dX7_init_26 : decode cX7_init 26 = .ok (.putfield 18, 3) := by decide +kernel
theorem dX7_init_29 : decode cX7_init 29 = .ok (.return_, 1) := by decide +kernel
theorem dX7_begin_0 : decode cX7_begin 0 = .ok (.aload_n 0, 1) := by decide +kernel
theorem dX7_begin_1 : decode cX7_begin 1 = .ok (.iconst 0, 1) := by decide +kernel
theorem dX7_begin_2 : decode cX7_begin 2 = .ok (.putfield 21, 3) := by decide +kernel
theorem dX7_begin_5 : decode cX7_begin 5 = .ok (.aload_n 0, 1) := by decide +kernel
theorem dX7_begin_6 : decode cX7_begin 6 = .ok (.iconst 0, 1) := by decide +kernel
theorem dX7_begin_7 : decode cX7_begin 7 = .ok (.putfield 25, 3) := by decide +kernel
theorem dX7_begin_10 : decode cX7_begin 10 = .ok (.return_, 1) := by decide +kernel
theorem dX7_add_0 : decode cX7_add 0 = .ok (.aload_n 0, 1) := by decide +kernel
theorem dX7_add_1 : decode cX7_add 1 = .ok (.getfield 21, 3) := by decide +kernel
theorem dX7_add_4 : decode cX7_add 4 = .ok (.aload_n 0, 1) := by decide +kernel
theorem dX7_add_5 : decode cX7_add 5 = .ok (.getfield 9, 3) := by decide +kernel
theorem dX7_add_8 : decode cX7_add 8 = .ok (.arraylength, 1) := by decide +kernel
theorem dX7_add_9 : decode cX7_add 9 = .ok (.if_icmp .ge 23, 3) := by decide +kernel
theorem dX7_add_12 : decode cX7_add 12 = .ok (.aload_n 0, 1) := by decide +kernel
theorem dX7_add_13 : decode cX7_add 13 = .ok (.getfield 9, 3) := by decide +kernel
theorem dX7_add_16 : decode cX7_add 16 = .ok (.aload_n 0, 1) := by decide +kernel
theorem dX7_add_17 : decode cX7_add 17 = .ok (.getfield 21, 3) := by decide +kernel
theorem dX7_add_20 : decode cX7_add 20 = .ok (.iload_n 1, 1) := by decide +kernel
theorem dX7_add_21 : decode cX7_add 21 = .ok (.iastore, 1) := by decide +kernel
theorem dX7_add_22 : decode cX7_add 22 = .ok (.aload_n 0, 1) := by decide +kernel
theorem dX7_add_23 : decode cX7_add 23 = .ok (.dup, 1) := by decide +kernel
theorem dX7_add_24 : decode cX7_add 24 = .ok (.getfield 21, 3) := by decide +kernel
theorem dX7_add_27 : decode cX7_add 27 = .ok (.iconst 1, 1) := by decide +kernel
theorem dX7_add_28 : decode cX7_add 28 = .ok (.iadd, 1) := by decide +kernel
theorem dX7_add_29 : decode cX7_add 29 = .ok (.putfield 21, 3) := by decide +kernel
theorem dX7_add_32 : decode cX7_add 32 = .ok (.return_, 1) := by decide +kernel
theorem dX7_addName_0 : decode cX7_addName 0 = .ok (.aload_n 0, 1) := by decide +kernel
theorem dX7_addName_1 : decode cX7_addName 1 = .ok (.iconst (-1), 1) := by decide +kernel
theorem dX7_addName_2 : decode cX7_addName 2 = .ok (.iload_n 1, 1) := by decide +kernel
theorem dX7_addName_3 : decode cX7_addName 3 = .ok (.isub, 1) := by decide +kernel
theorem dX7_addName_4 : decode cX7_addName 4 = .ok (.invokevirtual 28, 3) := by decide +kernel
theorem dX7_addName_7 : decode cX7_addName 7 = .ok (.return_, 1) := by decide +kernel
theorem dX7_endPart_0 : decode cX7_endPart 0 = .ok (.aload_n 0, 1) := by decide +kernel
theorem dX7_endPart_1 : decode cX7_endPart 1 = .ok (.getfield 25, 3) := by decide +kernel
theorem dX7_endPart_4 : decode cX7_endPart 4 = .ok (.aload_n 0, 1) := by decide +kernel
theorem dX7_endPart_5 : decode cX7_endPart 5 = .ok (.getfield 15, 3) := by decide +kernel
theorem dX7_endPart_8 : decode cX7_endPart 8 = .ok (.arraylength, 1) := by decide +kernel
theorem dX7_endPart_9 : decode cX7_endPart 9 = .ok (.if_icmp .ge 26, 3) := by decide +kernel
theorem dX7_endPart_12 : decode cX7_endPart 12 = .ok (.aload_n 0, 1) := by decide +kernel
theorem dX7_endPart_13 : decode cX7_endPart 13 = .ok (.getfield 15, 3) := by decide +kernel
theorem dX7_endPart_16 : decode cX7_endPart 16 = .ok (.aload_n 0, 1) := by decide +kernel
theorem dX7_endPart_17 : decode cX7_endPart 17 = .ok (.getfield 25, 3) := by decide +kernel
theorem dX7_endPart_20 : decode cX7_endPart 20 = .ok (.aload_n 0, 1) := by decide +kernel
theorem dX7_endPart_21 : decode cX7_endPart 21 = .ok (.getfield 21, 3) := by decide +kernel
theorem dX7_endPart_24 : decode cX7_endPart 24 = .ok (.iastore, 1) := by decide +kernel
theorem dX7_endPart_25 : decode cX7_endPart 25 = .ok (.aload_n 0, 1) := by decide +kernel
theorem dX7_endPart_26 : decode cX7_endPart 26 = .ok (.dup, 1) := by decide +kernel
theorem dX7_endPart_27 : decode cX7_endPart 27 = .ok (.getfield 25, 3) := by decide +kernel
theorem dX7_endPart_30 : decode cX7_endPart 30 = .ok (.iconst 1, 1) := by decide +kernel
theorem dX7_endPart_31 : decode cX7_endPart 31 = .ok (.iadd, 1) := by decide +kernel
theorem dX7_endPart_32 : decode cX7_endPart 32 = .ok (.putfield 25, 3) := by decide +kernel
theorem dX7_endPart_35 : decode cX7_endPart 35 = .ok (.return_, 1) := by decide +kernel
theorem dX7_worth_0 : decode cX7_worth 0 = .ok (.aload_n 0, 1) := by decide +kernel
theorem dX7_worth_1 : decode cX7_worth 1 = .ok (.iconst 0, 1) := by decide +kernel
theorem dX7_worth_2 : decode cX7_worth 2 = .ok (.putfield 32, 3) := by decide +kernel
theorem dX7_worth_5 : decode cX7_worth 5 = .ok (.iload_n 1, 1) := by decide +kernel
theorem dX7_worth_6 : decode cX7_worth 6 = .ok (.aload_n 0, 1) := by decide +kernel
theorem dX7_worth_7 : decode cX7_worth 7 = .ok (.getfield 25, 3) := by decide +kernel
theorem dX7_worth_10 : decode cX7_worth 10 = .ok (.invokestatic 35, 3) := by decide +kernel
theorem dX7_worth_13 : decode cX7_worth 13 = .ok (.ifCond .ne 5, 3) := by decide +kernel
theorem dX7_worth_16 : decode cX7_worth 16 = .ok (.iconst 0, 1) := by decide +kernel
theorem dX7_worth_17 : decode cX7_worth 17 = .ok (.ireturn, 1) := by decide +kernel
theorem dX7_worth_18 : decode cX7_worth 18 = .ok (.aload_n 0, 1) := by decide +kernel
theorem dX7_worth_19 : decode cX7_worth 19 = .ok (.getfield 15, 3) := by decide +kernel
theorem dX7_worth_22 : decode cX7_worth 22 = .ok (.iload_n 1, 1) := by decide +kernel
theorem dX7_worth_23 : decode cX7_worth 23 = .ok (.iaload, 1) := by decide +kernel
theorem dX7_worth_24 : decode cX7_worth 24 = .ok (.aload_n 0, 1) := by decide +kernel
theorem dX7_worth_25 : decode cX7_worth 25 = .ok (.getfield 21, 3) := by decide +kernel
theorem dX7_worth_28 : decode cX7_worth 28 = .ok (.invokestatic 39, 3) := by decide +kernel
theorem dX7_worth_31 : decode cX7_worth 31 = .ok (.istore_n 3, 1) := by decide +kernel
theorem dX7_worth_32 : decode cX7_worth 32 = .ok (.iload_n 1, 1) := by decide +kernel
theorem dX7_worth_33 : decode cX7_worth 33 = .ok (.ifCond .ne 7, 3) := by decide +kernel
theorem dX7_worth_36 : decode cX7_worth 36 = .ok (.iconst 0, 1) := by decide +kernel
theorem dX7_worth_37 : decode cX7_worth 37 = .ok (.goto 11, 3) := by decide +kernel
theorem dX7_worth_40 : decode cX7_worth 40 = .ok (.aload_n 0, 1) := by decide +kernel
theorem dX7_worth_41 : decode cX7_worth 41 = .ok (.getfield 15, 3) := by decide +kernel
theorem dX7_worth_44 : decode cX7_worth 44 = .ok (.iload_n 1, 1) := by decide +kernel
theorem dX7_worth_45 : decode cX7_worth 45 = .ok (.iconst 1, 1) := by decide +kernel
theorem dX7_worth_46 : decode cX7_worth 46 = .ok (.isub, 1) := by decide +kernel
theorem dX7_worth_47 : decode cX7_worth 47 = .ok (.iaload, 1) := by decide +kernel
theorem dX7_worth_48 : decode cX7_worth 48 = .ok (.istore 4, 2) := by decide +kernel
theorem dX7_worth_50 : decode cX7_worth 50 = .ok (.iload 4, 2) := by decide +kernel
theorem dX7_worth_52 : decode cX7_worth 52 = .ok (.iload_n 3, 1) := by decide +kernel
theorem dX7_worth_53 : decode cX7_worth 53 = .ok (.if_icmp .ge 21, 3) := by decide +kernel
theorem dX7_worth_56 : decode cX7_worth 56 = .ok (.aload_n 0, 1) := by decide +kernel
theorem dX7_worth_57 : decode cX7_worth 57 = .ok (.aload_n 0, 1) := by decide +kernel
theorem dX7_worth_58 : decode cX7_worth 58 = .ok (.getfield 9, 3) := by decide +kernel
theorem dX7_worth_61 : decode cX7_worth 61 = .ok (.iload 4, 2) := by decide +kernel
theorem dX7_worth_63 : decode cX7_worth 63 = .ok (.iaload, 1) := by decide +kernel
theorem dX7_worth_64 : decode cX7_worth 64 = .ok (.aload_n 2, 1) := by decide +kernel
theorem dX7_worth_65 : decode cX7_worth 65 = .ok (.invokevirtual 45, 3) := by decide +kernel
theorem dX7_worth_68 : decode cX7_worth 68 = .ok (.iinc 4 1, 3) := by decide +kernel
theorem dX7_worth_71 : decode cX7_worth 71 = .ok (.goto (-21), 3) := by decide +kernel
theorem dX7_worth_74 : decode cX7_worth 74 = .ok (.aload_n 0, 1) := by decide +kernel
theorem dX7_worth_75 : decode cX7_worth 75 = .ok (.invokevirtual 49, 3) := by decide +kernel
theorem dX7_worth_78 : decode cX7_worth 78 = .ok (.ireturn, 1) := by decide +kernel
theorem dX7_push_0 : decode cX7_push 0 = .ok (.aload_n 0, 1) := by decide +kernel
theorem dX7_push_1 : decode cX7_push 1 = .ok (.getfield 32, 3) := by decide +kernel
theorem dX7_push_4 : decode cX7_push 4 = .ok (.aload_n 0, 1) := by decide +kernel
theorem dX7_push_5 : decode cX7_push 5 = .ok (.getfield 18, 3) := by decide +kernel
theorem dX7_push_8 : decode cX7_push 8 = .ok (.arraylength, 1) := by decide +kernel
theorem dX7_push_9 : decode cX7_push 9 = .ok (.if_icmp .ge 23, 3) := by decide +kernel
theorem dX7_push_12 : decode cX7_push 12 = .ok (.aload_n 0, 1) := by decide +kernel
theorem dX7_push_13 : decode cX7_push 13 = .ok (.getfield 18, 3) := by decide +kernel
theorem dX7_push_16 : decode cX7_push 16 = .ok (.aload_n 0, 1) := by decide +kernel
theorem dX7_push_17 : decode cX7_push 17 = .ok (.getfield 32, 3) := by decide +kernel
theorem dX7_push_20 : decode cX7_push 20 = .ok (.iload_n 1, 1) := by decide +kernel
theorem dX7_push_21 : decode cX7_push 21 = .ok (.iastore, 1) := by decide +kernel
theorem dX7_push_22 : decode cX7_push 22 = .ok (.aload_n 0, 1) := by decide +kernel
theorem dX7_push_23 : decode cX7_push 23 = .ok (.dup, 1) := by decide +kernel
theorem dX7_push_24 : decode cX7_push 24 = .ok (.getfield 32, 3) := by decide +kernel
theorem dX7_push_27 : decode cX7_push 27 = .ok (.iconst 1, 1) := by decide +kernel
theorem dX7_push_28 : decode cX7_push 28 = .ok (.iadd, 1) := by decide +kernel
theorem dX7_push_29 : decode cX7_push 29 = .ok (.putfield 32, 3) := by decide +kernel
theorem dX7_push_32 : decode cX7_push 32 = .ok (.return_, 1) := by decide +kernel
theorem dX7_pop_0 : decode cX7_pop 0 = .ok (.aload_n 0, 1) := by decide +kernel
theorem dX7_pop_1 : decode cX7_pop 1 = .ok (.getfield 32, 3) := by decide +kernel
theorem dX7_pop_4 : decode cX7_pop 4 = .ok (.ifCond .gt 5, 3) := by decide +kernel
theorem dX7_pop_7 : decode cX7_pop 7 = .ok (.iconst 0, 1) := by decide +kernel
theorem dX7_pop_8 : decode cX7_pop 8 = .ok (.ireturn, 1) := by decide +kernel
theorem dX7_pop_9 : decode cX7_pop 9 = .ok (.aload_n 0, 1) := by decide +kernel
theorem dX7_pop_10 : decode cX7_pop 10 = .ok (.dup, 1) := by decide +kernel
theorem dX7_pop_11 : decode cX7_pop 11 = .ok (.getfield 32, 3) := by decide +kernel
theorem dX7_pop_14 : decode cX7_pop 14 = .ok (.iconst 1, 1) := by decide +kernel
theorem dX7_pop_15 : decode cX7_pop 15 = .ok (.isub, 1) := by decide +kernel
theorem dX7_pop_16 : decode cX7_pop 16 = .ok (.putfield 32, 3) := by decide +kernel
theorem dX7_pop_19 : decode cX7_pop 19 = .ok (.aload_n 0, 1) := by decide +kernel
theorem dX7_pop_20 : decode cX7_pop 20 = .ok (.getfield 18, 3) := by decide +kernel
theorem dX7_pop_23 : decode cX7_pop 23 = .ok (.aload_n 0, 1) := by decide +kernel
theorem dX7_pop_24 : decode cX7_pop 24 = .ok (.getfield 32, 3) := by decide +kernel
theorem dX7_pop_27 : decode cX7_pop 27 = .ok (.iaload, 1) := by decide +kernel
theorem dX7_pop_28 : decode cX7_pop 28 = .ok (.ireturn, 1) := by decide +kernel
theorem dX7_doStep_0 : decode cX7_doStep 0 = .ok (.iload_n 1, 1) := by decide +kernel
theorem dX7_doStep_1 : decode cX7_doStep 1 = .ok (.ifCond .lt 11, 3) := by decide +kernel
theorem dX7_doStep_4 : decode cX7_doStep 4 = .ok (.aload_n 0, 1) := by decide +kernel
theorem dX7_doStep_5 : decode cX7_doStep 5 = .ok (.iload_n 1, 1) := by decide +kernel
theorem dX7_doStep_6 : decode cX7_doStep 6 = .ok (.invokevirtual 53, 3) := by decide +kernel
theorem dX7_doStep_9 : decode cX7_doStep 9 = .ok (.goto 91, 3) := by decide +kernel
theorem dX7_doStep_12 : decode cX7_doStep 12 = .ok (.iconst (-1), 1) := by decide +kernel
theorem dX7_doStep_13 : decode cX7_doStep 13 = .ok (.iload_n 1, 1) := by decide +kernel
theorem dX7_doStep_14 : decode cX7_doStep 14 = .ok (.isub, 1) := by decide +kernel
theorem dX7_doStep_15 : decode cX7_doStep 15 = .ok (.aload_n 2, 1) := by decide +kernel
theorem dX7_doStep_16 : decode cX7_doStep 16 = .ok (.arraylength, 1) := by decide +kernel
theorem dX7_doStep_17 : decode cX7_doStep 17 = .ok (.invokestatic 35, 3) := by decide +kernel
theorem dX7_doStep_20 : decode cX7_doStep 20 = .ok (.ifCond .eq 15, 3) := by decide +kernel
theorem dX7_doStep_23 : decode cX7_doStep 23 = .ok (.aload_n 0, 1) := by decide +kernel
theorem dX7_doStep_24 : decode cX7_doStep 24 = .ok (.aload_n 2, 1) := by decide +kernel
theorem dX7_doStep_25 : decode cX7_doStep 25 = .ok (.iconst (-1), 1) := by decide +kernel
theorem dX7_doStep_26 : decode cX7_doStep 26 = .ok (.iload_n 1, 1) := by decide +kernel
theorem dX7_doStep_27 : decode cX7_doStep 27 = .ok (.isub, 1) := by decide +kernel
theorem dX7_doStep_28 : decode cX7_doStep 28 = .ok (.iaload, 1) := by decide +kernel
theorem dX7_doStep_29 : decode cX7_doStep 29 = .ok (.invokevirtual 53, 3) := by decide +kernel
theorem dX7_doStep_32 : decode cX7_doStep 32 = .ok (.goto 68, 3) := by decide +kernel
theorem dX7_doStep_35 : decode cX7_doStep 35 = .ok (.iload_n 1, 1) := by decide +kernel
theorem dX7_doStep_36 : decode cX7_doStep 36 = .ok (.bipush (-13), 2) := by decide +kernel
theorem dX7_doStep_38 : decode cX7_doStep 38 = .ok (.if_icmp .ne 22, 3) := by decide +kernel
theorem dX7_doStep_41 : decode cX7_doStep 41 = .ok (.aload_n 0, 1) := by decide +kernel
theorem dX7_doStep_42 : decode cX7_doStep 42 = .ok (.aload_n 0, 1) := by decide +kernel
theorem dX7_doStep_43 : decode cX7_doStep 43 = .ok (.invokevirtual 49, 3) := by decide +kernel
theorem dX7_doStep_46 : decode cX7_doStep 46 = .ok (.ifCond .ne 7, 3) := by decide +kernel
theorem dX7_doStep_49 : decode cX7_doStep 49 = .ok (.iconst 1, 1) := by decide +kernel
theorem dX7_doStep_50 : decode cX7_doStep 50 = .ok (.goto 4, 3) := by decide +kernel
theorem dX7_doStep_53 : decode cX7_doStep 53 = .ok (.iconst 0, 1) := by decide +kernel
theorem dX7_doStep_54 : decode cX7_doStep 54 = .ok (.invokevirtual 53, 3) := by decide +kernel
theorem dX7_doStep_57 : decode cX7_doStep 57 = .ok (.goto 43, 3) := by decide +kernel
theorem dX7_doStep_60 : decode cX7_doStep 60 = .ok (.iload_n 1, 1) := by decide +kernel
theorem dX7_doStep_61 : decode cX7_doStep 61 = .ok (.bipush (-19), 2) := by decide +kernel
theorem dX7_doStep_63 : decode cX7_doStep 63 = .ok (.if_icmp .ne 15, 3) := by decide +kernel
theorem dX7_doStep_66 : decode cX7_doStep 66 = .ok (.aload_n 0, 1) := by decide +kernel
theorem dX7_doStep_67 : decode cX7_doStep 67 = .ok (.aload_n 0, 1) := by decide +kernel
theorem dX7_doStep_68 : decode cX7_doStep 68 = .ok (.invokevirtual 49, 3) := by decide +kernel
theorem dX7_doStep_71 : decode cX7_doStep 71 = .ok (.ineg, 1) := by decide +kernel
theorem dX7_doStep_72 : decode cX7_doStep 72 = .ok (.invokevirtual 53, 3) := by decide +kernel
theorem dX7_doStep_75 : decode cX7_doStep 75 = .ok (.goto 25, 3) := by decide +kernel
theorem dX7_doStep_78 : decode cX7_doStep 78 = .ok (.aload_n 0, 1) := by decide +kernel
theorem dX7_doStep_79 : decode cX7_doStep 79 = .ok (.invokevirtual 49, 3) := by decide +kernel
theorem dX7_doStep_82 : decode cX7_doStep 82 = .ok (.istore_n 3, 1) := by decide +kernel
theorem dX7_doStep_83 : decode cX7_doStep 83 = .ok (.aload_n 0, 1) := by decide +kernel
theorem dX7_doStep_84 : decode cX7_doStep 84 = .ok (.invokevirtual 49, 3) := by decide +kernel
theorem dX7_doStep_87 : decode cX7_doStep 87 = .ok (.istore 4, 2) := by decide +kernel
theorem dX7_doStep_89 : decode cX7_doStep 89 = .ok (.aload_n 0, 1) := by decide +kernel
theorem dX7_doStep_90 : decode cX7_doStep 90 = .ok (.iload_n 1, 1) := by decide +kernel
theorem dX7_doStep_91 : decode cX7_doStep 91 = .ok (.iload 4, 2) := by decide +kernel
theorem dX7_doStep_93 : decode cX7_doStep 93 = .ok (.iload_n 3, 1) := by decide +kernel
theorem dX7_doStep_94 : decode cX7_doStep 94 = .ok (.invokestatic 56, 3) := by decide +kernel
theorem dX7_doStep_97 : decode cX7_doStep 97 = .ok (.invokevirtual 53, 3) := by decide +kernel
theorem dX7_doStep_100 : decode cX7_doStep 100 = .ok (.return_, 1) := by decide +kernel
theorem dX7_ofTwo_0 : decode cX7_ofTwo 0 = .ok (.iload_n 0, 1) := by decide +kernel
theorem dX7_ofTwo_1 : decode cX7_ofTwo 1 = .ok (.tableswitch 101 (-17) (-11) #[97, 93, 82, 71, 101, 57, 43], 43) := by decide +kernel
theorem dX7_ofTwo_44 : decode cX7_ofTwo 44 = .ok (.iload_n 1, 1) := by decide +kernel
theorem dX7_ofTwo_45 : decode cX7_ofTwo 45 = .ok (.ifCond .ne 7, 3) := by decide +kernel
theorem dX7_ofTwo_48 : decode cX7_ofTwo 48 = .ok (.iload_n 2, 1) := by decide +kernel
theorem dX7_ofTwo_49 : decode cX7_ofTwo 49 = .ok (.ifCond .eq 7, 3) := by decide +kernel
theorem dX7_ofTwo_52 : decode cX7_ofTwo 52 = .ok (.iconst 1, 1) := by decide +kernel
theorem dX7_ofTwo_53 : decode cX7_ofTwo 53 = .ok (.goto 4, 3) := by decide +kernel
theorem dX7_ofTwo_56 : decode cX7_ofTwo 56 = .ok (.iconst 0, 1) := by decide +kernel
theorem dX7_ofTwo_57 : decode cX7_ofTwo 57 = .ok (.ireturn, 1) := by decide +kernel
theorem dX7_ofTwo_58 : decode cX7_ofTwo 58 = .ok (.iload_n 1, 1) := by decide +kernel
theorem dX7_ofTwo_59 : decode cX7_ofTwo 59 = .ok (.ifCond .eq 11, 3) := by decide +kernel
theorem dX7_ofTwo_62 : decode cX7_ofTwo 62 = .ok (.iload_n 2, 1) := by decide +kernel
theorem dX7_ofTwo_63 : decode cX7_ofTwo 63 = .ok (.ifCond .eq 7, 3) := by decide +kernel
theorem dX7_ofTwo_66 : decode cX7_ofTwo 66 = .ok (.iconst 1, 1) := by decide +kernel
theorem dX7_ofTwo_67 : decode cX7_ofTwo 67 = .ok (.goto 4, 3) := by decide +kernel
theorem dX7_ofTwo_70 : decode cX7_ofTwo 70 = .ok (.iconst 0, 1) := by decide +kernel
theorem dX7_ofTwo_71 : decode cX7_ofTwo 71 = .ok (.ireturn, 1) := by decide +kernel
theorem dX7_ofTwo_72 : decode cX7_ofTwo 72 = .ok (.iload_n 1, 1) := by decide +kernel
theorem dX7_ofTwo_73 : decode cX7_ofTwo 73 = .ok (.iload_n 2, 1) := by decide +kernel
theorem dX7_ofTwo_74 : decode cX7_ofTwo 74 = .ok (.if_icmp .ge 7, 3) := by decide +kernel
theorem dX7_ofTwo_77 : decode cX7_ofTwo 77 = .ok (.iconst 1, 1) := by decide +kernel
theorem dX7_ofTwo_78 : decode cX7_ofTwo 78 = .ok (.goto 4, 3) := by decide +kernel
theorem dX7_ofTwo_81 : decode cX7_ofTwo 81 = .ok (.iconst 0, 1) := by decide +kernel
theorem dX7_ofTwo_82 : decode cX7_ofTwo 82 = .ok (.ireturn, 1) := by decide +kernel
theorem dX7_ofTwo_83 : decode cX7_ofTwo 83 = .ok (.iload_n 1, 1) := by decide +kernel
theorem dX7_ofTwo_84 : decode cX7_ofTwo 84 = .ok (.iload_n 2, 1) := by decide +kernel
theorem dX7_ofTwo_85 : decode cX7_ofTwo 85 = .ok (.if_icmp .ne 7, 3) := by decide +kernel
theorem dX7_ofTwo_88 : decode cX7_ofTwo 88 = .ok (.iconst 1, 1) := by decide +kernel
theorem dX7_ofTwo_89 : decode cX7_ofTwo 89 = .ok (.goto 4, 3) := by decide +kernel
theorem dX7_ofTwo_92 : decode cX7_ofTwo 92 = .ok (.iconst 0, 1) := by decide +kernel
theorem dX7_ofTwo_93 : decode cX7_ofTwo 93 = .ok (.ireturn, 1) := by decide +kernel
theorem dX7_ofTwo_94 : decode cX7_ofTwo 94 = .ok (.iload_n 1, 1) := by decide +kernel
theorem dX7_ofTwo_95 : decode cX7_ofTwo 95 = .ok (.iload_n 2, 1) := by decide +kernel
theorem dX7_ofTwo_96 : decode cX7_ofTwo 96 = .ok (.iadd, 1) := by decide +kernel
theorem dX7_ofTwo_97 : decode cX7_ofTwo 97 = .ok (.ireturn, 1) := by decide +kernel
theorem dX7_ofTwo_98 : decode cX7_ofTwo 98 = .ok (.iload_n 1, 1) := by decide +kernel
theorem dX7_ofTwo_99 : decode cX7_ofTwo 99 = .ok (.iload_n 2, 1) := by decide +kernel
theorem dX7_ofTwo_100 : decode cX7_ofTwo 100 = .ok (.isub, 1) := by decide +kernel
theorem dX7_ofTwo_101 : decode cX7_ofTwo 101 = .ok (.ireturn, 1) := by decide +kernel
theorem dX7_ofTwo_102 : decode cX7_ofTwo 102 = .ok (.iload_n 1, 1) := by decide +kernel
theorem dX7_ofTwo_103 : decode cX7_ofTwo 103 = .ok (.iload_n 2, 1) := by decide +kernel
theorem dX7_ofTwo_104 : decode cX7_ofTwo 104 = .ok (.imul, 1) := by decide +kernel
theorem dX7_ofTwo_105 : decode cX7_ofTwo 105 = .ok (.ireturn, 1) := by decide +kernel
theorem dX8_init_0 : decode cX8_init 0 = .ok (.aload_n 0, 1) := by decide +kernel
theorem dX8_init_1 : decode cX8_init 1 = .ok (.invokespecial 3, 3) := by decide +kernel
theorem dX8_init_4 : decode cX8_init 4 = .ok (.aload_n 0, 1) := by decide +kernel
theorem dX8_init_5 : decode cX8_init 5 = .ok (.bipush 33, 2) := by decide +kernel
theorem dX8_init_7 : decode cX8_init 7 = .ok (.newarray .int, 2) := by decide +kernel
theorem dX8_init_9 : decode cX8_init 9 = .ok (.putfield 9, 3) := by decide +kernel
theorem dX8_init_12 : decode cX8_init 12 = .ok (.aload_n 0, 1) := by decide +kernel
theorem dX8_init_13 : decode cX8_init 13 = .ok (.iload_n 1, 1) := by decide +kernel
theorem dX8_init_14 : decode cX8_init 14 = .ok (.putfield 15, 3) := by decide +kernel
theorem dX8_init_17 : decode cX8_init 17 = .ok (.aload_n 0, 1) := by decide +kernel
theorem dX8_init_18 : decode cX8_init 18 = .ok (.iload_n 2, 1) := by decide +kernel
theorem dX8_init_19 : decode cX8_init 19 = .ok (.putfield 19, 3) := by decide +kernel
theorem dX8_init_22 : decode cX8_init 22 = .ok (.iconst 1, 1) := by decide +kernel
theorem dX8_init_23 : decode cX8_init 23 = .ok (.istore_n 3, 1) := by decide +kernel
theorem dX8_init_24 : decode cX8_init 24 = .ok (.iload_n 3, 1) := by decide +kernel
theorem dX8_init_25 : decode cX8_init 25 = .ok (.bipush 32, 2) := by decide +kernel
theorem dX8_init_27 : decode cX8_init 27 = .ok (.if_icmp .gt 20, 3) := by decide +kernel
theorem dX8_init_30 : decode cX8_init 30 = .ok (.aload_n 0, 1) := by decide +kernel
theorem dX8_init_31 : decode cX8_init 31 = .ok (.getfield 9, 3) := by decide +kernel
theorem dX8_init_34 : decode cX8_init 34 = .ok (.iload_n 3, 1) := by decide +kernel
theorem dX8_init_35 : decode cX8_init 35 = .ok (.aload_n 0, 1) := by decide +kernel
theorem dX8_init_36 : decode cX8_init 36 = .ok (.iload_n 3, 1) := by decide +kernel
theorem dX8_init_37 : decode cX8_init 37 = .ok (.invokevirtual 22, 3) := by decide +kernel
theorem dX8_init_40 : decode cX8_init 40 = .ok (.iastore, 1) := by decide +kernel
theorem dX8_init_41 : decode cX8_init 41 = .ok (.iinc 3 1, 3) := by decide +kernel
theorem dX8_init_44 : decode cX8_init 44 = .ok (.goto (-20), 3) := by decide +kernel
theorem dX8_init_47 : decode cX8_init 47 = .ok (.return_, 1) := by decide +kernel
theorem dX8_kind_0 : decode cX8_kind 0 = .ok (.aload_n 0, 1) := by decide +kernel
theorem dX8_kind_1 : decode cX8_kind 1 = .ok (.getfield 15, 3) := by decide +kernel
theorem dX8_kind_4 : decode cX8_kind 4 = .ok (.ireturn, 1) := by decide +kernel
theorem dX8_cut_0 : decode cX8_cut 0 = .ok (.aload_n 0, 1) := by decide +kernel
theorem dX8_cut_1 : decode cX8_cut 1 = .ok (.getfield 19, 3) := by decide +kernel
theorem dX8_cut_4 : decode cX8_cut 4 = .ok (.ireturn, 1) := by decide +kernel
theorem dX8_above_0 : decode cX8_above 0 = .ok (.iload_n 0, 1) := by decide +kernel
theorem dX8_above_1 : decode cX8_above 1 = .ok (.tableswitch 45 1 5 #[35, 37, 39, 41, 43], 35) := by decide +kernel
theorem dX8_above_36 : decode cX8_above 36 = .ok (.iconst 0, 1) := by decide +kernel
theorem dX8_above_37 : decode cX8_above 37 = .ok (.ireturn, 1) := by decide +kernel
theorem dX8_above_38 : decode cX8_above 38 = .ok (.iconst 1, 1) := by decide +kernel
theorem dX8_above_39 : decode cX8_above 39 = .ok (.ireturn, 1) := by decide +kernel
theorem dX8_above_40 : decode cX8_above 40 = .ok (.iconst 0, 1) := by decide +kernel
theorem dX8_above_41 : decode cX8_above 41 = .ok (.ireturn, 1) := by decide +kernel
theorem dX8_above_42 : decode cX8_above 42 = .ok (.iconst 2, 1) := by decide +kernel
theorem dX8_above_43 : decode cX8_above 43 = .ok (.ireturn, 1) := by decide +kernel
theorem dX8_above_44 : decode cX8_above 44 = .ok (.iconst 3, 1) := by decide +kernel
theorem dX8_above_45 : decode cX8_above 45 = .ok (.ireturn, 1) := by decide +kernel
theorem dX8_above_46 : decode cX8_above 46 = .ok (.iconst (-1), 1) := by decide +kernel
theorem dX8_above_47 : decode cX8_above 47 = .ok (.ireturn, 1) := by decide +kernel
theorem dX8_isUnder_0 : decode cX8_isUnder 0 = .ok (.aload_n 0, 1) := by decide +kernel
theorem dX8_isUnder_1 : decode cX8_isUnder 1 = .ok (.getfield 15, 3) := by decide +kernel
theorem dX8_isUnder_4 : decode cX8_isUnder 4 = .ok (.istore_n 2, 1) := by decide +kernel
theorem dX8_isUnder_5 : decode cX8_isUnder 5 = .ok (.iconst 0, 1) := by decide +kernel
theorem dX8_isUnder_6 : decode cX8_isUnder 6 = .ok (.istore_n 3, 1) := by decide +kernel
theorem dX8_isUnder_7 : decode cX8_isUnder 7 = .ok (.iload_n 3, 1) := by decide +kernel
theorem dX8_isUnder_8 : decode cX8_isUnder 8 = .ok (.bipush 6, 2) := by decide +kernel
theorem dX8_isUnder_10 : decode cX8_isUnder 10 = .ok (.if_icmp .ge 19, 3) := by decide +kernel
theorem dX8_isUnder_13 : decode cX8_isUnder 13 = .ok (.iload_n 2, 1) := by decide +kernel
theorem dX8_isUnder_14 : decode cX8_isUnder 14 = .ok (.iload_n 1, 1) := by decide +kernel
theorem dX8_isUnder_15 : decode cX8_isUnder 15 = .ok (.if_icmp .eq 14, 3) := by decide +kernel
theorem dX8_isUnder_18 : decode cX8_isUnder 18 = .ok (.iload_n 2, 1) := by decide +kernel
theorem dX8_isUnder_19 : decode cX8_isUnder 19 = .ok (.invokestatic 26, 3) := by decide +kernel
theorem dX8_isUnder_22 : decode cX8_isUnder 22 = .ok (.istore_n 2, 1) := by decide +kernel
theorem dX8_isUnder_23 : decode cX8_isUnder 23 = .ok (.iinc 3 1, 3) := by decide +kernel
theorem dX8_isUnder_26 : decode cX8_isUnder 26 = .ok (.goto (-19), 3) := by decide +kernel
theorem dX8_isUnder_29 : decode cX8_isUnder 29 = .ok (.iload_n 2, 1) := by decide +kernel
theorem dX8_isUnder_30 : decode cX8_isUnder 30 = .ok (.iload_n 1, 1) := by decide +kernel
theorem dX8_isUnder_31 : decode cX8_isUnder 31 = .ok (.if_icmp .ne 7, 3) := by decide +kernel
theorem dX8_isUnder_34 : decode cX8_isUnder 34 = .ok (.iconst 1, 1) := by decide +kernel
theorem dX8_isUnder_35 : decode cX8_isUnder 35 = .ok (.goto 4, 3) := by decide +kernel
theorem dX8_isUnder_38 : decode cX8_isUnder 38 = .ok (.iconst 0, 1) := by decide +kernel
theorem dX8_isUnder_39 : decode cX8_isUnder 39 = .ok (.ireturn, 1) := by decide +kernel
theorem dX8_part_0 : decode cX8_part 0 = .ok (.aload_n 0, 1) := by decide +kernel
theorem dX8_part_1 : decode cX8_part 1 = .ok (.getfield 15, 3) := by decide +kernel
theorem dX8_part_4 : decode cX8_part 4 = .ok (.ifCond .ne 5, 3) := by decide +kernel
theorem dX8_part_7 : decode cX8_part 7 = .ok (.iconst 0, 1) := by decide +kernel
theorem dX8_part_8 : decode cX8_part 8 = .ok (.ireturn, 1) := by decide +kernel
theorem dX8_part_9 : decode cX8_part 9 = .ok (.aload_n 0, 1) := by decide +kernel
theorem dX8_part_10 : decode cX8_part 10 = .ok (.iconst 1, 1) := by decide +kernel
theorem dX8_part_11 : decode cX8_part 11 = .ok (.invokevirtual 31, 3) := by decide +kernel
theorem dX8_part_14 : decode cX8_part 14 = .ok (.ifCond .eq 7, 3) := by decide +kernel
theorem dX8_part_17 : decode cX8_part 17 = .ok (.iconst 1, 1) := by decide +kernel
theorem dX8_part_18 : decode cX8_part 18 = .ok (.goto 4, 3) := by decide +kernel
theorem dX8_part_21 : decode cX8_part 21 = .ok (.iconst 2, 1) := by decide +kernel
theorem dX8_part_22 : decode cX8_part 22 = .ok (.ireturn, 1) := by decide +kernel
theorem dX8_countOf_0 : decode cX8_countOf 0 = .ok (.iload_n 1, 1) := by decide +kernel
theorem dX8_countOf_1 : decode cX8_countOf 1 = .ok (.ifCond .eq 7, 3) := by decide +kernel
theorem dX8_countOf_4 : decode cX8_countOf 4 = .ok (.iload_n 2, 1) := by decide +kernel
theorem dX8_countOf_5 : decode cX8_countOf 5 = .ok (.ifCond .ne 5, 3) := by decide +kernel
theorem dX8_countOf_8 : decode cX8_countOf 8 = .ok (.iconst 0, 1) := by decide +kernel
theorem dX8_countOf_9 : decode cX8_countOf 9 = .ok (.ireturn, 1) := by decide +kernel
theorem dX8_countOf_10 : decode cX8_countOf 10 = .ok (.aload_n 0, 1) := by decide +kernel
theorem dX8_countOf_11 : decode cX8_countOf 11 = .ok (.getfield 15, 3) := by decide +kernel
theorem dX8_countOf_14 : decode cX8_countOf 14 = .ok (.lookupswitch 66 #[(0, 34), (3, 38), (5, 48)], 34) := by decide +kernel
theorem dX8_countOf_48 : decode cX8_countOf 48 = .ok (.iload_n 1, 1) := by decide +kernel
theorem dX8_countOf_49 : decode cX8_countOf 49 = .ok (.iload_n 2, 1) := by decide +kernel
theorem dX8_countOf_50 : decode cX8_countOf 50 = .ok (.imul, 1) := by decide +kernel
theorem dX8_countOf_51 : decode cX8_countOf 51 = .ok (.ireturn, 1) := by decide +kernel
theorem dX8_countOf_52 : decode cX8_countOf 52 = .ok (.iload_n 1, 1) := by decide +kernel
theorem dX8_countOf_53 : decode cX8_countOf 53 = .ok (.iload_n 2, 1) := by decide +kernel
theorem dX8_countOf_54 : decode cX8_countOf 54 = .ok (.iadd, 1) := by decide +kernel
theorem dX8_countOf_55 : decode cX8_countOf 55 = .ok (.iconst 1, 1) := by decide +kernel
theorem dX8_countOf_56 : decode cX8_countOf 56 = .ok (.isub, 1) := by decide +kernel
theorem dX8_countOf_57 : decode cX8_countOf 57 = .ok (.iconst 3, 1) := by decide +kernel
theorem dX8_countOf_58 : decode cX8_countOf 58 = .ok (.invokestatic 35, 3) := by decide +kernel
theorem dX8_countOf_61 : decode cX8_countOf 61 = .ok (.ireturn, 1) := by decide +kernel
theorem dX8_countOf_62 : decode cX8_countOf 62 = .ok (.iload_n 1, 1) := by decide +kernel
theorem dX8_countOf_63 : decode cX8_countOf 63 = .ok (.iload_n 2, 1) := by decide +kernel
theorem dX8_countOf_64 : decode cX8_countOf 64 = .ok (.iadd, 1) := by decide +kernel
theorem dX8_countOf_65 : decode cX8_countOf 65 = .ok (.iconst 1, 1) := by decide +kernel
theorem dX8_countOf_66 : decode cX8_countOf 66 = .ok (.isub, 1) := by decide +kernel
theorem dX8_countOf_67 : decode cX8_countOf 67 = .ok (.iload_n 3, 1) := by decide +kernel
theorem dX8_countOf_68 : decode cX8_countOf 68 = .ok (.ifCond .eq 7, 3) := by decide +kernel
theorem dX8_countOf_71 : decode cX8_countOf 71 = .ok (.iconst 2, 1) := by decide +kernel
theorem dX8_countOf_72 : decode cX8_countOf 72 = .ok (.goto 4, 3) := by decide +kernel
theorem dX8_countOf_75 : decode cX8_countOf 75 = .ok (.iconst 3, 1) := by decide +kernel
theorem dX8_countOf_76 : decode cX8_countOf 76 = .ok (.invokestatic 35, 3) := by decide +kernel
theorem dX8_countOf_79 : decode cX8_countOf 79 = .ok (.ireturn, 1) := by decide +kernel
theorem dX8_countOf_80 : decode cX8_countOf 80 = .ok (.aload_n 0, 1) := by decide +kernel
theorem dX8_countOf_81 : decode cX8_countOf 81 = .ok (.iload_n 1, 1) := by decide +kernel
theorem dX8_countOf_82 : decode cX8_countOf 82 = .ok (.iload_n 2, 1) := by decide +kernel
theorem dX8_countOf_83 : decode cX8_countOf 83 = .ok (.invokestatic 39, 3) := by decide +kernel
theorem dX8_countOf_86 : decode cX8_countOf 86 = .ok (.invokevirtual 44, 3) := by decide +kernel
theorem dX8_countOf_89 : decode cX8_countOf 89 = .ok (.ireturn, 1) := by decide +kernel
theorem dX8_countOfSize_0 : decode cX8_countOfSize 0 = .ok (.iload_n 1, 1) := by decide +kernel
theorem dX8_countOfSize_1 : decode cX8_countOfSize 1 = .ok (.aload_n 0, 1) := by decide +kernel
theorem dX8_countOfSize_2 : decode cX8_countOfSize 2 = .ok (.getfield 9, 3) := by decide +kernel
theorem dX8_countOfSize_5 : decode cX8_countOfSize 5 = .ok (.arraylength, 1) := by decide +kernel
theorem dX8_countOfSize_6 : decode cX8_countOfSize 6 = .ok (.invokestatic 47, 3) := by decide +kernel
theorem dX8_countOfSize_9 : decode cX8_countOfSize 9 = .ok (.ifCond .eq 12, 3) := by decide +kernel
theorem dX8_countOfSize_12 : decode cX8_countOfSize 12 = .ok (.aload_n 0, 1) := by decide +kernel
theorem dX8_countOfSize_13 : decode cX8_countOfSize 13 = .ok (.getfield 9, 3) := by decide +kernel
theorem dX8_countOfSize_16 : decode cX8_countOfSize 16 = .ok (.iload_n 1, 1) := by decide +kernel
theorem dX8_countOfSize_17 : decode cX8_countOfSize 17 = .ok (.iaload, 1) := by decide +kernel
theorem dX8_countOfSize_18 : decode cX8_countOfSize 18 = .ok (.goto 4, 3) := by decide +kernel
theorem dX8_countOfSize_21 : decode cX8_countOfSize 21 = .ok (.iconst 0, 1) := by decide +kernel
theorem dX8_countOfSize_22 : decode cX8_countOfSize 22 = .ok (.ireturn, 1) := by decide +kernel
theorem dX8_parted_0 : decode cX8_parted 0 = .ok (.iload_n 1, 1) := by decide +kernel
theorem dX8_parted_1 : decode cX8_parted 1 = .ok (.iconst 1, 1) := by decide +kernel
theorem dX8_parted_2 : decode cX8_parted 2 = .ok (.iadd, 1) := by decide +kernel
theorem dX8_parted_3 : decode cX8_parted 3 = .ok (.iconst 2, 1) := by decide +kernel
theorem dX8_parted_4 : decode cX8_parted 4 = .ok (.idiv, 1) := by decide +kernel
theorem dX8_parted_5 : decode cX8_parted 5 = .ok (.istore_n 2, 1) := by decide +kernel
theorem dX8_parted_6 : decode cX8_parted 6 = .ok (.iload_n 1, 1) := by decide +kernel
theorem dX8_parted_7 : decode cX8_parted 7 = .ok (.iconst 2, 1) := by decide +kernel
theorem dX8_parted_8 : decode cX8_parted 8 = .ok (.iadd, 1) := by decide +kernel
theorem dX8_parted_9 : decode cX8_parted 9 = .ok (.iconst 3, 1) := by decide +kernel
theorem dX8_parted_10 : decode cX8_parted 10 = .ok (.idiv, 1) := by decide +kernel
theorem dX8_parted_11 : decode cX8_parted 11 = .ok (.istore_n 3, 1) := by decide +kernel
theorem dX8_parted_12 : decode cX8_parted 12 = .ok (.aload_n 0, 1) := by decide +kernel
theorem dX8_parted_13 : decode cX8_parted 13 = .ok (.getfield 15, 3) := by decide +kernel
theorem dX8_parted_16 : decode cX8_parted 16 = .ok (.iconst 1, 1) := by decide +kernel
theorem dX8_parted_17 : decode cX8_parted 17 = .ok (.if_icmp .eq 21, 3) := by decide +kernel
theorem dX8_parted_20 : decode cX8_parted 20 = .ok (.aload_n 0, 1) := by decide +kernel
theorem dX8_parted_21 : decode cX8_parted 21 = .ok (.getfield 15, 3) := by decide +kernel
theorem dX8_parted_24 : decode cX8_parted 24 = .ok (.iconst 4, 1) := by decide +kernel
theorem dX8_parted_25 : decode cX8_parted 25 = .ok (.if_icmp .ne 17, 3) := by decide +kernel
theorem dX8_parted_28 : decode cX8_parted 28 = .ok (.iload_n 1, 1) := by decide +kernel
theorem dX8_parted_29 : decode cX8_parted 29 = .ok (.iconst 3, 1) := by decide +kernel
theorem dX8_parted_30 : decode cX8_parted 30 = .ok (.aload_n 0, 1) := by decide +kernel
theorem dX8_parted_31 : decode cX8_parted 31 = .ok (.getfield 19, 3) := by decide +kernel
theorem dX8_parted_34 : decode cX8_parted 34 = .ok (.imul, 1) := by decide +kernel
theorem dX8_parted_35 : decode cX8_parted 35 = .ok (.if_icmp .gt 7, 3) := by decide +kernel
theorem dX8_parted_38 : decode cX8_parted 38 = .ok (.iconst 1, 1) := by decide +kernel
theorem dX8_parted_39 : decode cX8_parted 39 = .ok (.goto 4, 3) := by decide +kernel
theorem dX8_parted_42 : decode cX8_parted 42 = .ok (.iconst 0, 1) := by decide +kernel
theorem dX8_parted_43 : decode cX8_parted 43 = .ok (.istore 4, 2) := by decide +kernel
theorem dX8_parted_45 : decode cX8_parted 45 = .ok (.iload_n 1, 1) := by decide +kernel
theorem dX8_parted_46 : decode cX8_parted 46 = .ok (.aload_n 0, 1) := by decide +kernel
theorem dX8_parted_47 : decode cX8_parted 47 = .ok (.getfield 19, 3) := by decide +kernel
theorem dX8_parted_50 : decode cX8_parted 50 = .ok (.if_icmp .le 16, 3) := by decide +kernel
theorem dX8_parted_53 : decode cX8_parted 53 = .ok (.aload_n 0, 1) := by decide +kernel
theorem dX8_parted_54 : decode cX8_parted 54 = .ok (.getfield 15, 3) := by decide +kernel
theorem dX8_parted_57 : decode cX8_parted 57 = .ok (.iconst 2, 1) := by decide +kernel
theorem dX8_parted_58 : decode cX8_parted 58 = .ok (.if_icmp .ne 12, 3) := by decide +kernel
theorem dX8_parted_61 : decode cX8_parted 61 = .ok (.iload_n 1, 1) := by decide +kernel
theorem dX8_parted_62 : decode cX8_parted 62 = .ok (.iconst 2, 1) := by decide +kernel
theorem dX8_parted_63 : decode cX8_parted 63 = .ok (.if_icmp .gt 7, 3) := by decide +kernel
theorem dX8_parted_66 : decode cX8_parted 66 = .ok (.iload_n 1, 1) := by decide +kernel
theorem dX8_parted_67 : decode cX8_parted 67 = .ok (.iload_n 1, 1) := by decide +kernel
theorem dX8_parted_68 : decode cX8_parted 68 = .ok (.imul, 1) := by decide +kernel
theorem dX8_parted_69 : decode cX8_parted 69 = .ok (.ireturn, 1) := by decide +kernel
theorem dX8_parted_70 : decode cX8_parted 70 = .ok (.iload 4, 2) := by decide +kernel
theorem dX8_parted_72 : decode cX8_parted 72 = .ok (.ifCond .eq 21, 3) := by decide +kernel
theorem dX8_parted_75 : decode cX8_parted 75 = .ok (.iconst 2, 1) := by decide +kernel
theorem dX8_parted_76 : decode cX8_parted 76 = .ok (.aload_n 0, 1) := by decide +kernel
theorem dX8_parted_77 : decode cX8_parted 77 = .ok (.iload_n 2, 1) := by decide +kernel
theorem dX8_parted_78 : decode cX8_parted 78 = .ok (.invokevirtual 44, 3) := by decide +kernel
theorem dX8_parted_81 : decode cX8_parted 81 = .ok (.imul, 1) := by decide +kernel
theorem dX8_parted_82 : decode cX8_parted 82 = .ok (.aload_n 0, 1) := by decide +kernel
theorem dX8_parted_83 : decode cX8_parted 83 = .ok (.iload_n 1, 1) := by decide +kernel
theorem dX8_parted_84 : decode cX8_parted 84 = .ok (.iload_n 2, 1) := by decide +kernel
theorem dX8_parted_85 : decode cX8_parted 85 = .ok (.isub, 1) := by decide +kernel
theorem dX8_parted_86 : decode cX8_parted 86 = .ok (.invokevirtual 44, 3) := by decide +kernel
theorem dX8_parted_89 : decode cX8_parted 89 = .ok (.iadd, 1) := by decide +kernel
theorem dX8_parted_90 : decode cX8_parted 90 = .ok (.goto 10, 3) := by decide +kernel
theorem dX8_parted_93 : decode cX8_parted 93 = .ok (.iconst 5, 1) := by decide +kernel
theorem dX8_parted_94 : decode cX8_parted 94 = .ok (.aload_n 0, 1) := by decide +kernel
theorem dX8_parted_95 : decode cX8_parted 95 = .ok (.iload_n 3, 1) := by decide +kernel
theorem dX8_parted_96 : decode cX8_parted 96 = .ok (.invokevirtual 44, 3) := by decide +kernel
theorem dX8_parted_99 : decode cX8_parted 99 = .ok (.imul, 1) := by decide +kernel
theorem dX8_parted_100 : decode cX8_parted 100 = .ok (.ireturn, 1) := by decide +kernel
theorem dX8_turned_0 : decode cX8_turned 0 = .ok (.iconst 1, 1) := by decide +kernel
theorem dX8_turned_1 : decode cX8_turned 1 = .ok (.istore_n 2, 1) := by decide +kernel
theorem dX8_turned_2 : decode cX8_turned 2 = .ok (.iconst 0, 1) := by decide +kernel
theorem dX8_turned_3 : decode cX8_turned 3 = .ok (.istore_n 3, 1) := by decide +kernel
theorem dX8_turned_4 : decode cX8_turned 4 = .ok (.iload_n 2, 1) := by decide +kernel
theorem dX8_turned_5 : decode cX8_turned 5 = .ok (.iload_n 0, 1) := by decide +kernel
theorem dX8_turned_6 : decode cX8_turned 6 = .ok (.if_icmp .ge 19, 3) := by decide +kernel
theorem dX8_turned_9 : decode cX8_turned 9 = .ok (.iload_n 2, 1) := by decide +kernel
theorem dX8_turned_10 : decode cX8_turned 10 = .ok (.bipush 32, 2) := by decide +kernel
theorem dX8_turned_12 : decode cX8_turned 12 = .ok (.if_icmp .gt 13, 3) := by decide +kernel
theorem dX8_turned_15 : decode cX8_turned 15 = .ok (.iload_n 2, 1) := by decide +kernel
theorem dX8_turned_16 : decode cX8_turned 16 = .ok (.iconst 2, 1) := by decide +kernel
theorem dX8_turned_17 : decode cX8_turned 17 = .ok (.imul, 1) := by decide +kernel
theorem dX8_turned_18 : decode cX8_turned 18 = .ok (.istore_n 2, 1) := by decide +kernel
theorem dX8_turned_19 : decode cX8_turned 19 = .ok (.iinc 3 1, 3) := by decide +kernel
theorem dX8_turned_22 : decode cX8_turned 22 = .ok (.goto (-18), 3) := by decide +kernel
theorem dX8_turned_25 : decode cX8_turned 25 = .ok (.iload_n 2, 1) := by decide +kernel
theorem dX8_turned_26 : decode cX8_turned 26 = .ok (.bipush 32, 2) := by decide +kernel
theorem dX8_turned_28 : decode cX8_turned 28 = .ok (.if_icmp .le 8, 3) := by decide +kernel
theorem dX8_turned_31 : decode cX8_turned 31 = .ok (.bipush (-4), 2) := by decide +kernel
theorem dX8_turned_33 : decode cX8_turned 33 = .ok (.goto 12, 3) := by decide +kernel
theorem dX8_turned_36 : decode cX8_turned 36 = .ok (.iload_n 1, 1) := by decide +kernel
theorem dX8_turned_37 : decode cX8_turned 37 = .ok (.iload_n 3, 1) := by decide +kernel
theorem dX8_turned_38 : decode cX8_turned 38 = .ok (.imul, 1) := by decide +kernel
theorem dX8_turned_39 : decode cX8_turned 39 = .ok (.iload_n 2, 1) := by decide +kernel
theorem dX8_turned_40 : decode cX8_turned 40 = .ok (.imul, 1) := by decide +kernel
theorem dX8_turned_41 : decode cX8_turned 41 = .ok (.iconst 2, 1) := by decide +kernel
theorem dX8_turned_42 : decode cX8_turned 42 = .ok (.idiv, 1) := by decide +kernel
theorem dX8_turned_43 : decode cX8_turned 43 = .ok (.iload_n 2, 1) := by decide +kernel
theorem dX8_turned_44 : decode cX8_turned 44 = .ok (.iadd, 1) := by decide +kernel
theorem dX8_turned_45 : decode cX8_turned 45 = .ok (.ireturn, 1) := by decide +kernel
theorem dX9_init_0 : decode cX9_init 0 = .ok (.aload_n 0, 1) := by decide +kernel
theorem dX9_init_1 : decode cX9_init 1 = .ok (.invokespecial 3, 3) := by decide +kernel
theorem dX9_init_4 : decode cX9_init 4 = .ok (.aload_n 0, 1) := by decide +kernel
theorem dX9_init_5 : decode cX9_init 5 = .ok (.bipush 8, 2) := by decide +kernel
theorem dX9_init_7 : decode cX9_init 7 = .ok (.anewarray 9, 3) := by decide +kernel
theorem dX9_init_10 : decode cX9_init 10 = .ok (.putfield 11, 3) := by decide +kernel
theorem dX9_init_13 : decode cX9_init 13 = .ok (.aload_n 0, 1) := by decide +kernel
theorem dX9_init_14 : decode cX9_init 14 = .ok (.new 9, 3) := by decide +kernel
theorem dX9_init_17 : decode cX9_init 17 = .ok (.dup, 1) := by decide +kernel
theorem dX9_init_18 : decode cX9_init 18 = .ok (.bipush 64, 2) := by decide +kernel
theorem dX9_init_20 : decode cX9_init 20 = .ok (.invokespecial 15, 3) := by decide +kernel
theorem dX9_init_23 : decode cX9_init 23 = .ok (.putfield 18, 3) := by decide +kernel
theorem dX9_init_26 : decode cX9_init 26 = .ok (.aload_n 0, 1) := by decide +kernel
theorem dX9_init_27 : decode cX9_init 27 = .ok (.bipush 8, 2) := by decide +kernel
theorem dX9_init_29 : decode cX9_init 29 = .ok (.anewarray 22, 3) := by decide +kernel
theorem dX9_init_32 : decode cX9_init 32 = .ok (.putfield 24, 3) := by decide +kernel
theorem dX9_init_35 : decode cX9_init 35 = .ok (.aload_n 0, 1) := by decide +kernel
theorem dX9_init_36 : decode cX9_init 36 = .ok (.new 28, 3) := by decide +kernel
theorem dX9_init_39 : decode cX9_init 39 = .ok (.dup, 1) := by decide +kernel
theorem dX9_init_40 : decode cX9_init 40 = .ok (.invokespecial 30, 3) := by decide +kernel
theorem dX9_init_43 : decode cX9_init 43 = .ok (.putfield 31, 3) := by decide +kernel
theorem dX9_init_46 : decode cX9_init 46 = .ok (.aload_n 0, 1) := by decide +kernel
theorem dX9_init_47 : decode cX9_init 47 = .ok (.bipush 6, 2) := by decide +kernel
theorem dX9_init_49 : decode cX9_init 49 = .ok (.anewarray 35, 3) := by decide +kernel
theorem dX9_init_52 : decode cX9_init 52 = .ok (.putfield 37, 3) := by decide +kernel
theorem dX9_init_55 : decode cX9_init 55 = .ok (.aload_n 0, 1) := by decide +kernel
theorem dX9_init_56 : decode cX9_init 56 = .ok (.bipush 6, 2) := by decide +kernel
theorem dX9_init_58 : decode cX9_init 58 = .ok (.newarray .int, 2) := by decide +kernel
theorem dX9_init_60 : decode cX9_init 60 = .ok (.putfield 41, 3) := by decide +kernel
theorem dX9_init_63 : decode cX9_init 63 = .ok (.aload_n 0, 1) := by decide +kernel
theorem dX9_init_64 : decode cX9_init 64 = .ok (.iconst 4, 1) := by decide +kernel
theorem dX9_init_65 : decode cX9_init 65 = .ok (.anewarray 45, 3) := by decide +kernel
theorem dX9_init_68 : decode cX9_init 68 = .ok (.putfield 47, 3) := by decide +kernel
theorem dX9_init_71 : decode cX9_init 71 = .ok (.aload_n 0, 1) := by decide +kernel
theorem dX9_init_72 : decode cX9_init 72 = .ok (.new 51, 3) := by decide +kernel
theorem dX9_init_75 : decode cX9_init 75 = .ok (.dup, 1) := by decide +kernel
theorem dX9_init_76 : decode cX9_init 76 = .ok (.iload_n 1, 1) := by decide +kernel
theorem dX9_init_77 : decode cX9_init 77 = .ok (.invokespecial 53, 3) := by decide +kernel
theorem dX9_init_80 : decode cX9_init 80 = .ok (.putfield 54, 3) := by decide +kernel
theorem dX9_init_83 : decode cX9_init 83 = .ok (.aload_n 0, 1) := by decide +kernel
theorem dX9_init_84 : decode cX9_init 84 = .ok (.new 58, 3) := by decide +kernel
theorem dX9_init_87 : decode cX9_init 87 = .ok (.dup, 1) := by decide +kernel
theorem dX9_init_88 : decode cX9_init 88 = .ok (.aload_n 0, 1) := by decide +kernel
theorem dX9_init_89 : decode cX9_init 89 = .ok (.getfield 54, 3) := by decide +kernel
theorem dX9_init_92 : decode cX9_init 92 = .ok (.invokespecial 60, 3) := by decide +kernel
theorem dX9_init_95 : decode cX9_init 95 = .ok (.putfield 63, 3) := by decide +kernel
theorem dX9_init_98 : decode cX9_init 98 = .ok (.aload_n 0, 1) := by decide +kernel
theorem dX9_init_99 : decode cX9_init 99 = .ok (.new 67, 3) := by decide +kernel
theorem dX9_init_102 : decode cX9_init 102 = .ok (.dup, 1) := by decide +kernel
theorem dX9_init_103 : decode cX9_init 103 = .ok (.aload_n 0, 1) := by decide +kernel
theorem dX9_init_104 : decode cX9_init 104 = .ok (.getfield 54, 3) := by decide +kernel
theorem dX9_init_107 : decode cX9_init 107 = .ok (.aload_n 0, 1) := by decide +kernel
theorem dX9_init_108 : decode cX9_init 108 = .ok (.getfield 63, 3) := by decide +kernel
theorem dX9_init_111 : decode cX9_init 111 = .ok (.invokespecial 69, 3) := by decide +kernel
theorem dX9_init_114 : decode cX9_init 114 = .ok (.putfield 72, 3) := by decide +kernel
theorem dX9_init_117 : decode cX9_init 117 = .ok (.aload_n 0, 1) := by decide +kernel
theorem dX9_init_118 : decode cX9_init 118 = .ok (.new 76, 3) := by decide +kernel
theorem dX9_init_121 : decode cX9_init 121 = .ok (.dup, 1) := by decide +kernel
theorem dX9_init_122 : decode cX9_init 122 = .ok (.aload_n 0, 1) := by decide +kernel
theorem dX9_init_123 : decode cX9_init 123 = .ok (.getfield 31, 3) := by decide +kernel
theorem dX9_init_126 : decode cX9_init 126 = .ok (.invokespecial 78, 3) := by decide +kernel
theorem dX9_init_129 : decode cX9_init 129 = .ok (.putfield 81, 3) := by decide +kernel
theorem dX9_init_132 : decode cX9_init 132 = .ok (.iconst 0, 1) := by decide +kernel
theorem dX9_init_133 : decode cX9_init 133 = .ok (.istore_n 2, 1) := by decide +kernel
theorem dX9_init_134 : decode cX9_init 134 = .ok (.iload_n 2, 1) := by decide +kernel
theorem dX9_init_135 : decode cX9_init 135 = .ok (.bipush 8, 2) := by decide +kernel
theorem dX9_init_137 : decode cX9_init 137 = .ok (.if_icmp .ge 24, 3) := by decide +kernel
theorem dX9_init_140 : decode cX9_init 140 = .ok (.aload_n 0, 1) := by decide +kernel
theorem dX9_init_141 : decode cX9_init 141 = .ok (.getfield 11, 3) := by decide +kernel
theorem dX9_init_144 : decode cX9_init 144 = .ok (.iload_n 2, 1) := by decide +kernel
theorem dX9_init_145 : decode cX9_init 145 = .ok (.new 9, 3) := by decide +kernel
theorem dX9_init_148 : decode cX9_init 148 = .ok (.dup, 1) := by decide +kernel
theorem dX9_init_149 : decode cX9_init 149 = .ok (.bipush 32, 2) := by decide +kernel
theorem dX9_init_151 : decode cX9_init 151 = .ok (.invokespecial 15, 3) := by decide +kernel
theorem dX9_init_154 : decode cX9_init 154 = .ok (.aastore, 1) := by decide +kernel
theorem dX9_init_155 : decode cX9_init 155 = .ok (.iinc 2 1, 3) := by decide +kernel
theorem dX9_init_158 : decode cX9_init 158 = .ok (.goto (-24), 3) := by decide +kernel
theorem dX9_init_161 : decode cX9_init 161 = .ok (.iconst 0, 1) := by decide +kernel
theorem dX9_init_162 : decode cX9_init 162 = .ok (.istore_n 2, 1) := by decide +kernel
theorem dX9_init_163 : decode cX9_init 163 = .ok (.iload_n 2, 1) := by decide +kernel
theorem dX9_init_164 : decode cX9_init 164 = .ok (.iconst 4, 1) := by decide +kernel
theorem dX9_init_165 : decode cX9_init 165 = .ok (.if_icmp .ge 22, 3) := by decide +kernel
theorem dX9_init_168 : decode cX9_init 168 = .ok (.aload_n 0, 1) := by decide +kernel
theorem dX9_init_169 : decode cX9_init 169 = .ok (.getfield 47, 3) := by decide +kernel
theorem dX9_init_172 : decode cX9_init 172 = .ok (.iload_n 2, 1) := by decide +kernel
theorem dX9_init_173 : decode cX9_init 173 = .ok (.new 45, 3) := by decide +kernel
theorem dX9_init_176 : decode cX9_init 176 = .ok (.dup, 1) := by decide +kernel
theorem dX9_init_177 : decode cX9_init 177 = .ok (.invokespecial 85, 3) := by decide +kernel
theorem dX9_init_180 : decode cX9_init 180 = .ok (.aastore, 1) := by decide +kernel
theorem dX9_init_181 : decode cX9_init 181 = .ok (.iinc 2 1, 3) := by decide +kernel
theorem dX9_init_184 : decode cX9_init 184 = .ok (.goto (-21), 3) := by decide +kernel
theorem dX9_init_187 : decode cX9_init 187 = .ok (.iconst 0, 1) := by decide +kernel
theorem dX9_init_188 : decode cX9_init 188 = .ok (.istore_n 2, 1) := by decide +kernel
theorem dX9_init_189 : decode cX9_init 189 = .ok (.iload_n 2, 1) := by decide +kernel
theorem dX9_init_190 : decode cX9_init 190 = .ok (.bipush 6, 2) := by decide +kernel
theorem dX9_init_192 : decode cX9_init 192 = .ok (.if_icmp .ge 22, 3) := by decide +kernel
theorem dX9_init_195 : decode cX9_init 195 = .ok (.aload_n 0, 1) := by decide +kernel
theorem dX9_init_196 : decode cX9_init 196 = .ok (.getfield 37, 3) := by decide +kernel
theorem dX9_init_199 : decode cX9_init 199 = .ok (.iload_n 2, 1) := by decide +kernel
theorem dX9_init_200 : decode cX9_init 200 = .ok (.new 35, 3) := by decide +kernel
theorem dX9_init_203 : decode cX9_init 203 = .ok (.dup, 1) := by decide +kernel
theorem dX9_init_204 : decode cX9_init 204 = .ok (.invokespecial 86, 3) := by decide +kernel
theorem dX9_init_207 : decode cX9_init 207 = .ok (.aastore, 1) := by decide +kernel
theorem dX9_init_208 : decode cX9_init 208 = .ok (.iinc 2 1, 3) := by decide +kernel
theorem dX9_init_211 : decode cX9_init 211 = .ok (.goto (-22), 3) := by decide +kernel
theorem dX9_init_214 : decode cX9_init 214 = .ok (.aload_n 0, 1) := by decide +kernel
theorem dX9_init_215 : decode cX9_init 215 = .ok (.getfield 31, 3) := by decide +kernel
theorem dX9_init_218 : decode cX9_init 218 = .ok (.ldc 87, 2) := by decide +kernel
theorem dX9_init_220 : decode cX9_init 220 = .ok (.invokevirtual 89, 3) := by decide +kernel
theorem dX9_init_223 : decode cX9_init 223 = .ok (.aload_n 0, 1) := by decide +kernel
theorem dX9_init_224 : decode cX9_init 224 = .ok (.getfield 31, 3) := by decide +kernel
theorem dX9_init_227 : decode cX9_init 227 = .ok (.invokevirtual 93, 3) := by decide +kernel
theorem dX9_init_230 : decode cX9_init 230 = .ok (.aload_n 0, 1) := by decide +kernel
theorem dX9_init_231 : decode cX9_init 231 = .ok (.getfield 81, 3) := by decide +kernel
theorem dX9_init_234 : decode cX9_init 234 = .ok (.aload_n 0, 1) := by decide +kernel
theorem dX9_init_235 : decode cX9_init 235 = .ok (.getfield 37, 3) := by decide +kernel
theorem dX9_init_238 : decode cX9_init 238 = .ok (.iconst 0, 1) := by decide +kernel
theorem dX9_init_239 : decode cX9_init 239 = .ok (.aaload, 1) := by decide +kernel
theorem dX9_init_240 : decode cX9_init 240 = .ok (.invokevirtual 96, 3) := by decide +kernel
theorem dX9_init_243 : decode cX9_init 243 = .ok (.pop, 1) := by decide +kernel
theorem dX9_init_244 : decode cX9_init 244 = .ok (.aload_n 0, 1) := by decide +kernel
theorem dX9_init_245 : decode cX9_init 245 = .ok (.getfield 31, 3) := by decide +kernel
theorem dX9_init_248 : decode cX9_init 248 = .ok (.invokevirtual 100, 3) := by decide +kernel
theorem dX9_init_251 : decode cX9_init 251 = .ok (.aload_n 0, 1) := by decide +kernel
theorem dX9_init_252 : decode cX9_init 252 = .ok (.iconst 1, 1) := by decide +kernel
theorem dX9_init_253 : decode cX9_init 253 = .ok (.putfield 103, 3) := by decide +kernel
theorem dX9_init_256 : decode cX9_init 256 = .ok (.return_, 1) := by decide +kernel
theorem dX9_put_0 : decode cX9_put 0 = .ok (.iload_n 1, 1) := by decide +kernel
theorem dX9_put_1 : decode cX9_put 1 = .ok (.invokestatic 107, 3) := by decide +kernel
theorem dX9_put_4 : decode cX9_put 4 = .ok (.ifCond .eq 12, 3) := by decide +kernel
theorem dX9_put_7 : decode cX9_put 7 = .ok (.iload_n 2, 1) := by decide +kernel
theorem dX9_put_8 : decode cX9_put 8 = .ok (.bipush 32, 2) := by decide +kernel
theorem dX9_put_10 : decode cX9_put 10 = .ok (.invokestatic 111, 3) := by decide +kernel
theorem dX9_put_13 : decode cX9_put 13 = .ok (.ifCond .ne 6, 3) := by decide +kernel
theorem dX9_put_16 : decode cX9_put 16 = .ok (.bipush (-2), 2) := by decide +kernel
theorem dX9_put_18 : decode cX9_put 18 = .ok (.ireturn, 1) := by decide +kernel
theorem dX9_put_19 : decode cX9_put 19 = .ok (.aload_n 0, 1) := by decide +kernel
theorem dX9_put_20 : decode cX9_put 20 = .ok (.getfield 11, 3) := by decide +kernel
theorem dX9_put_23 : decode cX9_put 23 = .ok (.iload_n 1, 1) := by decide +kernel
theorem dX9_put_24 : decode cX9_put 24 = .ok (.aaload, 1) := by decide +kernel
theorem dX9_put_25 : decode cX9_put 25 = .ok (.iload_n 2, 1) := by decide +kernel
theorem dX9_put_26 : decode cX9_put 26 = .ok (.invokevirtual 115, 3) := by decide +kernel
theorem dX9_put_29 : decode cX9_put 29 = .ok (.istore 4, 2) := by decide +kernel
theorem dX9_put_31 : decode cX9_put 31 = .ok (.aload_n 0, 1) := by decide +kernel
theorem dX9_put_32 : decode cX9_put 32 = .ok (.getfield 11, 3) := by decide +kernel
theorem dX9_put_35 : decode cX9_put 35 = .ok (.iload_n 1, 1) := by decide +kernel
theorem dX9_put_36 : decode cX9_put 36 = .ok (.aaload, 1) := by decide +kernel
theorem dX9_put_37 : decode cX9_put 37 = .ok (.iload_n 2, 1) := by decide +kernel
theorem dX9_put_38 : decode cX9_put 38 = .ok (.aload_n 0, 1) := by decide +kernel
theorem dX9_put_39 : decode cX9_put 39 = .ok (.getfield 54, 3) := by decide +kernel
theorem dX9_put_42 : decode cX9_put 42 = .ok (.iload_n 3, 1) := by decide +kernel
theorem dX9_put_43 : decode cX9_put 43 = .ok (.i2l, 1) := by decide +kernel
theorem dX9_put_44 : decode cX9_put 44 = .ok (.invokevirtual 119, 3) := by decide +kernel
theorem dX9_put_47 : decode cX9_put 47 = .ok (.invokevirtual 123, 3) := by decide +kernel
theorem dX9_put_50 : decode cX9_put 50 = .ok (.iload 4, 2) := by decide +kernel
theorem dX9_put_52 : decode cX9_put 52 = .ok (.ireturn, 1) := by decide +kernel
theorem dX9_at_0 : decode cX9_at 0 = .ok (.iload_n 1, 1) := by decide +kernel
theorem dX9_at_1 : decode cX9_at 1 = .ok (.invokestatic 107, 3) := by decide +kernel
theorem dX9_at_4 : decode cX9_at 4 = .ok (.ifCond .eq 14, 3) := by decide +kernel
theorem dX9_at_7 : decode cX9_at 7 = .ok (.iload_n 2, 1) := by decide +kernel
theorem dX9_at_8 : decode cX9_at 8 = .ok (.iconst (-1), 1) := by decide +kernel
theorem dX9_at_9 : decode cX9_at 9 = .ok (.if_icmp .lt 9, 3) := by decide +kernel
theorem dX9_at_12 : decode cX9_at 12 = .ok (.iload_n 2, 1) := by decide +kernel
theorem dX9_at_13 : decode cX9_at 13 = .ok (.bipush 32, 2) := by decide +kernel
theorem dX9_at_15 : decode cX9_at 15 = .ok (.if_icmp .lt 6, 3) := by decide +kernel
theorem dX9_at_18 : decode cX9_at 18 = .ok (.bipush (-2), 2) := by decide +kernel
theorem dX9_at_20 : decode cX9_at 20 = .ok (.ireturn, 1) := by decide +kernel
theorem dX9_at_21 : decode cX9_at 21 = .ok (.iload_n 2, 1) := by decide +kernel
theorem dX9_at_22 : decode cX9_at 22 = .ok (.iconst (-1), 1) := by decide +kernel
theorem dX9_at_23 : decode cX9_at 23 = .ok (.if_icmp .ne 15, 3) := by decide +kernel
theorem dX9_at_26 : decode cX9_at 26 = .ok (.aload_n 0, 1) := by decide +kernel
theorem dX9_at_27 : decode cX9_at 27 = .ok (.getfield 11, 3) := by decide +kernel
theorem dX9_at_30 : decode cX9_at 30 = .ok (.iload_n 1, 1) := by decide +kernel
theorem dX9_at_31 : decode cX9_at 31 = .ok (.aaload, 1) := by decide +kernel
theorem dX9_at_32 : decode cX9_at 32 = .ok (.invokevirtual 127, 3) := by decide +kernel
theorem dX9_at_35 : decode cX9_at 35 = .ok (.goto 13, 3) := by decide +kernel
theorem dX9_at_38 : decode cX9_at 38 = .ok (.aload_n 0, 1) := by decide +kernel
theorem dX9_at_39 : decode cX9_at 39 = .ok (.getfield 11, 3) := by decide +kernel
theorem dX9_at_42 : decode cX9_at 42 = .ok (.iload_n 1, 1) := by decide +kernel
theorem dX9_at_43 : decode cX9_at 43 = .ok (.aaload, 1) := by decide +kernel
theorem dX9_at_44 : decode cX9_at 44 = .ok (.iload_n 2, 1) := by decide +kernel
theorem dX9_at_45 : decode cX9_at 45 = .ok (.invokevirtual 115, 3) := by decide +kernel
theorem dX9_at_48 : decode cX9_at 48 = .ok (.ireturn, 1) := by decide +kernel
theorem dX9_clear_0 : decode cX9_clear 0 = .ok (.iload_n 1, 1) := by decide +kernel
theorem dX9_clear_1 : decode cX9_clear 1 = .ok (.invokestatic 107, 3) := by decide +kernel
theorem dX9_clear_4 : decode cX9_clear 4 = .ok (.ifCond .ne 6, 3) := by decide +kernel
theorem dX9_clear_7 : decode cX9_clear 7 = .ok (.bipush (-2), 2) := by decide +kernel
theorem dX9_clear_9 : decode cX9_clear 9 = .ok (.ireturn, 1) := by decide +kernel
theorem dX9_clear_10 : decode cX9_clear 10 = .ok (.aload_n 0, 1) := by decide +kernel
theorem dX9_clear_11 : decode cX9_clear 11 = .ok (.getfield 11, 3) := by decide +kernel
theorem dX9_clear_14 : decode cX9_clear 14 = .ok (.iload_n 1, 1) := by decide +kernel
theorem dX9_clear_15 : decode cX9_clear 15 = .ok (.aaload, 1) := by decide +kernel
theorem dX9_clear_16 : decode cX9_clear 16 = .ok (.invokevirtual 127, 3) := by decide +kernel
theorem dX9_clear_19 : decode cX9_clear 19 = .ok (.istore_n 2, 1) := by decide +kernel
theorem dX9_clear_20 : decode cX9_clear 20 = .ok (.aload_n 0, 1) := by decide +kernel
theorem dX9_clear_21 : decode cX9_clear 21 = .ok (.getfield 11, 3) := by decide +kernel
theorem dX9_clear_24 : decode cX9_clear 24 = .ok (.iload_n 1, 1) := by decide +kernel
theorem dX9_clear_25 : decode cX9_clear 25 = .ok (.aaload, 1) := by decide +kernel
theorem dX9_clear_26 : decode cX9_clear 26 = .ok (.invokevirtual 131, 3) := by decide +kernel
theorem dX9_clear_29 : decode cX9_clear 29 = .ok (.iload_n 2, 1) := by decide +kernel
theorem dX9_clear_30 : decode cX9_clear 30 = .ok (.ireturn, 1) := by decide +kernel
theorem dX9_sum_0 : decode cX9_sum 0 = .ok (.iload_n 1, 1) := by decide +kernel
theorem dX9_sum_1 : decode cX9_sum 1 = .ok (.iload_n 2, 1) := by decide +kernel
theorem dX9_sum_2 : decode cX9_sum 2 = .ok (.iload 4, 2) := by decide +kernel
theorem dX9_sum_4 : decode cX9_sum 4 = .ok (.invokestatic 132, 3) := by decide +kernel
theorem dX9_sum_7 : decode cX9_sum 7 = .ok (.ifCond .ne 6, 3) := by decide +kernel
theorem dX9_sum_10 : decode cX9_sum 10 = .ok (.bipush (-2), 2) := by decide +kernel
theorem dX9_sum_12 : decode cX9_sum 12 = .ok (.ireturn, 1) := by decide +kernel
theorem dX9_sum_13 : decode cX9_sum 13 = .ok (.aload_n 0, 1) := by decide +kernel
theorem dX9_sum_14 : decode cX9_sum 14 = .ok (.getfield 18, 3) := by decide +kernel
theorem dX9_sum_17 : decode cX9_sum 17 = .ok (.aload_n 0, 1) := by decide +kernel
theorem dX9_sum_18 : decode cX9_sum 18 = .ok (.getfield 11, 3) := by decide +kernel
theorem dX9_sum_21 : decode cX9_sum 21 = .ok (.iload 4, 2) := by decide +kernel
theorem dX9_sum_23 : decode cX9_sum 23 = .ok (.aaload, 1) := by decide +kernel
theorem dX9_sum_24 : decode cX9_sum 24 = .ok (.invokevirtual 136, 3) := by decide +kernel
theorem dX9_sum_27 : decode cX9_sum 27 = .ok (.aload_n 0, 1) := by decide +kernel
theorem dX9_sum_28 : decode cX9_sum 28 = .ok (.getfield 63, 3) := by decide +kernel
theorem dX9_sum_31 : decode cX9_sum 31 = .ok (.aload_n 0, 1) := by decide +kernel
theorem dX9_sum_32 : decode cX9_sum 32 = .ok (.getfield 18, 3) := by decide +kernel
theorem dX9_sum_35 : decode cX9_sum 35 = .ok (.aload_n 0, 1) := by decide +kernel
theorem dX9_sum_36 : decode cX9_sum 36 = .ok (.getfield 54, 3) := by decide +kernel
theorem dX9_sum_39 : decode cX9_sum 39 = .ok (.iload_n 3, 1) := by decide +kernel
theorem dX9_sum_40 : decode cX9_sum 40 = .ok (.i2l, 1) := by decide +kernel
theorem dX9_sum_41 : decode cX9_sum 41 = .ok (.invokevirtual 119, 3) := by decide +kernel
theorem dX9_sum_44 : decode cX9_sum 44 = .ok (.aload_n 0, 1) := by decide +kernel
theorem dX9_sum_45 : decode cX9_sum 45 = .ok (.getfield 11, 3) := by decide +kernel
theorem dX9_sum_48 : decode cX9_sum 48 = .ok (.iload_n 2, 1) := by decide +kernel
theorem dX9_sum_49 : decode cX9_sum 49 = .ok (.aaload, 1) := by decide +kernel
theorem dX9_sum_50 : decode cX9_sum 50 = .ok (.iconst 0, 1) := by decide +kernel
theorem dX9_sum_51 : decode cX9_sum 51 = .ok (.invokevirtual 140, 3) := by decide +kernel
theorem dX9_sum_54 : decode cX9_sum 54 = .ok (.aload_n 0, 1) := by decide +kernel
theorem dX9_sum_55 : decode cX9_sum 55 = .ok (.iload_n 1, 1) := by decide +kernel
theorem dX9_sum_56 : decode cX9_sum 56 = .ok (.aload_n 0, 1) := by decide +kernel
theorem dX9_sum_57 : decode cX9_sum 57 = .ok (.getfield 18, 3) := by decide +kernel
theorem dX9_sum_60 : decode cX9_sum 60 = .ok (.invokevirtual 144, 3) := by decide +kernel
theorem dX9_sum_63 : decode cX9_sum 63 = .ok (.ireturn, 1) := by decide +kernel
theorem dX9_way_0 : decode cX9_way 0 = .ok (.iload_n 1, 1) := by decide +kernel
theorem dX9_way_1 : decode cX9_way 1 = .ok (.bipush 6, 2) := by decide +kernel
theorem dX9_way_3 : decode cX9_way 3 = .ok (.invokestatic 111, 3) := by decide +kernel
theorem dX9_way_6 : decode cX9_way 6 = .ok (.ifCond .eq 14, 3) := by decide +kernel
theorem dX9_way_9 : decode cX9_way 9 = .ok (.iload_n 2, 1) := by decide +kernel
theorem dX9_way_10 : decode cX9_way 10 = .ok (.iconst 1, 1) := by decide +kernel
theorem dX9_way_11 : decode cX9_way 11 = .ok (.if_icmp .lt 9, 3) := by decide +kernel
theorem dX9_way_14 : decode cX9_way 14 = .ok (.iload_n 2, 1) := by decide +kernel
theorem dX9_way_15 : decode cX9_way 15 = .ok (.bipush 16, 2) := by decide +kernel
theorem dX9_way_17 : decode cX9_way 17 = .ok (.if_icmp .le 6, 3) := by decide +kernel
theorem dX9_way_20 : decode cX9_way 20 = .ok (.bipush (-2), 2) := by decide +kernel
theorem dX9_way_22 : decode cX9_way 22 = .ok (.ireturn, 1) := by decide +kernel
theorem dX9_way_23 : decode cX9_way 23 = .ok (.aload_n 0, 1) := by decide +kernel
theorem dX9_way_24 : decode cX9_way 24 = .ok (.getfield 148, 3) := by decide +kernel
theorem dX9_way_27 : decode cX9_way 27 = .ok (.bipush 8, 2) := by decide +kernel
theorem dX9_way_29 : decode cX9_way 29 = .ok (.if_icmp .lt 6, 3) := by decide +kernel
theorem dX9_way_32 : decode cX9_way 32 = .ok (.bipush (-4), 2) := by decide +kernel
theorem dX9_way_34 : decode cX9_way 34 = .ok (.ireturn, 1) := by decide +kernel
theorem dX9_way_35 : decode cX9_way 35 = .ok (.aload_n 0, 1) := by decide +kernel
theorem dX9_way_36 : decode cX9_way 36 = .ok (.getfield 24, 3) := by decide +kernel
theorem dX9_way_39 : decode cX9_way 39 = .ok (.aload_n 0, 1) := by decide +kernel
theorem dX9_way_40 : decode cX9_way 40 = .ok (.getfield 148, 3) := by decide +kernel
theorem dX9_way_43 : decode cX9_way 43 = .ok (.new 22, 3) := by decide +kernel
theorem dX9_way_46 : decode cX9_way 46 = .ok (.dup, 1) := by decide +kernel
theorem dX9_way_47 : decode cX9_way 47 = .ok (.iload_n 1, 1) := by decide +kernel
theorem dX9_way_48 : decode cX9_way 48 = .ok (.iload_n 2, 1) := by decide +kernel
theorem dX9_way_49 : decode cX9_way 49 = .ok (.invokespecial 151, 3) := by decide +kernel
theorem dX9_way_52 : decode cX9_way 52 = .ok (.aastore, 1) := by decide +kernel
theorem dX9_way_53 : decode cX9_way 53 = .ok (.aload_n 0, 1) := by decide +kernel
theorem dX9_way_54 : decode cX9_way 54 = .ok (.dup, 1) := by decide +kernel
theorem dX9_way_55 : decode cX9_way 55 = .ok (.getfield 148, 3) := by decide +kernel
theorem dX9_way_58 : decode cX9_way 58 = .ok (.iconst 1, 1) := by decide +kernel
theorem dX9_way_59 : decode cX9_way 59 = .ok (.iadd, 1) := by decide +kernel
theorem dX9_way_60 : decode cX9_way 60 = .ok (.putfield 148, 3) := by decide +kernel
theorem dX9_way_63 : decode cX9_way 63 = .ok (.aload_n 0, 1) := by decide +kernel
theorem dX9_way_64 : decode cX9_way 64 = .ok (.getfield 148, 3) := by decide +kernel
theorem dX9_way_67 : decode cX9_way 67 = .ok (.iconst 1, 1) := by decide +kernel
theorem dX9_way_68 : decode cX9_way 68 = .ok (.isub, 1) := by decide +kernel
theorem dX9_way_69 : decode cX9_way 69 = .ok (.ireturn, 1) := by decide +kernel
theorem dX9_times_0 : decode cX9_times 0 = .ok (.iload_n 1, 1) := by decide +kernel
theorem dX9_times_1 : decode cX9_times 1 = .ok (.iload_n 2, 1) := by decide +kernel
theorem dX9_times_2 : decode cX9_times 2 = .ok (.iload_n 3, 1) := by decide +kernel
theorem dX9_times_3 : decode cX9_times 3 = .ok (.invokestatic 132, 3) := by decide +kernel
theorem dX9_times_6 : decode cX9_times 6 = .ok (.ifCond .eq 12, 3) := by decide +kernel
theorem dX9_times_9 : decode cX9_times 9 = .ok (.aload_n 0, 1) := by decide +kernel
theorem dX9_times_10 : decode cX9_times 10 = .ok (.iload 4, 2) := by decide +kernel
theorem dX9_times_12 : decode cX9_times 12 = .ok (.invokevirtual 153, 3) := by decide +kernel
theorem dX9_times_15 : decode cX9_times 15 = .ok (.ifCond .ne 6, 3) := by decide +kernel
theorem dX9_times_18 : decode cX9_times 18 = .ok (.bipush (-2), 2) := by decide +kernel
theorem dX9_times_20 : decode cX9_times 20 = .ok (.ireturn, 1) := by decide +kernel
theorem dX9_times_21 : decode cX9_times 21 = .ok (.aload_n 0, 1) := by decide +kernel
theorem dX9_times_22 : decode cX9_times 22 = .ok (.iload_n 1, 1) := by decide +kernel
theorem dX9_times_23 : decode cX9_times 23 = .ok (.iload_n 2, 1) := by decide +kernel
theorem dX9_times_24 : decode cX9_times 24 = .ok (.iload_n 3, 1) := by decide +kernel
theorem dX9_times_25 : decode cX9_times 25 = .ok (.iload 4, 2) := by decide +kernel
theorem dX9_times_27 : decode cX9_times 27 = .ok (.invokevirtual 156, 3) := by decide +kernel
theorem dX9_times_30 : decode cX9_times 30 = .ok (.ireturn, 1) := by decide +kernel
theorem dX9_cost_0 : decode cX9_cost 0 = .ok (.iload_n 1, 1) := by decide +kernel
theorem dX9_cost_1 : decode cX9_cost 1 = .ok (.invokestatic 107, 3) := by decide +kernel
theorem dX9_cost_4 : decode cX9_cost 4 = .ok (.ifCond .eq 18, 3) := by decide +kernel
theorem dX9_cost_7 : decode cX9_cost 7 = .ok (.iload_n 2, 1) := by decide +kernel
theorem dX9_cost_8 : decode cX9_cost 8 = .ok (.invokestatic 107, 3) := by decide +kernel
theorem dX9_cost_11 : decode cX9_cost 11 = .ok (.ifCond .eq 11, 3) := by decide +kernel
theorem dX9_cost_14 : decode cX9_cost 14 = .ok (.aload_n 0, 1) := by decide +kernel
theorem dX9_cost_15 : decode cX9_cost 15 = .ok (.iload_n 3, 1) := by decide +kernel
theorem dX9_cost_16 : decode cX9_cost 16 = .ok (.invokevirtual 153, 3) := by decide +kernel
theorem dX9_cost_19 : decode cX9_cost 19 = .ok (.ifCond .ne 6, 3) := by decide +kernel
theorem dX9_cost_22 : decode cX9_cost 22 = .ok (.bipush (-2), 2) := by decide +kernel
theorem dX9_cost_24 : decode cX9_cost 24 = .ok (.ireturn, 1) := by decide +kernel
theorem dX9_cost_25 : decode cX9_cost 25 = .ok (.aload_n 0, 1) := by decide +kernel
theorem dX9_cost_26 : decode cX9_cost 26 = .ok (.iload_n 1, 1) := by decide +kernel
theorem dX9_cost_27 : decode cX9_cost 27 = .ok (.iload_n 2, 1) := by decide +kernel
theorem dX9_cost_28 : decode cX9_cost 28 = .ok (.iload_n 3, 1) := by decide +kernel
theorem dX9_cost_29 : decode cX9_cost 29 = .ok (.invokevirtual 160, 3) := by decide +kernel
theorem dX9_cost_32 : decode cX9_cost 32 = .ok (.ireturn, 1) := by decide +kernel
theorem dX9_plan_0 : decode cX9_plan 0 = .ok (.iload_n 1, 1) := by decide +kernel
theorem dX9_plan_1 : decode cX9_plan 1 = .ok (.invokestatic 107, 3) := by decide +kernel
theorem dX9_plan_4 : decode cX9_plan 4 = .ok (.ifCond .eq 10, 3) := by decide +kernel
theorem dX9_plan_7 : decode cX9_plan 7 = .ok (.iload_n 2, 1) := by decide +kernel
theorem dX9_plan_8 : decode cX9_plan 8 = .ok (.invokestatic 107, 3) := by decide +kernel
theorem dX9_plan_11 : decode cX9_plan 11 = .ok (.ifCond .ne 6, 3) := by decide +kernel
theorem dX9_plan_14 : decode cX9_plan 14 = .ok (.bipush (-2), 2) := by decide +kernel
theorem dX9_plan_16 : decode cX9_plan 16 = .ok (.ireturn, 1) := by decide +kernel
theorem dX9_plan_17 : decode cX9_plan 17 = .ok (.aload_n 0, 1) := by decide +kernel
theorem dX9_plan_18 : decode cX9_plan 18 = .ok (.iload_n 1, 1) := by decide +kernel
theorem dX9_plan_19 : decode cX9_plan 19 = .ok (.iload_n 2, 1) := by decide +kernel
theorem dX9_plan_20 : decode cX9_plan 20 = .ok (.invokevirtual 164, 3) := by decide +kernel
theorem dX9_plan_23 : decode cX9_plan 23 = .ok (.ireturn, 1) := by decide +kernel
theorem dX9_planned_0 : decode cX9_planned 0 = .ok (.iload_n 1, 1) := by decide +kernel
theorem dX9_planned_1 : decode cX9_planned 1 = .ok (.iload_n 2, 1) := by decide +kernel
theorem dX9_planned_2 : decode cX9_planned 2 = .ok (.iload_n 3, 1) := by decide +kernel
theorem dX9_planned_3 : decode cX9_planned 3 = .ok (.invokestatic 132, 3) := by decide +kernel
theorem dX9_planned_6 : decode cX9_planned 6 = .ok (.ifCond .ne 6, 3) := by decide +kernel
theorem dX9_planned_9 : decode cX9_planned 9 = .ok (.bipush (-2), 2) := by decide +kernel
theorem dX9_planned_11 : decode cX9_planned 11 = .ok (.ireturn, 1) := by decide +kernel
theorem dX9_planned_12 : decode cX9_planned 12 = .ok (.aload_n 0, 1) := by decide +kernel
theorem dX9_planned_13 : decode cX9_planned 13 = .ok (.iload_n 2, 1) := by decide +kernel
theorem dX9_planned_14 : decode cX9_planned 14 = .ok (.iload_n 3, 1) := by decide +kernel
theorem dX9_planned_15 : decode cX9_planned 15 = .ok (.invokevirtual 164, 3) := by decide +kernel
theorem dX9_planned_18 : decode cX9_planned 18 = .ok (.istore 4, 2) := by decide +kernel
theorem dX9_planned_20 : decode cX9_planned 20 = .ok (.iload 4, 2) := by decide +kernel
theorem dX9_planned_22 : decode cX9_planned 22 = .ok (.iconst (-1), 1) := by decide +kernel
theorem dX9_planned_23 : decode cX9_planned 23 = .ok (.if_icmp .ne 6, 3) := by decide +kernel
theorem dX9_planned_26 : decode cX9_planned 26 = .ok (.bipush (-3), 2) := by decide +kernel
theorem dX9_planned_28 : decode cX9_planned 28 = .ok (.ireturn, 1) := by decide +kernel
theorem dX9_planned_29 : decode cX9_planned 29 = .ok (.aload_n 0, 1) := by decide +kernel
theorem dX9_planned_30 : decode cX9_planned 30 = .ok (.iload_n 1, 1) := by decide +kernel
theorem dX9_planned_31 : decode cX9_planned 31 = .ok (.iload_n 2, 1) := by decide +kernel
theorem dX9_planned_32 : decode cX9_planned 32 = .ok (.iload_n 3, 1) := by decide +kernel
theorem dX9_planned_33 : decode cX9_planned 33 = .ok (.iload 4, 2) := by decide +kernel
theorem dX9_planned_35 : decode cX9_planned 35 = .ok (.invokevirtual 156, 3) := by decide +kernel
theorem dX9_planned_38 : decode cX9_planned 38 = .ok (.bipush (-4), 2) := by decide +kernel
theorem dX9_planned_40 : decode cX9_planned 40 = .ok (.if_icmp .ne 8, 3) := by decide +kernel
theorem dX9_planned_43 : decode cX9_planned 43 = .ok (.bipush (-4), 2) := by decide +kernel
theorem dX9_planned_45 : decode cX9_planned 45 = .ok (.goto 5, 3) := by decide +kernel
theorem dX9_planned_48 : decode cX9_planned 48 = .ok (.iload 4, 2) := by decide +kernel
theorem dX9_planned_50 : decode cX9_planned 50 = .ok (.ireturn, 1) := by decide +kernel
theorem dX9_feed_0 : decode cX9_feed 0 = .ok (.iload_n 1, 1) := by decide +kernel
theorem dX9_feed_1 : decode cX9_feed 1 = .ok (.iconst 1, 1) := by decide +kernel
theorem dX9_feed_2 : decode cX9_feed 2 = .ok (.if_icmp .lt 9, 3) := by decide +kernel
theorem dX9_feed_5 : decode cX9_feed 5 = .ok (.iload_n 1, 1) := by decide +kernel
theorem dX9_feed_6 : decode cX9_feed 6 = .ok (.bipush 8, 2) := by decide +kernel
theorem dX9_feed_8 : decode cX9_feed 8 = .ok (.if_icmp .le 6, 3) := by decide +kernel
theorem dX9_feed_11 : decode cX9_feed 11 = .ok (.bipush (-2), 2) := by decide +kernel
theorem dX9_feed_13 : decode cX9_feed 13 = .ok (.ireturn, 1) := by decide +kernel
theorem dX9_feed_14 : decode cX9_feed 14 = .ok (.aload_n 0, 1) := by decide +kernel
theorem dX9_feed_15 : decode cX9_feed 15 = .ok (.getfield 31, 3) := by decide +kernel
theorem dX9_feed_18 : decode cX9_feed 18 = .ok (.invokevirtual 168, 3) := by decide +kernel
theorem dX9_feed_21 : decode cX9_feed 21 = .ok (.iload_n 1, 1) := by decide +kernel
theorem dX9_feed_22 : decode cX9_feed 22 = .ok (.iadd, 1) := by decide +kernel
theorem dX9_feed_23 : decode cX9_feed 23 = .ok (.sipush 160, 3) := by decide +kernel
theorem dX9_feed_26 : decode cX9_feed 26 = .ok (.if_icmp .le 6, 3) := by decide +kernel
theorem dX9_feed_29 : decode cX9_feed 29 = .ok (.bipush (-4), 2) := by decide +kernel
theorem dX9_feed_31 : decode cX9_feed 31 = .ok (.ireturn, 1) := by decide +kernel
theorem dX9_feed_32 : decode cX9_feed 32 = .ok (.aload_n 0, 1) := by decide +kernel
theorem dX9_feed_33 : decode cX9_feed 33 = .ok (.getfield 31, 3) := by decide +kernel
theorem dX9_feed_36 : decode cX9_feed 36 = .ok (.iload_n 1, 1) := by decide +kernel
theorem dX9_feed_37 : decode cX9_feed 37 = .ok (.lload_n 2, 1) := by decide +kernel
theorem dX9_feed_38 : decode cX9_feed 38 = .ok (.invokevirtual 171, 3) := by decide +kernel
theorem dX9_feed_41 : decode cX9_feed 41 = .ok (.aload_n 0, 1) := by decide +kernel
theorem dX9_feed_42 : decode cX9_feed 42 = .ok (.getfield 31, 3) := by decide +kernel
theorem dX9_feed_45 : decode cX9_feed 45 = .ok (.invokevirtual 168, 3) := by decide +kernel
theorem dX9_feed_48 : decode cX9_feed 48 = .ok (.ireturn, 1) := by decide +kernel
theorem dX9_text_0 : decode cX9_text 0 = .ok (.aload_n 0, 1) := by decide +kernel
theorem dX9_text_1 : decode cX9_text 1 = .ok (.getfield 103, 3) := by decide +kernel
theorem dX9_text_4 : decode cX9_text 4 = .ok (.bipush 6, 2) := by decide +kernel
theorem dX9_text_6 : decode cX9_text 6 = .ok (.if_icmp .lt 6, 3) := by decide +kernel
theorem dX9_text_9 : decode cX9_text 9 = .ok (.bipush (-4), 2) := by decide +kernel
theorem dX9_text_11 : decode cX9_text 11 = .ok (.ireturn, 1) := by decide +kernel
theorem dX9_text_12 : decode cX9_text 12 = .ok (.aload_n 0, 1) := by decide +kernel
theorem dX9_text_13 : decode cX9_text 13 = .ok (.getfield 31, 3) := by decide +kernel
theorem dX9_text_16 : decode cX9_text 16 = .ok (.invokevirtual 93, 3) := by decide +kernel
theorem dX9_text_19 : decode cX9_text 19 = .ok (.aload_n 0, 1) := by decide +kernel
theorem dX9_text_20 : decode cX9_text 20 = .ok (.getfield 81, 3) := by decide +kernel
theorem dX9_text_23 : decode cX9_text 23 = .ok (.aload_n 0, 1) := by decide +kernel
theorem dX9_text_24 : decode cX9_text 24 = .ok (.getfield 37, 3) := by decide +kernel
theorem dX9_text_27 : decode cX9_text 27 = .ok (.aload_n 0, 1) := by decide +kernel
theorem dX9_text_28 : decode cX9_text 28 = .ok (.getfield 103, 3) := by decide +kernel
theorem dX9_text_31 : decode cX9_text 31 = .ok (.aaload, 1) := by decide +kernel
theorem dX9_text_32 : decode cX9_text 32 = .ok (.invokevirtual 96, 3) := by decide +kernel
theorem dX9_text_35 : decode cX9_text 35 = .ok (.istore_n 1, 1) := by decide +kernel
theorem dX9_text_36 : decode cX9_text 36 = .ok (.aload_n 0, 1) := by decide +kernel
theorem dX9_text_37 : decode cX9_text 37 = .ok (.getfield 31, 3) := by decide +kernel
theorem dX9_text_40 : decode cX9_text 40 = .ok (.invokevirtual 100, 3) := by decide +kernel
theorem dX9_text_43 : decode cX9_text 43 = .ok (.iload_n 1, 1) := by decide +kernel
theorem dX9_text_44 : decode cX9_text 44 = .ok (.iconst (-1), 1) := by decide +kernel
theorem dX9_text_45 : decode cX9_text 45 = .ok (.if_icmp .eq 8, 3) := by decide +kernel
theorem dX9_text_48 : decode cX9_text 48 = .ok (.bipush (-100), 2) := by decide +kernel
theorem dX9_text_50 : decode cX9_text 50 = .ok (.iload_n 1, 1) := by decide +kernel
theorem dX9_text_51 : decode cX9_text 51 = .ok (.isub, 1) := by decide +kernel
theorem dX9_text_52 : decode cX9_text 52 = .ok (.ireturn, 1) := by decide +kernel
theorem dX9_text_53 : decode cX9_text 53 = .ok (.aload_n 0, 1) := by decide +kernel
theorem dX9_text_54 : decode cX9_text 54 = .ok (.dup, 1) := by decide +kernel
theorem dX9_text_55 : decode cX9_text 55 = .ok (.getfield 103, 3) := by decide +kernel
theorem dX9_text_58 : decode cX9_text 58 = .ok (.iconst 1, 1) := by decide +kernel
theorem dX9_text_59 : decode cX9_text 59 = .ok (.iadd, 1) := by decide +kernel
theorem dX9_text_60 : decode cX9_text 60 = .ok (.putfield 103, 3) := by decide +kernel
theorem dX9_text_63 : decode cX9_text 63 = .ok (.aload_n 0, 1) := by decide +kernel
theorem dX9_text_64 : decode cX9_text 64 = .ok (.getfield 103, 3) := by decide +kernel
theorem dX9_text_67 : decode cX9_text 67 = .ok (.iconst 1, 1) := by decide +kernel
theorem dX9_text_68 : decode cX9_text 68 = .ok (.isub, 1) := by decide +kernel
theorem dX9_text_69 : decode cX9_text 69 = .ok (.ireturn, 1) := by decide +kernel
theorem dX9_force_0 : decode cX9_force 0 = .ok (.iload_n 1, 1) := by decide +kernel
theorem dX9_force_1 : decode cX9_force 1 = .ok (.aload_n 0, 1) := by decide +kernel
theorem dX9_force_2 : decode cX9_force 2 = .ok (.getfield 103, 3) := by decide +kernel
theorem dX9_force_5 : decode cX9_force 5 = .ok (.invokestatic 111, 3) := by decide +kernel
theorem dX9_force_8 : decode cX9_force 8 = .ok (.ifCond .ne 6, 3) := by decide +kernel
theorem dX9_force_11 : decode cX9_force 11 = .ok (.bipush (-2), 2) := by decide +kernel
theorem dX9_force_13 : decode cX9_force 13 = .ok (.ireturn, 1) := by decide +kernel
theorem dX9_force_14 : decode cX9_force 14 = .ok (.aload_n 0, 1) := by decide +kernel
theorem dX9_force_15 : decode cX9_force 15 = .ok (.getfield 175, 3) := by decide +kernel
theorem dX9_force_18 : decode cX9_force 18 = .ok (.istore_n 2, 1) := by decide +kernel
theorem dX9_force_19 : decode cX9_force 19 = .ok (.aload_n 0, 1) := by decide +kernel
theorem dX9_force_20 : decode cX9_force 20 = .ok (.iload_n 1, 1) := by decide +kernel
theorem dX9_force_21 : decode cX9_force 21 = .ok (.putfield 175, 3) := by decide +kernel
theorem dX9_force_24 : decode cX9_force 24 = .ok (.iload_n 2, 1) := by decide +kernel
theorem dX9_force_25 : decode cX9_force 25 = .ok (.ireturn, 1) := by decide +kernel
theorem dX9_says_0 : decode cX9_says 0 = .ok (.aload_n 0, 1) := by decide +kernel
theorem dX9_says_1 : decode cX9_says 1 = .ok (.iload_n 1, 1) := by decide +kernel
theorem dX9_says_2 : decode cX9_says 2 = .ok (.invokevirtual 153, 3) := by decide +kernel
theorem dX9_says_5 : decode cX9_says 5 = .ok (.ifCond .eq 17, 3) := by decide +kernel
theorem dX9_says_8 : decode cX9_says 8 = .ok (.iload_n 2, 1) := by decide +kernel
theorem dX9_says_9 : decode cX9_says 9 = .ok (.invokestatic 107, 3) := by decide +kernel
theorem dX9_says_12 : decode cX9_says 12 = .ok (.ifCond .eq 10, 3) := by decide +kernel
theorem dX9_says_15 : decode cX9_says 15 = .ok (.iload_n 3, 1) := by decide +kernel
theorem dX9_says_16 : decode cX9_says 16 = .ok (.invokestatic 107, 3) := by decide +kernel
theorem dX9_says_19 : decode cX9_says 19 = .ok (.ifCond .ne 7, 3) := by decide +kernel
theorem dX9_says_22 : decode cX9_says 22 = .ok (.ldc2_w 178, 3) := by decide +kernel
theorem dX9_says_25 : decode cX9_says 25 = .ok (.lreturn, 1) := by decide +kernel
theorem dX9_says_26 : decode cX9_says 26 = .ok (.aload_n 0, 1) := by decide +kernel
theorem dX9_says_27 : decode cX9_says 27 = .ok (.iload_n 2, 1) := by decide +kernel
theorem dX9_says_28 : decode cX9_says 28 = .ok (.iload_n 3, 1) := by decide +kernel
theorem dX9_says_29 : decode cX9_says 29 = .ok (.iload_n 1, 1) := by decide +kernel
theorem dX9_says_30 : decode cX9_says 30 = .ok (.invokevirtual 180, 3) := by decide +kernel
theorem dX9_says_33 : decode cX9_says 33 = .ok (.i2l, 1) := by decide +kernel
theorem dX9_says_34 : decode cX9_says 34 = .ok (.lreturn, 1) := by decide +kernel
theorem dX9_divide_0 : decode cX9_divide 0 = .ok (.iload_n 1, 1) := by decide +kernel
theorem dX9_divide_1 : decode cX9_divide 1 = .ok (.iload_n 2, 1) := by decide +kernel
theorem dX9_divide_2 : decode cX9_divide 2 = .ok (.iload_n 3, 1) := by decide +kernel
theorem dX9_divide_3 : decode cX9_divide 3 = .ok (.invokestatic 132, 3) := by decide +kernel
theorem dX9_divide_6 : decode cX9_divide 6 = .ok (.ifCond .ne 6, 3) := by decide +kernel
theorem dX9_divide_9 : decode cX9_divide 9 = .ok (.bipush (-2), 2) := by decide +kernel
theorem dX9_divide_11 : decode cX9_divide 11 = .ok (.ireturn, 1) := by decide +kernel
theorem dX9_divide_12 : decode cX9_divide 12 = .ok (.aload_n 0, 1) := by decide +kernel
theorem dX9_divide_13 : decode cX9_divide 13 = .ok (.getfield 11, 3) := by decide +kernel
theorem dX9_divide_16 : decode cX9_divide 16 = .ok (.iload_n 3, 1) := by decide +kernel
theorem dX9_divide_17 : decode cX9_divide 17 = .ok (.aaload, 1) := by decide +kernel
theorem dX9_divide_18 : decode cX9_divide 18 = .ok (.invokevirtual 127, 3) := by decide +kernel
theorem dX9_divide_21 : decode cX9_divide 21 = .ok (.ifCond .ne 6, 3) := by decide +kernel
theorem dX9_divide_24 : decode cX9_divide 24 = .ok (.bipush (-3), 2) := by decide +kernel
theorem dX9_divide_26 : decode cX9_divide 26 = .ok (.ireturn, 1) := by decide +kernel
theorem dX9_divide_27 : decode cX9_divide 27 = .ok (.aload_n 0, 1) := by decide +kernel
theorem dX9_divide_28 : decode cX9_divide 28 = .ok (.getfield 18, 3) := by decide +kernel
theorem dX9_divide_31 : decode cX9_divide 31 = .ok (.aload_n 0, 1) := by decide +kernel
theorem dX9_divide_32 : decode cX9_divide 32 = .ok (.getfield 11, 3) := by decide +kernel
theorem dX9_divide_35 : decode cX9_divide 35 = .ok (.iload_n 2, 1) := by decide +kernel
theorem dX9_divide_36 : decode cX9_divide 36 = .ok (.aaload, 1) := by decide +kernel
theorem dX9_divide_37 : decode cX9_divide 37 = .ok (.invokevirtual 136, 3) := by decide +kernel
theorem dX9_divide_40 : decode cX9_divide 40 = .ok (.aload_n 0, 1) := by decide +kernel
theorem dX9_divide_41 : decode cX9_divide 41 = .ok (.getfield 63, 3) := by decide +kernel
theorem dX9_divide_44 : decode cX9_divide 44 = .ok (.aload_n 0, 1) := by decide +kernel
theorem dX9_divide_45 : decode cX9_divide 45 = .ok (.getfield 18, 3) := by decide +kernel
theorem dX9_divide_48 : decode cX9_divide 48 = .ok (.aload_n 0, 1) := by decide +kernel
theorem dX9_divide_49 : decode cX9_divide 49 = .ok (.getfield 11, 3) := by decide +kernel
theorem dX9_divide_52 : decode cX9_divide 52 = .ok (.iload_n 3, 1) := by decide +kernel
theorem dX9_divide_53 : decode cX9_divide 53 = .ok (.aaload, 1) := by decide +kernel
theorem dX9_divide_54 : decode cX9_divide 54 = .ok (.invokevirtual 183, 3) := by decide +kernel
theorem dX9_divide_57 : decode cX9_divide 57 = .ok (.astore 5, 2) := by decide +kernel
theorem dX9_divide_59 : decode cX9_divide 59 = .ok (.aload_n 0, 1) := by decide +kernel
theorem dX9_divide_60 : decode cX9_divide 60 = .ok (.iload_n 1, 1) := by decide +kernel
theorem dX9_divide_61 : decode cX9_divide 61 = .ok (.iload 4, 2) := by decide +kernel
theorem dX9_divide_63 : decode cX9_divide 63 = .ok (.ifCond .eq 10, 3) := by decide +kernel
theorem dX9_divide_66 : decode cX9_divide 66 = .ok (.aload_n 0, 1) := by decide +kernel
theorem dX9_divide_67 : decode cX9_divide 67 = .ok (.getfield 18, 3) := by decide +kernel
theorem dX9_divide_70 : decode cX9_divide 70 = .ok (.goto 5, 3) := by decide +kernel
theorem dX9_divide_73 : decode cX9_divide 73 = .ok (.aload 5, 2) := by decide +kernel
theorem dX9_divide_75 : decode cX9_divide 75 = .ok (.invokevirtual 144, 3) := by decide +kernel
theorem dX9_divide_78 : decode cX9_divide 78 = .ok (.ireturn, 1) := by decide +kernel
theorem dX9_gcd_0 : decode cX9_gcd 0 = .ok (.iload_n 1, 1) := by decide +kernel
theorem dX9_gcd_1 : decode cX9_gcd 1 = .ok (.iload_n 2, 1) := by decide +kernel
theorem dX9_gcd_2 : decode cX9_gcd 2 = .ok (.iload_n 3, 1) := by decide +kernel
theorem dX9_gcd_3 : decode cX9_gcd 3 = .ok (.invokestatic 132, 3) := by decide +kernel
theorem dX9_gcd_6 : decode cX9_gcd 6 = .ok (.ifCond .ne 6, 3) := by decide +kernel
theorem dX9_gcd_9 : decode cX9_gcd 9 = .ok (.bipush (-2), 2) := by decide +kernel
theorem dX9_gcd_11 : decode cX9_gcd 11 = .ok (.ireturn, 1) := by decide +kernel
theorem dX9_gcd_12 : decode cX9_gcd 12 = .ok (.aload_n 0, 1) := by decide +kernel
theorem dX9_gcd_13 : decode cX9_gcd 13 = .ok (.iload_n 1, 1) := by decide +kernel
theorem dX9_gcd_14 : decode cX9_gcd 14 = .ok (.aload_n 0, 1) := by decide +kernel
theorem dX9_gcd_15 : decode cX9_gcd 15 = .ok (.getfield 63, 3) := by decide +kernel
theorem dX9_gcd_18 : decode cX9_gcd 18 = .ok (.aload_n 0, 1) := by decide +kernel
theorem dX9_gcd_19 : decode cX9_gcd 19 = .ok (.getfield 11, 3) := by decide +kernel
theorem dX9_gcd_22 : decode cX9_gcd 22 = .ok (.iload_n 2, 1) := by decide +kernel
theorem dX9_gcd_23 : decode cX9_gcd 23 = .ok (.aaload, 1) := by decide +kernel
theorem dX9_gcd_24 : decode cX9_gcd 24 = .ok (.aload_n 0, 1) := by decide +kernel
theorem dX9_gcd_25 : decode cX9_gcd 25 = .ok (.getfield 11, 3) := by decide +kernel
theorem dX9_gcd_28 : decode cX9_gcd 28 = .ok (.iload_n 3, 1) := by decide +kernel
theorem dX9_gcd_29 : decode cX9_gcd 29 = .ok (.aaload, 1) := by decide +kernel
theorem dX9_gcd_30 : decode cX9_gcd 30 = .ok (.invokevirtual 187, 3) := by decide +kernel
theorem dX9_gcd_33 : decode cX9_gcd 33 = .ok (.invokevirtual 144, 3) := by decide +kernel
theorem dX9_gcd_36 : decode cX9_gcd 36 = .ok (.ireturn, 1) := by decide +kernel
theorem dX9_cofactor_0 : decode cX9_cofactor 0 = .ok (.iload_n 1, 1) := by decide +kernel
theorem dX9_cofactor_1 : decode cX9_cofactor 1 = .ok (.iload_n 2, 1) := by decide +kernel
theorem dX9_cofactor_2 : decode cX9_cofactor 2 = .ok (.iload_n 3, 1) := by decide +kernel
theorem dX9_cofactor_3 : decode cX9_cofactor 3 = .ok (.invokestatic 132, 3) := by decide +kernel
theorem dX9_cofactor_6 : decode cX9_cofactor 6 = .ok (.ifCond .ne 6, 3) := by decide +kernel
theorem dX9_cofactor_9 : decode cX9_cofactor 9 = .ok (.bipush (-2), 2) := by decide +kernel
theorem dX9_cofactor_11 : decode cX9_cofactor 11 = .ok (.ireturn, 1) := by decide +kernel
theorem dX9_cofactor_12 : decode cX9_cofactor 12 = .ok (.aload_n 0, 1) := by decide +kernel
theorem dX9_cofactor_13 : decode cX9_cofactor 13 = .ok (.iload_n 1, 1) := by decide +kernel
theorem dX9_cofactor_14 : decode cX9_cofactor 14 = .ok (.aload_n 0, 1) := by decide +kernel
theorem dX9_cofactor_15 : decode cX9_cofactor 15 = .ok (.getfield 63, 3) := by decide +kernel
theorem dX9_cofactor_18 : decode cX9_cofactor 18 = .ok (.aload_n 0, 1) := by decide +kernel
theorem dX9_cofactor_19 : decode cX9_cofactor 19 = .ok (.getfield 11, 3) := by decide +kernel
theorem dX9_cofactor_22 : decode cX9_cofactor 22 = .ok (.iload_n 2, 1) := by decide +kernel
theorem dX9_cofactor_23 : decode cX9_cofactor 23 = .ok (.aaload, 1) := by decide +kernel
theorem dX9_cofactor_24 : decode cX9_cofactor 24 = .ok (.aload_n 0, 1) := by decide +kernel
theorem dX9_cofactor_25 : decode cX9_cofactor 25 = .ok (.getfield 11, 3) := by decide +kernel
theorem dX9_cofactor_28 : decode cX9_cofactor 28 = .ok (.iload_n 3, 1) := by decide +kernel
theorem dX9_cofactor_29 : decode cX9_cofactor 29 = .ok (.aaload, 1) := by decide +kernel
theorem dX9_cofactor_30 : decode cX9_cofactor 30 = .ok (.invokevirtual 190, 3) := by decide +kernel
theorem dX9_cofactor_33 : decode cX9_cofactor 33 = .ok (.invokevirtual 144, 3) := by decide +kernel
theorem dX9_cofactor_36 : decode cX9_cofactor 36 = .ok (.ireturn, 1) := by decide +kernel
theorem dX9_compose_0 : decode cX9_compose 0 = .ok (.iload_n 1, 1) := by decide +kernel
theorem dX9_compose_1 : decode cX9_compose 1 = .ok (.iload_n 2, 1) := by decide +kernel
theorem dX9_compose_2 : decode cX9_compose 2 = .ok (.iload_n 3, 1) := by decide +kernel
theorem dX9_compose_3 : decode cX9_compose 3 = .ok (.invokestatic 132, 3) := by decide +kernel
theorem dX9_compose_6 : decode cX9_compose 6 = .ok (.ifCond .ne 6, 3) := by decide +kernel
theorem dX9_compose_9 : decode cX9_compose 9 = .ok (.bipush (-2), 2) := by decide +kernel
theorem dX9_compose_11 : decode cX9_compose 11 = .ok (.ireturn, 1) := by decide +kernel
theorem dX9_compose_12 : decode cX9_compose 12 = .ok (.aload_n 0, 1) := by decide +kernel
theorem dX9_compose_13 : decode cX9_compose 13 = .ok (.getfield 11, 3) := by decide +kernel
theorem dX9_compose_16 : decode cX9_compose 16 = .ok (.iload_n 2, 1) := by decide +kernel
theorem dX9_compose_17 : decode cX9_compose 17 = .ok (.aaload, 1) := by decide +kernel
theorem dX9_compose_18 : decode cX9_compose 18 = .ok (.invokevirtual 127, 3) := by decide +kernel
theorem dX9_compose_21 : decode cX9_compose 21 = .ok (.istore 4, 2) := by decide +kernel
theorem dX9_compose_23 : decode cX9_compose 23 = .ok (.aload_n 0, 1) := by decide +kernel
theorem dX9_compose_24 : decode cX9_compose 24 = .ok (.getfield 11, 3) := by decide +kernel
theorem dX9_compose_27 : decode cX9_compose 27 = .ok (.iload_n 3, 1) := by decide +kernel
theorem dX9_compose_28 : decode cX9_compose 28 = .ok (.aaload, 1) := by decide +kernel
theorem dX9_compose_29 : decode cX9_compose 29 = .ok (.invokevirtual 127, 3) := by decide +kernel
theorem dX9_compose_32 : decode cX9_compose 32 = .ok (.istore 5, 2) := by decide +kernel
theorem dX9_compose_34 : decode cX9_compose 34 = .ok (.iload 4, 2) := by decide +kernel
theorem dX9_compose_36 : decode cX9_compose 36 = .ok (.iconst 1, 1) := by decide +kernel
theorem dX9_compose_37 : decode cX9_compose 37 = .ok (.if_icmp .le 28, 3) := by decide +kernel
theorem dX9_compose_40 : decode cX9_compose 40 = .ok (.iload 5, 2) := by decide +kernel
theorem dX9_compose_42 : decode cX9_compose 42 = .ok (.iconst 1, 1) := by decide +kernel
theorem dX9_compose_43 : decode cX9_compose 43 = .ok (.if_icmp .le 22, 3) := by decide +kernel
theorem dX9_compose_46 : decode cX9_compose 46 = .ok (.iload 4, 2) := by decide +kernel
theorem dX9_compose_48 : decode cX9_compose 48 = .ok (.iconst 1, 1) := by decide +kernel
theorem dX9_compose_49 : decode cX9_compose 49 = .ok (.isub, 1) := by decide +kernel
theorem dX9_compose_50 : decode cX9_compose 50 = .ok (.iload 5, 2) := by decide +kernel
theorem dX9_compose_52 : decode cX9_compose 52 = .ok (.iconst 1, 1) := by decide +kernel
theorem dX9_compose_53 : decode cX9_compose 53 = .ok (.isub, 1) := by decide +kernel
theorem dX9_compose_54 : decode cX9_compose 54 = .ok (.imul, 1) := by decide +kernel
theorem dX9_compose_55 : decode cX9_compose 55 = .ok (.iconst 1, 1) := by decide +kernel
theorem dX9_compose_56 : decode cX9_compose 56 = .ok (.iadd, 1) := by decide +kernel
theorem dX9_compose_57 : decode cX9_compose 57 = .ok (.bipush 32, 2) := by decide +kernel
theorem dX9_compose_59 : decode cX9_compose 59 = .ok (.if_icmp .le 6, 3) := by decide +kernel
theorem dX9_compose_62 : decode cX9_compose 62 = .ok (.bipush (-4), 2) := by decide +kernel
theorem dX9_compose_64 : decode cX9_compose 64 = .ok (.ireturn, 1) := by decide +kernel
theorem dX9_compose_65 : decode cX9_compose 65 = .ok (.aload_n 0, 1) := by decide +kernel
theorem dX9_compose_66 : decode cX9_compose 66 = .ok (.iload_n 1, 1) := by decide +kernel
theorem dX9_compose_67 : decode cX9_compose 67 = .ok (.aload_n 0, 1) := by decide +kernel
theorem dX9_compose_68 : decode cX9_compose 68 = .ok (.getfield 63, 3) := by decide +kernel
theorem dX9_compose_71 : decode cX9_compose 71 = .ok (.aload_n 0, 1) := by decide +kernel
theorem dX9_compose_72 : decode cX9_compose 72 = .ok (.getfield 11, 3) := by decide +kernel
theorem dX9_compose_75 : decode cX9_compose 75 = .ok (.iload_n 2, 1) := by decide +kernel
theorem dX9_compose_76 : decode cX9_compose 76 = .ok (.aaload, 1) := by decide +kernel
theorem dX9_compose_77 : decode cX9_compose 77 = .ok (.aload_n 0, 1) := by decide +kernel
theorem dX9_compose_78 : decode cX9_compose 78 = .ok (.getfield 11, 3) := by decide +kernel
theorem dX9_compose_81 : decode cX9_compose 81 = .ok (.iload_n 3, 1) := by decide +kernel
theorem dX9_compose_82 : decode cX9_compose 82 = .ok (.aaload, 1) := by decide +kernel
theorem dX9_compose_83 : decode cX9_compose 83 = .ok (.invokevirtual 193, 3) := by decide +kernel
theorem dX9_compose_86 : decode cX9_compose 86 = .ok (.invokevirtual 144, 3) := by decide +kernel
theorem dX9_compose_89 : decode cX9_compose 89 = .ok (.ireturn, 1) := by decide +kernel
theorem dX9_move_0 : decode cX9_move 0 = .ok (.iload_n 1, 1) := by decide +kernel
theorem dX9_move_1 : decode cX9_move 1 = .ok (.invokestatic 107, 3) := by decide +kernel
theorem dX9_move_4 : decode cX9_move 4 = .ok (.ifCond .eq 10, 3) := by decide +kernel
theorem dX9_move_7 : decode cX9_move 7 = .ok (.iload_n 2, 1) := by decide +kernel
theorem dX9_move_8 : decode cX9_move 8 = .ok (.invokestatic 107, 3) := by decide +kernel
theorem dX9_move_11 : decode cX9_move 11 = .ok (.ifCond .ne 6, 3) := by decide +kernel
theorem dX9_move_14 : decode cX9_move 14 = .ok (.bipush (-2), 2) := by decide +kernel
theorem dX9_move_16 : decode cX9_move 16 = .ok (.ireturn, 1) := by decide +kernel
theorem dX9_move_17 : decode cX9_move 17 = .ok (.aload_n 0, 1) := by decide +kernel
theorem dX9_move_18 : decode cX9_move 18 = .ok (.iload_n 1, 1) := by decide +kernel
theorem dX9_move_19 : decode cX9_move 19 = .ok (.aload_n 0, 1) := by decide +kernel
theorem dX9_move_20 : decode cX9_move 20 = .ok (.getfield 63, 3) := by decide +kernel
theorem dX9_move_23 : decode cX9_move 23 = .ok (.aload_n 0, 1) := by decide +kernel
theorem dX9_move_24 : decode cX9_move 24 = .ok (.getfield 11, 3) := by decide +kernel
theorem dX9_move_27 : decode cX9_move 27 = .ok (.iload_n 2, 1) := by decide +kernel
theorem dX9_move_28 : decode cX9_move 28 = .ok (.aaload, 1) := by decide +kernel
theorem dX9_move_29 : decode cX9_move 29 = .ok (.aload_n 0, 1) := by decide +kernel
theorem dX9_move_30 : decode cX9_move 30 = .ok (.getfield 54, 3) := by decide +kernel
theorem dX9_move_33 : decode cX9_move 33 = .ok (.iload_n 3, 1) := by decide +kernel
theorem dX9_move_34 : decode cX9_move 34 = .ok (.i2l, 1) := by decide +kernel
theorem dX9_move_35 : decode cX9_move 35 = .ok (.invokevirtual 119, 3) := by decide +kernel
theorem dX9_move_38 : decode cX9_move 38 = .ok (.invokevirtual 196, 3) := by decide +kernel
theorem dX9_move_41 : decode cX9_move 41 = .ok (.invokevirtual 144, 3) := by decide +kernel
theorem dX9_move_44 : decode cX9_move 44 = .ok (.ireturn, 1) := by decide +kernel
theorem dX9_root_0 : decode cX9_root 0 = .ok (.iload_n 1, 1) := by decide +kernel
theorem dX9_root_1 : decode cX9_root 1 = .ok (.invokestatic 107, 3) := by decide +kernel
theorem dX9_root_4 : decode cX9_root 4 = .ok (.ifCond .ne 6, 3) := by decide +kernel
theorem dX9_root_7 : decode cX9_root 7 = .ok (.bipush (-2), 2) := by decide +kernel
theorem dX9_root_9 : decode cX9_root 9 = .ok (.ireturn, 1) := by decide +kernel
theorem dX9_root_10 : decode cX9_root 10 = .ok (.aload_n 0, 1) := by decide +kernel
theorem dX9_root_11 : decode cX9_root 11 = .ok (.getfield 11, 3) := by decide +kernel
theorem dX9_root_14 : decode cX9_root 14 = .ok (.iload_n 1, 1) := by decide +kernel
theorem dX9_root_15 : decode cX9_root 15 = .ok (.aaload, 1) := by decide +kernel
theorem dX9_root_16 : decode cX9_root 16 = .ok (.invokevirtual 127, 3) := by decide +kernel
theorem dX9_root_19 : decode cX9_root 19 = .ok (.ifCond .ne 6, 3) := by decide +kernel
theorem dX9_root_22 : decode cX9_root 22 = .ok (.bipush (-3), 2) := by decide +kernel
theorem dX9_root_24 : decode cX9_root 24 = .ok (.ireturn, 1) := by decide +kernel
theorem dX9_root_25 : decode cX9_root 25 = .ok (.aload_n 0, 1) := by decide +kernel
theorem dX9_root_26 : decode cX9_root 26 = .ok (.getfield 63, 3) := by decide +kernel
theorem dX9_root_29 : decode cX9_root 29 = .ok (.aload_n 0, 1) := by decide +kernel
theorem dX9_root_30 : decode cX9_root 30 = .ok (.getfield 11, 3) := by decide +kernel
theorem dX9_root_33 : decode cX9_root 33 = .ok (.iload_n 1, 1) := by decide +kernel
theorem dX9_root_34 : decode cX9_root 34 = .ok (.aaload, 1) := by decide +kernel
theorem dX9_root_35 : decode cX9_root 35 = .ok (.invokevirtual 200, 3) := by decide +kernel
theorem dX9_root_38 : decode cX9_root 38 = .ok (.istore_n 3, 1) := by decide +kernel
theorem dX9_root_39 : decode cX9_root 39 = .ok (.iload_n 2, 1) := by decide +kernel
theorem dX9_root_40 : decode cX9_root 40 = .ok (.iconst (-1), 1) := by decide +kernel
theorem dX9_root_41 : decode cX9_root 41 = .ok (.if_icmp .ne 5, 3) := by decide +kernel
theorem dX9_root_44 : decode cX9_root 44 = .ok (.iload_n 3, 1) := by decide +kernel
theorem dX9_root_45 : decode cX9_root 45 = .ok (.ireturn, 1) := by decide +kernel
theorem dX9_root_46 : decode cX9_root 46 = .ok (.iload_n 2, 1) := by decide +kernel
theorem dX9_root_47 : decode cX9_root 47 = .ok (.iload_n 3, 1) := by decide +kernel
theorem dX9_root_48 : decode cX9_root 48 = .ok (.invokestatic 111, 3) := by decide +kernel
theorem dX9_root_51 : decode cX9_root 51 = .ok (.ifCond .eq 14, 3) := by decide +kernel
theorem dX9_root_54 : decode cX9_root 54 = .ok (.aload_n 0, 1) := by decide +kernel
theorem dX9_root_55 : decode cX9_root 55 = .ok (.getfield 63, 3) := by decide +kernel
theorem dX9_root_58 : decode cX9_root 58 = .ok (.iload_n 2, 1) := by decide +kernel
theorem dX9_root_59 : decode cX9_root 59 = .ok (.invokevirtual 204, 3) := by decide +kernel
theorem dX9_root_62 : decode cX9_root 62 = .ok (.goto 4, 3) := by decide +kernel
theorem dX9_root_65 : decode cX9_root 65 = .ok (.iconst (-1), 1) := by decide +kernel
theorem dX9_root_66 : decode cX9_root 66 = .ok (.ireturn, 1) := by decide +kernel
theorem dX9_order_0 : decode cX9_order 0 = .ok (.iload_n 1, 1) := by decide +kernel
theorem dX9_order_1 : decode cX9_order 1 = .ok (.invokestatic 107, 3) := by decide +kernel
theorem dX9_order_4 : decode cX9_order 4 = .ok (.ifCond .ne 6, 3) := by decide +kernel
theorem dX9_order_7 : decode cX9_order 7 = .ok (.bipush (-2), 2) := by decide +kernel
theorem dX9_order_9 : decode cX9_order 9 = .ok (.ireturn, 1) := by decide +kernel
theorem dX9_order_10 : decode cX9_order 10 = .ok (.aload_n 0, 1) := by decide +kernel
theorem dX9_order_11 : decode cX9_order 11 = .ok (.getfield 11, 3) := by decide +kernel
theorem dX9_order_14 : decode cX9_order 14 = .ok (.iload_n 1, 1) := by decide +kernel
theorem dX9_order_15 : decode cX9_order 15 = .ok (.aaload, 1) := by decide +kernel
theorem dX9_order_16 : decode cX9_order 16 = .ok (.invokevirtual 127, 3) := by decide +kernel
theorem dX9_order_19 : decode cX9_order 19 = .ok (.ifCond .ne 6, 3) := by decide +kernel
theorem dX9_order_22 : decode cX9_order 22 = .ok (.bipush (-3), 2) := by decide +kernel
theorem dX9_order_24 : decode cX9_order 24 = .ok (.ireturn, 1) := by decide +kernel
theorem dX9_order_25 : decode cX9_order 25 = .ok (.aload_n 0, 1) := by decide +kernel
theorem dX9_order_26 : decode cX9_order 26 = .ok (.getfield 63, 3) := by decide +kernel
theorem dX9_order_29 : decode cX9_order 29 = .ok (.aload_n 0, 1) := by decide +kernel
theorem dX9_order_30 : decode cX9_order 30 = .ok (.getfield 11, 3) := by decide +kernel
theorem dX9_order_33 : decode cX9_order 33 = .ok (.iload_n 1, 1) := by decide +kernel
theorem dX9_order_34 : decode cX9_order 34 = .ok (.aaload, 1) := by decide +kernel
theorem dX9_order_35 : decode cX9_order 35 = .ok (.aload_n 0, 1) := by decide +kernel
theorem dX9_order_36 : decode cX9_order 36 = .ok (.getfield 54, 3) := by decide +kernel
theorem dX9_order_39 : decode cX9_order 39 = .ok (.iload_n 2, 1) := by decide +kernel
theorem dX9_order_40 : decode cX9_order 40 = .ok (.i2l, 1) := by decide +kernel
theorem dX9_order_41 : decode cX9_order 41 = .ok (.invokevirtual 119, 3) := by decide +kernel
theorem dX9_order_44 : decode cX9_order 44 = .ok (.invokevirtual 196, 3) := by decide +kernel
theorem dX9_order_47 : decode cX9_order 47 = .ok (.astore_n 3, 1) := by decide +kernel
theorem dX9_order_48 : decode cX9_order 48 = .ok (.iconst 0, 1) := by decide +kernel
theorem dX9_order_49 : decode cX9_order 49 = .ok (.istore 4, 2) := by decide +kernel
theorem dX9_order_51 : decode cX9_order 51 = .ok (.iload 4, 2) := by decide +kernel
theorem dX9_order_53 : decode cX9_order 53 = .ok (.aload_n 3, 1) := by decide +kernel
theorem dX9_order_54 : decode cX9_order 54 = .ok (.invokevirtual 127, 3) := by decide +kernel
theorem dX9_order_57 : decode cX9_order 57 = .ok (.if_icmp .ge 18, 3) := by decide +kernel
theorem dX9_order_60 : decode cX9_order 60 = .ok (.aload_n 3, 1) := by decide +kernel
theorem dX9_order_61 : decode cX9_order 61 = .ok (.iload 4, 2) := by decide +kernel
theorem dX9_order_63 : decode cX9_order 63 = .ok (.invokevirtual 115, 3) := by decide +kernel
theorem dX9_order_66 : decode cX9_order 66 = .ok (.ifCond .ne 9, 3) := by decide +kernel
theorem dX9_order_69 : decode cX9_order 69 = .ok (.iinc 4 1, 3) := by decide +kernel
theorem dX9_order_72 : decode cX9_order 72 = .ok (.goto (-21), 3) := by decide +kernel
theorem dX9_order_75 : decode cX9_order 75 = .ok (.iload 4, 2) := by decide +kernel
theorem dX9_order_77 : decode cX9_order 77 = .ok (.ireturn, 1) := by decide +kernel
theorem dX9_place_0 : decode cX9_place 0 = .ok (.aload_n 0, 1) := by decide +kernel
theorem dX9_place_1 : decode cX9_place 1 = .ok (.getfield 72, 3) := by decide +kernel
theorem dX9_place_4 : decode cX9_place 4 = .ok (.invokevirtual 207, 3) := by decide +kernel
theorem dX9_place_7 : decode cX9_place 7 = .ok (.bipush 16, 2) := by decide +kernel
theorem dX9_place_9 : decode cX9_place 9 = .ok (.if_icmp .lt 6, 3) := by decide +kernel
theorem dX9_place_12 : decode cX9_place 12 = .ok (.bipush (-4), 2) := by decide +kernel
theorem dX9_place_14 : decode cX9_place 14 = .ok (.ireturn, 1) := by decide +kernel
theorem dX9_place_15 : decode cX9_place 15 = .ok (.aload_n 0, 1) := by decide +kernel
theorem dX9_place_16 : decode cX9_place 16 = .ok (.getfield 72, 3) := by decide +kernel
theorem dX9_place_19 : decode cX9_place 19 = .ok (.aload_n 0, 1) := by decide +kernel
theorem dX9_place_20 : decode cX9_place 20 = .ok (.getfield 54, 3) := by decide +kernel
theorem dX9_place_23 : decode cX9_place 23 = .ok (.iload_n 1, 1) := by decide +kernel
theorem dX9_place_24 : decode cX9_place 24 = .ok (.i2l, 1) := by decide +kernel
theorem dX9_place_25 : decode cX9_place 25 = .ok (.invokevirtual 119, 3) := by decide +kernel
theorem dX9_place_28 : decode cX9_place 28 = .ok (.invokevirtual 208, 3) := by decide +kernel
theorem dX9_place_31 : decode cX9_place 31 = .ok (.aload_n 0, 1) := by decide +kernel
theorem dX9_place_32 : decode cX9_place 32 = .ok (.getfield 72, 3) := by decide +kernel
theorem dX9_place_35 : decode cX9_place 35 = .ok (.invokevirtual 207, 3) := by decide +kernel
theorem dX9_place_38 : decode cX9_place 38 = .ok (.iconst 1, 1) := by decide +kernel
theorem dX9_place_39 : decode cX9_place 39 = .ok (.isub, 1) := by decide +kernel
theorem dX9_place_40 : decode cX9_place 40 = .ok (.ireturn, 1) := by decide +kernel
theorem dX9_leave_0 : decode cX9_leave 0 = .ok (.aload_n 0, 1) := by decide +kernel
theorem dX9_leave_1 : decode cX9_leave 1 = .ok (.getfield 72, 3) := by decide +kernel
theorem dX9_leave_4 : decode cX9_leave 4 = .ok (.invokevirtual 207, 3) := by decide +kernel
theorem dX9_leave_7 : decode cX9_leave 7 = .ok (.istore_n 1, 1) := by decide +kernel
theorem dX9_leave_8 : decode cX9_leave 8 = .ok (.aload_n 0, 1) := by decide +kernel
theorem dX9_leave_9 : decode cX9_leave 9 = .ok (.getfield 72, 3) := by decide +kernel
theorem dX9_leave_12 : decode cX9_leave 12 = .ok (.invokevirtual 210, 3) := by decide +kernel
theorem dX9_leave_15 : decode cX9_leave 15 = .ok (.iload_n 1, 1) := by decide +kernel
theorem dX9_leave_16 : decode cX9_leave 16 = .ok (.ireturn, 1) := by decide +kernel
theorem dX9_see_0 : decode cX9_see 0 = .ok (.aload_n 0, 1) := by decide +kernel
theorem dX9_see_1 : decode cX9_see 1 = .ok (.iload_n 1, 1) := by decide +kernel
theorem dX9_see_2 : decode cX9_see 2 = .ok (.invokevirtual 211, 3) := by decide +kernel
theorem dX9_see_5 : decode cX9_see 5 = .ok (.ifCond .ne 6, 3) := by decide +kernel
theorem dX9_see_8 : decode cX9_see 8 = .ok (.bipush (-2), 2) := by decide +kernel
theorem dX9_see_10 : decode cX9_see 10 = .ok (.ireturn, 1) := by decide +kernel
theorem dX9_see_11 : decode cX9_see 11 = .ok (.aload_n 0, 1) := by decide +kernel
theorem dX9_see_12 : decode cX9_see 12 = .ok (.getfield 72, 3) := by decide +kernel
theorem dX9_see_15 : decode cX9_see 15 = .ok (.iload_n 1, 1) := by decide +kernel
theorem dX9_see_16 : decode cX9_see 16 = .ok (.invokevirtual 214, 3) := by decide +kernel
theorem dX9_see_19 : decode cX9_see 19 = .ok (.istore_n 3, 1) := by decide +kernel
theorem dX9_see_20 : decode cX9_see 20 = .ok (.aload_n 0, 1) := by decide +kernel
theorem dX9_see_21 : decode cX9_see 21 = .ok (.getfield 72, 3) := by decide +kernel
theorem dX9_see_24 : decode cX9_see 24 = .ok (.iload_n 1, 1) := by decide +kernel
theorem dX9_see_25 : decode cX9_see 25 = .ok (.aload_n 0, 1) := by decide +kernel
theorem dX9_see_26 : decode cX9_see 26 = .ok (.getfield 54, 3) := by decide +kernel
theorem dX9_see_29 : decode cX9_see 29 = .ok (.iload_n 2, 1) := by decide +kernel
theorem dX9_see_30 : decode cX9_see 30 = .ok (.i2l, 1) := by decide +kernel
theorem dX9_see_31 : decode cX9_see 31 = .ok (.invokevirtual 119, 3) := by decide +kernel
theorem dX9_see_34 : decode cX9_see 34 = .ok (.invokevirtual 217, 3) := by decide +kernel
theorem dX9_see_37 : decode cX9_see 37 = .ok (.iload_n 3, 1) := by decide +kernel
theorem dX9_see_38 : decode cX9_see 38 = .ok (.ireturn, 1) := by decide +kernel
theorem dX9_told_0 : decode cX9_told 0 = .ok (.aload_n 0, 1) := by decide +kernel
theorem dX9_told_1 : decode cX9_told 1 = .ok (.iload_n 1, 1) := by decide +kernel
theorem dX9_told_2 : decode cX9_told 2 = .ok (.invokevirtual 211, 3) := by decide +kernel
theorem dX9_told_5 : decode cX9_told 5 = .ok (.ifCond .eq 11, 3) := by decide +kernel
theorem dX9_told_8 : decode cX9_told 8 = .ok (.iload_n 2, 1) := by decide +kernel
theorem dX9_told_9 : decode cX9_told 9 = .ok (.iconst 2, 1) := by decide +kernel
theorem dX9_told_10 : decode cX9_told 10 = .ok (.invokestatic 111, 3) := by decide +kernel
theorem dX9_told_13 : decode cX9_told 13 = .ok (.ifCond .ne 6, 3) := by decide +kernel
theorem dX9_told_16 : decode cX9_told 16 = .ok (.bipush (-2), 2) := by decide +kernel
theorem dX9_told_18 : decode cX9_told 18 = .ok (.ireturn, 1) := by decide +kernel
theorem dX9_told_19 : decode cX9_told 19 = .ok (.iload_n 2, 1) := by decide +kernel
theorem dX9_told_20 : decode cX9_told 20 = .ok (.ifCond .ne 14, 3) := by decide +kernel
theorem dX9_told_23 : decode cX9_told 23 = .ok (.aload_n 0, 1) := by decide +kernel
theorem dX9_told_24 : decode cX9_told 24 = .ok (.getfield 72, 3) := by decide +kernel
theorem dX9_told_27 : decode cX9_told 27 = .ok (.iload_n 1, 1) := by decide +kernel
theorem dX9_told_28 : decode cX9_told 28 = .ok (.invokevirtual 220, 3) := by decide +kernel
theorem dX9_told_31 : decode cX9_told 31 = .ok (.goto 11, 3) := by decide +kernel
theorem dX9_told_34 : decode cX9_told 34 = .ok (.aload_n 0, 1) := by decide +kernel
theorem dX9_told_35 : decode cX9_told 35 = .ok (.getfield 72, 3) := by decide +kernel
theorem dX9_told_38 : decode cX9_told 38 = .ok (.iload_n 1, 1) := by decide +kernel
theorem dX9_told_39 : decode cX9_told 39 = .ok (.invokevirtual 214, 3) := by decide +kernel
theorem dX9_told_42 : decode cX9_told 42 = .ok (.ireturn, 1) := by decide +kernel
theorem dX9_value_0 : decode cX9_value 0 = .ok (.iload_n 1, 1) := by decide +kernel
theorem dX9_value_1 : decode cX9_value 1 = .ok (.invokestatic 107, 3) := by decide +kernel
theorem dX9_value_4 : decode cX9_value 4 = .ok (.ifCond .eq 11, 3) := by decide +kernel
theorem dX9_value_7 : decode cX9_value 7 = .ok (.aload_n 0, 1) := by decide +kernel
theorem dX9_value_8 : decode cX9_value 8 = .ok (.iload_n 2, 1) := by decide +kernel
theorem dX9_value_9 : decode cX9_value 9 = .ok (.invokevirtual 211, 3) := by decide +kernel
theorem dX9_value_12 : decode cX9_value 12 = .ok (.ifCond .ne 6, 3) := by decide +kernel
theorem dX9_value_15 : decode cX9_value 15 = .ok (.bipush (-2), 2) := by decide +kernel
theorem dX9_value_17 : decode cX9_value 17 = .ok (.ireturn, 1) := by decide +kernel
theorem dX9_value_18 : decode cX9_value 18 = .ok (.aload_n 0, 1) := by decide +kernel
theorem dX9_value_19 : decode cX9_value 19 = .ok (.getfield 63, 3) := by decide +kernel
theorem dX9_value_22 : decode cX9_value 22 = .ok (.aload_n 0, 1) := by decide +kernel
theorem dX9_value_23 : decode cX9_value 23 = .ok (.getfield 11, 3) := by decide +kernel
theorem dX9_value_26 : decode cX9_value 26 = .ok (.iload_n 1, 1) := by decide +kernel
theorem dX9_value_27 : decode cX9_value 27 = .ok (.aaload, 1) := by decide +kernel
theorem dX9_value_28 : decode cX9_value 28 = .ok (.aload_n 0, 1) := by decide +kernel
theorem dX9_value_29 : decode cX9_value 29 = .ok (.getfield 72, 3) := by decide +kernel
theorem dX9_value_32 : decode cX9_value 32 = .ok (.iload_n 2, 1) := by decide +kernel
theorem dX9_value_33 : decode cX9_value 33 = .ok (.invokevirtual 220, 3) := by decide +kernel
theorem dX9_value_36 : decode cX9_value 36 = .ok (.invokevirtual 223, 3) := by decide +kernel
theorem dX9_value_39 : decode cX9_value 39 = .ok (.ireturn, 1) := by decide +kernel
theorem dX9_look_0 : decode cX9_look 0 = .ok (.iload_n 1, 1) := by decide +kernel
theorem dX9_look_1 : decode cX9_look 1 = .ok (.invokestatic 107, 3) := by decide +kernel
theorem dX9_look_4 : decode cX9_look 4 = .ok (.ifCond .ne 6, 3) := by decide +kernel
theorem dX9_look_7 : decode cX9_look 7 = .ok (.bipush (-2), 2) := by decide +kernel
theorem dX9_look_9 : decode cX9_look 9 = .ok (.ireturn, 1) := by decide +kernel
theorem dX9_look_10 : decode cX9_look 10 = .ok (.iconst 0, 1) := by decide +kernel
theorem dX9_look_11 : decode cX9_look 11 = .ok (.istore_n 2, 1) := by decide +kernel
theorem dX9_look_12 : decode cX9_look 12 = .ok (.iload_n 2, 1) := by decide +kernel
theorem dX9_look_13 : decode cX9_look 13 = .ok (.aload_n 0, 1) := by decide +kernel
theorem dX9_look_14 : decode cX9_look 14 = .ok (.getfield 72, 3) := by decide +kernel
theorem dX9_look_17 : decode cX9_look 17 = .ok (.invokevirtual 207, 3) := by decide +kernel
theorem dX9_look_20 : decode cX9_look 20 = .ok (.if_icmp .ge 38, 3) := by decide +kernel
theorem dX9_look_23 : decode cX9_look 23 = .ok (.aload_n 0, 1) := by decide +kernel
theorem dX9_look_24 : decode cX9_look 24 = .ok (.getfield 72, 3) := by decide +kernel
theorem dX9_look_27 : decode cX9_look 27 = .ok (.iload_n 2, 1) := by decide +kernel
theorem dX9_look_28 : decode cX9_look 28 = .ok (.aload_n 0, 1) := by decide +kernel
theorem dX9_look_29 : decode cX9_look 29 = .ok (.getfield 63, 3) := by decide +kernel
theorem dX9_look_32 : decode cX9_look 32 = .ok (.aload_n 0, 1) := by decide +kernel
theorem dX9_look_33 : decode cX9_look 33 = .ok (.getfield 11, 3) := by decide +kernel
theorem dX9_look_36 : decode cX9_look 36 = .ok (.iload_n 1, 1) := by decide +kernel
theorem dX9_look_37 : decode cX9_look 37 = .ok (.aaload, 1) := by decide +kernel
theorem dX9_look_38 : decode cX9_look 38 = .ok (.aload_n 0, 1) := by decide +kernel
theorem dX9_look_39 : decode cX9_look 39 = .ok (.getfield 72, 3) := by decide +kernel
theorem dX9_look_42 : decode cX9_look 42 = .ok (.iload_n 2, 1) := by decide +kernel
theorem dX9_look_43 : decode cX9_look 43 = .ok (.invokevirtual 220, 3) := by decide +kernel
theorem dX9_look_46 : decode cX9_look 46 = .ok (.invokevirtual 223, 3) := by decide +kernel
theorem dX9_look_49 : decode cX9_look 49 = .ok (.invokevirtual 217, 3) := by decide +kernel
theorem dX9_look_52 : decode cX9_look 52 = .ok (.iinc 2 1, 3) := by decide +kernel
theorem dX9_look_55 : decode cX9_look 55 = .ok (.goto (-43), 3) := by decide +kernel
theorem dX9_look_58 : decode cX9_look 58 = .ok (.aload_n 0, 1) := by decide +kernel
theorem dX9_look_59 : decode cX9_look 59 = .ok (.getfield 72, 3) := by decide +kernel
theorem dX9_look_62 : decode cX9_look 62 = .ok (.invokevirtual 207, 3) := by decide +kernel
theorem dX9_look_65 : decode cX9_look 65 = .ok (.ireturn, 1) := by decide +kernel
theorem dX9_fill_0 : decode cX9_fill 0 = .ok (.iload_n 1, 1) := by decide +kernel
theorem dX9_fill_1 : decode cX9_fill 1 = .ok (.invokestatic 107, 3) := by decide +kernel
theorem dX9_fill_4 : decode cX9_fill 4 = .ok (.ifCond .ne 6, 3) := by decide +kernel
theorem dX9_fill_7 : decode cX9_fill 7 = .ok (.bipush (-2), 2) := by decide +kernel
theorem dX9_fill_9 : decode cX9_fill 9 = .ok (.ireturn, 1) := by decide +kernel
theorem dX9_fill_10 : decode cX9_fill 10 = .ok (.aload_n 0, 1) := by decide +kernel
theorem dX9_fill_11 : decode cX9_fill 11 = .ok (.iload_n 1, 1) := by decide +kernel
theorem dX9_fill_12 : decode cX9_fill 12 = .ok (.aload_n 0, 1) := by decide +kernel
theorem dX9_fill_13 : decode cX9_fill 13 = .ok (.getfield 72, 3) := by decide +kernel
theorem dX9_fill_16 : decode cX9_fill 16 = .ok (.invokevirtual 227, 3) := by decide +kernel
theorem dX9_fill_19 : decode cX9_fill 19 = .ok (.invokevirtual 144, 3) := by decide +kernel
theorem dX9_fill_22 : decode cX9_fill 22 = .ok (.ireturn, 1) := by decide +kernel
theorem dX9_right_0 : decode cX9_right 0 = .ok (.iload_n 1, 1) := by decide +kernel
theorem dX9_right_1 : decode cX9_right 1 = .ok (.invokestatic 107, 3) := by decide +kernel
theorem dX9_right_4 : decode cX9_right 4 = .ok (.ifCond .eq 19, 3) := by decide +kernel
theorem dX9_right_7 : decode cX9_right 7 = .ok (.iload_n 2, 1) := by decide +kernel
theorem dX9_right_8 : decode cX9_right 8 = .ok (.iconst 1, 1) := by decide +kernel
theorem dX9_right_9 : decode cX9_right 9 = .ok (.if_icmp .lt 14, 3) := by decide +kernel
theorem dX9_right_12 : decode cX9_right 12 = .ok (.iload_n 2, 1) := by decide +kernel
theorem dX9_right_13 : decode cX9_right 13 = .ok (.aload_n 0, 1) := by decide +kernel
theorem dX9_right_14 : decode cX9_right 14 = .ok (.getfield 72, 3) := by decide +kernel
theorem dX9_right_17 : decode cX9_right 17 = .ok (.invokevirtual 207, 3) := by decide +kernel
theorem dX9_right_20 : decode cX9_right 20 = .ok (.if_icmp .le 6, 3) := by decide +kernel
theorem dX9_right_23 : decode cX9_right 23 = .ok (.bipush (-2), 2) := by decide +kernel
theorem dX9_right_25 : decode cX9_right 25 = .ok (.ireturn, 1) := by decide +kernel
theorem dX9_right_26 : decode cX9_right 26 = .ok (.aload_n 0, 1) := by decide +kernel
theorem dX9_right_27 : decode cX9_right 27 = .ok (.getfield 72, 3) := by decide +kernel
theorem dX9_right_30 : decode cX9_right 30 = .ok (.invokevirtual 231, 3) := by decide +kernel
theorem dX9_right_33 : decode cX9_right 33 = .ok (.ifCond .eq 6, 3) := by decide +kernel
theorem dX9_right_36 : decode cX9_right 36 = .ok (.bipush (-3), 2) := by decide +kernel
theorem dX9_right_38 : decode cX9_right 38 = .ok (.ireturn, 1) := by decide +kernel
theorem dX9_right_39 : decode cX9_right 39 = .ok (.aload_n 0, 1) := by decide +kernel
theorem dX9_right_40 : decode cX9_right 40 = .ok (.getfield 72, 3) := by decide +kernel
theorem dX9_right_43 : decode cX9_right 43 = .ok (.iload_n 2, 1) := by decide +kernel
theorem dX9_right_44 : decode cX9_right 44 = .ok (.invokevirtual 235, 3) := by decide +kernel
theorem dX9_right_47 : decode cX9_right 47 = .ok (.astore_n 3, 1) := by decide +kernel
theorem dX9_right_48 : decode cX9_right 48 = .ok (.aload_n 0, 1) := by decide +kernel
theorem dX9_right_49 : decode cX9_right 49 = .ok (.getfield 72, 3) := by decide +kernel
theorem dX9_right_52 : decode cX9_right 52 = .ok (.aload_n 3, 1) := by decide +kernel
theorem dX9_right_53 : decode cX9_right 53 = .ok (.invokevirtual 239, 3) := by decide +kernel
theorem dX9_right_56 : decode cX9_right 56 = .ok (.istore 4, 2) := by decide +kernel
theorem dX9_right_58 : decode cX9_right 58 = .ok (.aload_n 3, 1) := by decide +kernel
theorem dX9_right_59 : decode cX9_right 59 = .ok (.invokevirtual 127, 3) := by decide +kernel
theorem dX9_right_62 : decode cX9_right 62 = .ok (.iload_n 2, 1) := by decide +kernel
theorem dX9_right_63 : decode cX9_right 63 = .ok (.if_icmp .gt 19, 3) := by decide +kernel
theorem dX9_right_66 : decode cX9_right 66 = .ok (.iload 4, 2) := by decide +kernel
theorem dX9_right_68 : decode cX9_right 68 = .ok (.aload_n 0, 1) := by decide +kernel
theorem dX9_right_69 : decode cX9_right 69 = .ok (.getfield 72, 3) := by decide +kernel
theorem dX9_right_72 : decode cX9_right 72 = .ok (.invokevirtual 207, 3) := by decide +kernel
theorem dX9_right_75 : decode cX9_right 75 = .ok (.iload_n 2, 1) := by decide +kernel
theorem dX9_right_76 : decode cX9_right 76 = .ok (.isub, 1) := by decide +kernel
theorem dX9_right_77 : decode cX9_right 77 = .ok (.iconst 2, 1) := by decide +kernel
theorem dX9_right_78 : decode cX9_right 78 = .ok (.idiv, 1) := by decide +kernel
theorem dX9_right_79 : decode cX9_right 79 = .ok (.if_icmp .le 5, 3) := by decide +kernel
theorem dX9_right_82 : decode cX9_right 82 = .ok (.iconst (-1), 1) := by decide +kernel
theorem dX9_right_83 : decode cX9_right 83 = .ok (.ireturn, 1) := by decide +kernel
theorem dX9_right_84 : decode cX9_right 84 = .ok (.aload_n 0, 1) := by decide +kernel
theorem dX9_right_85 : decode cX9_right 85 = .ok (.iload_n 1, 1) := by decide +kernel
theorem dX9_right_86 : decode cX9_right 86 = .ok (.aload_n 3, 1) := by decide +kernel
theorem dX9_right_87 : decode cX9_right 87 = .ok (.invokevirtual 144, 3) := by decide +kernel
theorem dX9_right_90 : decode cX9_right 90 = .ok (.pop, 1) := by decide +kernel
theorem dX9_right_91 : decode cX9_right 91 = .ok (.iload 4, 2) := by decide +kernel
theorem dX9_right_93 : decode cX9_right 93 = .ok (.ireturn, 1) := by decide +kernel
theorem dX9_relation_0 : decode cX9_relation 0 = .ok (.aload_n 0, 1) := by decide +kernel
theorem dX9_relation_1 : decode cX9_relation 1 = .ok (.getfield 72, 3) := by decide +kernel
theorem dX9_relation_4 : decode cX9_relation 4 = .ok (.invokevirtual 242, 3) := by decide +kernel
theorem dX9_relation_7 : decode cX9_relation 7 = .ok (.istore_n 2, 1) := by decide +kernel
theorem dX9_relation_8 : decode cX9_relation 8 = .ok (.iload_n 1, 1) := by decide +kernel
theorem dX9_relation_9 : decode cX9_relation 9 = .ok (.ifCond .lt 8, 3) := by decide +kernel
theorem dX9_relation_12 : decode cX9_relation 12 = .ok (.iload_n 1, 1) := by decide +kernel
theorem dX9_relation_13 : decode cX9_relation 13 = .ok (.iload_n 2, 1) := by decide +kernel
theorem dX9_relation_14 : decode cX9_relation 14 = .ok (.if_icmp .le 6, 3) := by decide +kernel
theorem dX9_relation_17 : decode cX9_relation 17 = .ok (.bipush (-2), 2) := by decide +kernel
theorem dX9_relation_19 : decode cX9_relation 19 = .ok (.ireturn, 1) := by decide +kernel
theorem dX9_relation_20 : decode cX9_relation 20 = .ok (.iload_n 1, 1) := by decide +kernel
theorem dX9_relation_21 : decode cX9_relation 21 = .ok (.ifCond .ne 5, 3) := by decide +kernel
theorem dX9_relation_24 : decode cX9_relation 24 = .ok (.iload_n 2, 1) := by decide +kernel
theorem dX9_relation_25 : decode cX9_relation 25 = .ok (.ireturn, 1) := by decide +kernel
theorem dX9_relation_26 : decode cX9_relation 26 = .ok (.iconst 2, 1) := by decide +kernel
theorem dX9_relation_27 : decode cX9_relation 27 = .ok (.iload_n 2, 1) := by decide +kernel
theorem dX9_relation_28 : decode cX9_relation 28 = .ok (.imul, 1) := by decide +kernel
theorem dX9_relation_29 : decode cX9_relation 29 = .ok (.aload_n 0, 1) := by decide +kernel
theorem dX9_relation_30 : decode cX9_relation 30 = .ok (.getfield 72, 3) := by decide +kernel
theorem dX9_relation_33 : decode cX9_relation 33 = .ok (.invokevirtual 207, 3) := by decide +kernel
theorem dX9_relation_36 : decode cX9_relation 36 = .ok (.if_icmp .le 8, 3) := by decide +kernel
theorem dX9_relation_39 : decode cX9_relation 39 = .ok (.bipush (-3), 2) := by decide +kernel
theorem dX9_relation_41 : decode cX9_relation 41 = .ok (.goto 11, 3) := by decide +kernel
theorem dX9_relation_44 : decode cX9_relation 44 = .ok (.aload_n 0, 1) := by decide +kernel
theorem dX9_relation_45 : decode cX9_relation 45 = .ok (.getfield 72, 3) := by decide +kernel
theorem dX9_relation_48 : decode cX9_relation 48 = .ok (.iload_n 1, 1) := by decide +kernel
theorem dX9_relation_49 : decode cX9_relation 49 = .ok (.invokevirtual 245, 3) := by decide +kernel
theorem dX9_relation_52 : decode cX9_relation 52 = .ok (.ireturn, 1) := by decide +kernel
theorem dX9_power_0 : decode cX9_power 0 = .ok (.iload_n 1, 1) := by decide +kernel
theorem dX9_power_1 : decode cX9_power 1 = .ok (.ifCond .lt 10, 3) := by decide +kernel
theorem dX9_power_4 : decode cX9_power 4 = .ok (.iload_n 1, 1) := by decide +kernel
theorem dX9_power_5 : decode cX9_power 5 = .ok (.sipush 999, 3) := by decide +kernel
theorem dX9_power_8 : decode cX9_power 8 = .ok (.if_icmp .le 6, 3) := by decide +kernel
theorem dX9_power_11 : decode cX9_power 11 = .ok (.bipush (-2), 2) := by decide +kernel
theorem dX9_power_13 : decode cX9_power 13 = .ok (.ireturn, 1) := by decide +kernel
theorem dX9_power_14 : decode cX9_power 14 = .ok (.aload_n 0, 1) := by decide +kernel
theorem dX9_power_15 : decode cX9_power 15 = .ok (.getfield 72, 3) := by decide +kernel
theorem dX9_power_18 : decode cX9_power 18 = .ok (.iload_n 1, 1) := by decide +kernel
theorem dX9_power_19 : decode cX9_power 19 = .ok (.invokevirtual 248, 3) := by decide +kernel
theorem dX9_power_22 : decode cX9_power 22 = .ok (.ireturn, 1) := by decide +kernel
theorem dX9_count_0 : decode cX9_count 0 = .ok (.iload_n 1, 1) := by decide +kernel
theorem dX9_count_1 : decode cX9_count 1 = .ok (.tableswitch 78 0 5 #[39, 47, 52, 60, 65, 73], 39) := by decide +kernel
theorem dX9_count_40 : decode cX9_count 40 = .ok (.aload_n 0, 1) := by decide +kernel
theorem dX9_count_41 : decode cX9_count 41 = .ok (.getfield 54, 3) := by decide +kernel
theorem dX9_count_44 : decode cX9_count 44 = .ok (.invokevirtual 251, 3) := by decide +kernel
theorem dX9_count_47 : decode cX9_count 47 = .ok (.ireturn, 1) := by decide +kernel
theorem dX9_count_48 : decode cX9_count 48 = .ok (.aload_n 0, 1) := by decide +kernel
theorem dX9_count_49 : decode cX9_count 49 = .ok (.getfield 148, 3) := by decide +kernel
theorem dX9_count_52 : decode cX9_count 52 = .ok (.ireturn, 1) := by decide +kernel
theorem dX9_count_53 : decode cX9_count 53 = .ok (.aload_n 0, 1) := by decide +kernel
theorem dX9_count_54 : decode cX9_count 54 = .ok (.getfield 72, 3) := by decide +kernel
theorem dX9_count_57 : decode cX9_count 57 = .ok (.invokevirtual 207, 3) := by decide +kernel
theorem dX9_count_60 : decode cX9_count 60 = .ok (.ireturn, 1) := by decide +kernel
theorem dX9_count_61 : decode cX9_count 61 = .ok (.aload_n 0, 1) := by decide +kernel
theorem dX9_count_62 : decode cX9_count 62 = .ok (.getfield 103, 3) := by decide +kernel
theorem dX9_count_65 : decode cX9_count 65 = .ok (.ireturn, 1) := by decide +kernel
theorem dX9_count_66 : decode cX9_count 66 = .ok (.aload_n 0, 1) := by decide +kernel
theorem dX9_count_67 : decode cX9_count 67 = .ok (.getfield 31, 3) := by decide +kernel
theorem dX9_count_70 : decode cX9_count 70 = .ok (.invokevirtual 168, 3) := by decide +kernel
theorem dX9_count_73 : decode cX9_count 73 = .ok (.ireturn, 1) := by decide +kernel
theorem dX9_count_74 : decode cX9_count 74 = .ok (.aload_n 0, 1) := by decide +kernel
theorem dX9_count_75 : decode cX9_count 75 = .ok (.getfield 175, 3) := by decide +kernel
theorem dX9_count_78 : decode cX9_count 78 = .ok (.ireturn, 1) := by decide +kernel
theorem dX9_count_79 : decode cX9_count 79 = .ok (.bipush (-2), 2) := by decide +kernel
theorem dX9_count_81 : decode cX9_count 81 = .ok (.ireturn, 1) := by decide +kernel
theorem dX9_counted_0 : decode cX9_counted 0 = .ok (.aload_n 0, 1) := by decide +kernel
theorem dX9_counted_1 : decode cX9_counted 1 = .ok (.getfield 254, 3) := by decide +kernel
theorem dX9_counted_4 : decode cX9_counted 4 = .ok (.lreturn, 1) := by decide +kernel
theorem dX9_sheet_0 : decode cX9_sheet 0 = .ok (.iload_n 1, 1) := by decide +kernel
theorem dX9_sheet_1 : decode cX9_sheet 1 = .ok (.iconst 4, 1) := by decide +kernel
theorem dX9_sheet_2 : decode cX9_sheet 2 = .ok (.invokestatic 111, 3) := by decide +kernel
theorem dX9_sheet_5 : decode cX9_sheet 5 = .ok (.ifCond .eq 16, 3) := by decide +kernel
theorem dX9_sheet_8 : decode cX9_sheet 8 = .ok (.iload_n 2, 1) := by decide +kernel
theorem dX9_sheet_9 : decode cX9_sheet 9 = .ok (.iconst (-1), 1) := by decide +kernel
theorem dX9_sheet_10 : decode cX9_sheet 10 = .ok (.if_icmp .eq 14, 3) := by decide +kernel
theorem dX9_sheet_13 : decode cX9_sheet 13 = .ok (.iload_n 2, 1) := by decide +kernel
theorem dX9_sheet_14 : decode cX9_sheet 14 = .ok (.iconst 3, 1) := by decide +kernel
theorem dX9_sheet_15 : decode cX9_sheet 15 = .ok (.invokestatic 111, 3) := by decide +kernel
theorem dX9_sheet_18 : decode cX9_sheet 18 = .ok (.ifCond .ne 6, 3) := by decide +kernel
theorem dX9_sheet_21 : decode cX9_sheet 21 = .ok (.bipush (-2), 2) := by decide +kernel
theorem dX9_sheet_23 : decode cX9_sheet 23 = .ok (.ireturn, 1) := by decide +kernel
theorem dX9_sheet_24 : decode cX9_sheet 24 = .ok (.iload_n 2, 1) := by decide +kernel
theorem dX9_sheet_25 : decode cX9_sheet 25 = .ok (.iconst (-1), 1) := by decide +kernel
theorem dX9_sheet_26 : decode cX9_sheet 26 = .ok (.if_icmp .ne 16, 3) := by decide +kernel
theorem dX9_sheet_29 : decode cX9_sheet 29 = .ok (.aload_n 0, 1) := by decide +kernel
theorem dX9_sheet_30 : decode cX9_sheet 30 = .ok (.getfield 47, 3) := by decide +kernel
theorem dX9_sheet_33 : decode cX9_sheet 33 = .ok (.iload_n 1, 1) := by decide +kernel
theorem dX9_sheet_34 : decode cX9_sheet 34 = .ok (.aaload, 1) := by decide +kernel
theorem dX9_sheet_35 : decode cX9_sheet 35 = .ok (.iload_n 2, 1) := by decide +kernel
theorem dX9_sheet_36 : decode cX9_sheet 36 = .ok (.iconst 0, 1) := by decide +kernel
theorem dX9_sheet_37 : decode cX9_sheet 37 = .ok (.invokevirtual 258, 3) := by decide +kernel
theorem dX9_sheet_40 : decode cX9_sheet 40 = .ok (.iconst 1, 1) := by decide +kernel
theorem dX9_sheet_41 : decode cX9_sheet 41 = .ok (.ireturn, 1) := by decide +kernel
theorem dX9_sheet_42 : decode cX9_sheet 42 = .ok (.iload_n 3, 1) := by decide +kernel
theorem dX9_sheet_43 : decode cX9_sheet 43 = .ok (.bipush 40, 2) := by decide +kernel
theorem dX9_sheet_45 : decode cX9_sheet 45 = .ok (.if_icmp .le 6, 3) := by decide +kernel
theorem dX9_sheet_48 : decode cX9_sheet 48 = .ok (.bipush (-2), 2) := by decide +kernel
theorem dX9_sheet_50 : decode cX9_sheet 50 = .ok (.ireturn, 1) := by decide +kernel
theorem dX9_sheet_51 : decode cX9_sheet 51 = .ok (.iload_n 3, 1) := by decide +kernel
theorem dX9_sheet_52 : decode cX9_sheet 52 = .ok (.ifCond .ge 6, 3) := by decide +kernel
theorem dX9_sheet_55 : decode cX9_sheet 55 = .ok (.bipush (-14), 2) := by decide +kernel
theorem dX9_sheet_57 : decode cX9_sheet 57 = .ok (.ireturn, 1) := by decide +kernel
theorem dX9_sheet_58 : decode cX9_sheet 58 = .ok (.aload_n 0, 1) := by decide +kernel
theorem dX9_sheet_59 : decode cX9_sheet 59 = .ok (.getfield 47, 3) := by decide +kernel
theorem dX9_sheet_62 : decode cX9_sheet 62 = .ok (.iload_n 1, 1) := by decide +kernel
theorem dX9_sheet_63 : decode cX9_sheet 63 = .ok (.aaload, 1) := by decide +kernel
theorem dX9_sheet_64 : decode cX9_sheet 64 = .ok (.iload_n 2, 1) := by decide +kernel
theorem dX9_sheet_65 : decode cX9_sheet 65 = .ok (.iload_n 3, 1) := by decide +kernel
theorem dX9_sheet_66 : decode cX9_sheet 66 = .ok (.invokevirtual 258, 3) := by decide +kernel
theorem dX9_sheet_69 : decode cX9_sheet 69 = .ok (.iconst 1, 1) := by decide +kernel
theorem dX9_sheet_70 : decode cX9_sheet 70 = .ok (.ireturn, 1) := by decide +kernel
theorem dX9_cell_0 : decode cX9_cell 0 = .ok (.iload_n 1, 1) := by decide +kernel
theorem dX9_cell_1 : decode cX9_cell 1 = .ok (.iconst 4, 1) := by decide +kernel
theorem dX9_cell_2 : decode cX9_cell 2 = .ok (.invokestatic 111, 3) := by decide +kernel
theorem dX9_cell_5 : decode cX9_cell 5 = .ok (.ifCond .ne 6, 3) := by decide +kernel
theorem dX9_cell_8 : decode cX9_cell 8 = .ok (.bipush (-2), 2) := by decide +kernel
theorem dX9_cell_10 : decode cX9_cell 10 = .ok (.ireturn, 1) := by decide +kernel
theorem dX9_cell_11 : decode cX9_cell 11 = .ok (.aload_n 0, 1) := by decide +kernel
theorem dX9_cell_12 : decode cX9_cell 12 = .ok (.getfield 47, 3) := by decide +kernel
theorem dX9_cell_15 : decode cX9_cell 15 = .ok (.iload_n 1, 1) := by decide +kernel
theorem dX9_cell_16 : decode cX9_cell 16 = .ok (.aaload, 1) := by decide +kernel
theorem dX9_cell_17 : decode cX9_cell 17 = .ok (.invokevirtual 261, 3) := by decide +kernel
theorem dX9_cell_20 : decode cX9_cell 20 = .ok (.iconst (-1), 1) := by decide +kernel
theorem dX9_cell_21 : decode cX9_cell 21 = .ok (.if_icmp .ne 6, 3) := by decide +kernel
theorem dX9_cell_24 : decode cX9_cell 24 = .ok (.bipush (-11), 2) := by decide +kernel
theorem dX9_cell_26 : decode cX9_cell 26 = .ok (.ireturn, 1) := by decide +kernel
theorem dX9_cell_27 : decode cX9_cell 27 = .ok (.iload_n 2, 1) := by decide +kernel
theorem dX9_cell_28 : decode cX9_cell 28 = .ok (.aload_n 0, 1) := by decide +kernel
theorem dX9_cell_29 : decode cX9_cell 29 = .ok (.getfield 47, 3) := by decide +kernel
theorem dX9_cell_32 : decode cX9_cell 32 = .ok (.iload_n 1, 1) := by decide +kernel
theorem dX9_cell_33 : decode cX9_cell 33 = .ok (.aaload, 1) := by decide +kernel
theorem dX9_cell_34 : decode cX9_cell 34 = .ok (.invokevirtual 264, 3) := by decide +kernel
theorem dX9_cell_37 : decode cX9_cell 37 = .ok (.invokestatic 111, 3) := by decide +kernel
theorem dX9_cell_40 : decode cX9_cell 40 = .ok (.ifCond .ne 6, 3) := by decide +kernel
theorem dX9_cell_43 : decode cX9_cell 43 = .ok (.bipush (-12), 2) := by decide +kernel
theorem dX9_cell_45 : decode cX9_cell 45 = .ok (.ireturn, 1) := by decide +kernel
theorem dX9_cell_46 : decode cX9_cell 46 = .ok (.aload_n 0, 1) := by decide +kernel
theorem dX9_cell_47 : decode cX9_cell 47 = .ok (.getfield 47, 3) := by decide +kernel
theorem dX9_cell_50 : decode cX9_cell 50 = .ok (.iload_n 1, 1) := by decide +kernel
theorem dX9_cell_51 : decode cX9_cell 51 = .ok (.aaload, 1) := by decide +kernel
theorem dX9_cell_52 : decode cX9_cell 52 = .ok (.iload_n 2, 1) := by decide +kernel
theorem dX9_cell_53 : decode cX9_cell 53 = .ok (.iload_n 3, 1) := by decide +kernel
theorem dX9_cell_54 : decode cX9_cell 54 = .ok (.invokevirtual 265, 3) := by decide +kernel
theorem dX9_cell_57 : decode cX9_cell 57 = .ok (.iconst 1, 1) := by decide +kernel
theorem dX9_cell_58 : decode cX9_cell 58 = .ok (.ireturn, 1) := by decide +kernel
theorem dX9_lay_0 : decode cX9_lay 0 = .ok (.iload_n 1, 1) := by decide +kernel
theorem dX9_lay_1 : decode cX9_lay 1 = .ok (.invokestatic 107, 3) := by decide +kernel
theorem dX9_lay_4 : decode cX9_lay 4 = .ok (.ifCond .eq 31, 3) := by decide +kernel
theorem dX9_lay_7 : decode cX9_lay 7 = .ok (.iload_n 2, 1) := by decide +kernel
theorem dX9_lay_8 : decode cX9_lay 8 = .ok (.iconst 4, 1) := by decide +kernel
theorem dX9_lay_9 : decode cX9_lay 9 = .ok (.invokestatic 111, 3) := by decide +kernel
theorem dX9_lay_12 : decode cX9_lay 12 = .ok (.ifCond .eq 23, 3) := by decide +kernel
theorem dX9_lay_15 : decode cX9_lay 15 = .ok (.iload_n 3, 1) := by decide +kernel
theorem dX9_lay_16 : decode cX9_lay 16 = .ok (.iconst 3, 1) := by decide +kernel
theorem dX9_lay_17 : decode cX9_lay 17 = .ok (.invokestatic 111, 3) := by decide +kernel
theorem dX9_lay_20 : decode cX9_lay 20 = .ok (.ifCond .eq 15, 3) := by decide +kernel
theorem dX9_lay_23 : decode cX9_lay 23 = .ok (.iload 5, 2) := by decide +kernel
theorem dX9_lay_25 : decode cX9_lay 25 = .ok (.ifCond .lt 10, 3) := by decide +kernel
theorem dX9_lay_28 : decode cX9_lay 28 = .ok (.iload 5, 2) := by decide +kernel
theorem dX9_lay_30 : decode cX9_lay 30 = .ok (.bipush 32, 2) := by decide +kernel
theorem dX9_lay_32 : decode cX9_lay 32 = .ok (.if_icmp .le 6, 3) := by decide +kernel
theorem dX9_lay_35 : decode cX9_lay 35 = .ok (.bipush (-2), 2) := by decide +kernel
theorem dX9_lay_37 : decode cX9_lay 37 = .ok (.ireturn, 1) := by decide +kernel
theorem dX9_lay_38 : decode cX9_lay 38 = .ok (.aload_n 0, 1) := by decide +kernel
theorem dX9_lay_39 : decode cX9_lay 39 = .ok (.getfield 47, 3) := by decide +kernel
theorem dX9_lay_42 : decode cX9_lay 42 = .ok (.iload_n 2, 1) := by decide +kernel
theorem dX9_lay_43 : decode cX9_lay 43 = .ok (.aaload, 1) := by decide +kernel
theorem dX9_lay_44 : decode cX9_lay 44 = .ok (.astore 6, 2) := by decide +kernel
theorem dX9_lay_46 : decode cX9_lay 46 = .ok (.aload 6, 2) := by decide +kernel
theorem dX9_lay_48 : decode cX9_lay 48 = .ok (.invokevirtual 261, 3) := by decide +kernel
theorem dX9_lay_51 : decode cX9_lay 51 = .ok (.iconst (-1), 1) := by decide +kernel
theorem dX9_lay_52 : decode cX9_lay 52 = .ok (.if_icmp .eq 15, 3) := by decide +kernel
theorem dX9_lay_55 : decode cX9_lay 55 = .ok (.aload 6, 2) := by decide +kernel
theorem dX9_lay_57 : decode cX9_lay 57 = .ok (.invokevirtual 261, 3) := by decide +kernel
theorem dX9_lay_60 : decode cX9_lay 60 = .ok (.iload_n 3, 1) := by decide +kernel
theorem dX9_lay_61 : decode cX9_lay 61 = .ok (.if_icmp .eq 6, 3) := by decide +kernel
theorem dX9_lay_64 : decode cX9_lay 64 = .ok (.bipush (-13), 2) := by decide +kernel
theorem dX9_lay_66 : decode cX9_lay 66 = .ok (.ireturn, 1) := by decide +kernel
theorem dX9_lay_67 : decode cX9_lay 67 = .ok (.aload 6, 2) := by decide +kernel
theorem dX9_lay_69 : decode cX9_lay 69 = .ok (.invokevirtual 261, 3) := by decide +kernel
theorem dX9_lay_72 : decode cX9_lay 72 = .ok (.iconst (-1), 1) := by decide +kernel
theorem dX9_lay_73 : decode cX9_lay 73 = .ok (.if_icmp .ne 6, 3) := by decide +kernel
theorem dX9_lay_76 : decode cX9_lay 76 = .ok (.bipush (-11), 2) := by decide +kernel
theorem dX9_lay_78 : decode cX9_lay 78 = .ok (.ireturn, 1) := by decide +kernel
theorem dX9_lay_79 : decode cX9_lay 79 = .ok (.iload 5, 2) := by decide +kernel
theorem dX9_lay_81 : decode cX9_lay 81 = .ok (.ifCond .le 24, 3) := by decide +kernel
theorem dX9_lay_84 : decode cX9_lay 84 = .ok (.iload 4, 2) := by decide +kernel
theorem dX9_lay_86 : decode cX9_lay 86 = .ok (.ifCond .lt 16, 3) := by decide +kernel
theorem dX9_lay_89 : decode cX9_lay 89 = .ok (.iload 4, 2) := by decide +kernel
theorem dX9_lay_91 : decode cX9_lay 91 = .ok (.aload 6, 2) := by decide +kernel
theorem dX9_lay_93 : decode cX9_lay 93 = .ok (.invokevirtual 264, 3) := by decide +kernel
theorem dX9_lay_96 : decode cX9_lay 96 = .ok (.iload 5, 2) := by decide +kernel
theorem dX9_lay_98 : decode cX9_lay 98 = .ok (.isub, 1) := by decide +kernel
theorem dX9_lay_99 : decode cX9_lay 99 = .ok (.if_icmp .le 6, 3) := by decide +kernel
theorem dX9_lay_102 : decode cX9_lay 102 = .ok (.bipush (-12), 2) := by decide +kernel
theorem dX9_lay_104 : decode cX9_lay 104 = .ok (.ireturn, 1) := by decide +kernel
theorem dX9_lay_105 : decode cX9_lay 105 = .ok (.aload_n 0, 1) := by decide +kernel
theorem dX9_lay_106 : decode cX9_lay 106 = .ok (.getfield 18, 3) := by decide +kernel
theorem dX9_lay_109 : decode cX9_lay 109 = .ok (.invokevirtual 131, 3) := by decide +kernel
theorem dX9_lay_112 : decode cX9_lay 112 = .ok (.iconst 0, 1) := by decide +kernel
theorem dX9_lay_113 : decode cX9_lay 113 = .ok (.istore 7, 2) := by decide +kernel
theorem dX9_lay_115 : decode cX9_lay 115 = .ok (.iload 7, 2) := by decide +kernel
theorem dX9_lay_117 : decode cX9_lay 117 = .ok (.iload 5, 2) := by decide +kernel
theorem dX9_lay_119 : decode cX9_lay 119 = .ok (.if_icmp .ge 36, 3) := by decide +kernel
theorem dX9_lay_122 : decode cX9_lay 122 = .ok (.aload_n 0, 1) := by decide +kernel
theorem dX9_lay_123 : decode cX9_lay 123 = .ok (.getfield 18, 3) := by decide +kernel
theorem dX9_lay_126 : decode cX9_lay 126 = .ok (.iload 7, 2) := by decide +kernel
theorem dX9_lay_128 : decode cX9_lay 128 = .ok (.aload_n 0, 1) := by decide +kernel
theorem dX9_lay_129 : decode cX9_lay 129 = .ok (.getfield 54, 3) := by decide +kernel
theorem dX9_lay_132 : decode cX9_lay 132 = .ok (.aload 6, 2) := by decide +kernel
theorem dX9_lay_134 : decode cX9_lay 134 = .ok (.iload 4, 2) := by decide +kernel
theorem dX9_lay_136 : decode cX9_lay 136 = .ok (.iload 7, 2) := by decide +kernel
theorem dX9_lay_138 : decode cX9_lay 138 = .ok (.iadd, 1) := by decide +kernel
theorem dX9_lay_139 : decode cX9_lay 139 = .ok (.invokevirtual 267, 3) := by decide +kernel
theorem dX9_lay_142 : decode cX9_lay 142 = .ok (.i2l, 1) := by decide +kernel
theorem dX9_lay_143 : decode cX9_lay 143 = .ok (.invokevirtual 119, 3) := by decide +kernel
theorem dX9_lay_146 : decode cX9_lay 146 = .ok (.invokevirtual 123, 3) := by decide +kernel
theorem dX9_lay_149 : decode cX9_lay 149 = .ok (.iinc 7 1, 3) := by decide +kernel
theorem dX9_lay_152 : decode cX9_lay 152 = .ok (.goto (-37), 3) := by decide +kernel
theorem dX9_lay_155 : decode cX9_lay 155 = .ok (.aload_n 0, 1) := by decide +kernel
theorem dX9_lay_156 : decode cX9_lay 156 = .ok (.iload_n 1, 1) := by decide +kernel
theorem dX9_lay_157 : decode cX9_lay 157 = .ok (.aload_n 0, 1) := by decide +kernel
theorem dX9_lay_158 : decode cX9_lay 158 = .ok (.getfield 18, 3) := by decide +kernel
theorem dX9_lay_161 : decode cX9_lay 161 = .ok (.invokevirtual 144, 3) := by decide +kernel
theorem dX9_lay_164 : decode cX9_lay 164 = .ok (.ireturn, 1) := by decide +kernel
theorem dX9_taken_0 : decode cX9_taken 0 = .ok (.iload_n 2, 1) := by decide +kernel
theorem dX9_taken_1 : decode cX9_taken 1 = .ok (.bipush 6, 2) := by decide +kernel
theorem dX9_taken_3 : decode cX9_taken 3 = .ok (.invokestatic 111, 3) := by decide +kernel
theorem dX9_taken_6 : decode cX9_taken 6 = .ok (.ifCond .ne 6, 3) := by decide +kernel
theorem dX9_taken_9 : decode cX9_taken 9 = .ok (.bipush (-2), 2) := by decide +kernel
theorem dX9_taken_11 : decode cX9_taken 11 = .ok (.ireturn, 1) := by decide +kernel
theorem dX9_taken_12 : decode cX9_taken 12 = .ok (.aload_n 0, 1) := by decide +kernel
theorem dX9_taken_13 : decode cX9_taken 13 = .ok (.iload_n 1, 1) := by decide +kernel
theorem dX9_taken_14 : decode cX9_taken 14 = .ok (.invokevirtual 153, 3) := by decide +kernel
theorem dX9_taken_17 : decode cX9_taken 17 = .ok (.ifCond .ne 6, 3) := by decide +kernel
theorem dX9_taken_20 : decode cX9_taken 20 = .ok (.bipush (-11), 2) := by decide +kernel
theorem dX9_taken_22 : decode cX9_taken 22 = .ok (.ireturn, 1) := by decide +kernel
theorem dX9_taken_23 : decode cX9_taken 23 = .ok (.aload_n 0, 1) := by decide +kernel
theorem dX9_taken_24 : decode cX9_taken 24 = .ok (.getfield 24, 3) := by decide +kernel
theorem dX9_taken_27 : decode cX9_taken 27 = .ok (.iload_n 1, 1) := by decide +kernel
theorem dX9_taken_28 : decode cX9_taken 28 = .ok (.aaload, 1) := by decide +kernel
theorem dX9_taken_29 : decode cX9_taken 29 = .ok (.iload_n 2, 1) := by decide +kernel
theorem dX9_taken_30 : decode cX9_taken 30 = .ok (.invokevirtual 270, 3) := by decide +kernel
theorem dX9_taken_33 : decode cX9_taken 33 = .ok (.ifCond .eq 15, 3) := by decide +kernel
theorem dX9_taken_36 : decode cX9_taken 36 = .ok (.aload_n 0, 1) := by decide +kernel
theorem dX9_taken_37 : decode cX9_taken 37 = .ok (.getfield 24, 3) := by decide +kernel
theorem dX9_taken_40 : decode cX9_taken 40 = .ok (.iload_n 1, 1) := by decide +kernel
theorem dX9_taken_41 : decode cX9_taken 41 = .ok (.aaload, 1) := by decide +kernel
theorem dX9_taken_42 : decode cX9_taken 42 = .ok (.invokevirtual 273, 3) := by decide +kernel
theorem dX9_taken_45 : decode cX9_taken 45 = .ok (.goto 5, 3) := by decide +kernel
theorem dX9_taken_48 : decode cX9_taken 48 = .ok (.bipush (-13), 2) := by decide +kernel
theorem dX9_taken_50 : decode cX9_taken 50 = .ok (.ireturn, 1) := by decide +kernel
theorem dX9_isWithin_0 : decode cX9_isWithin 0 = .ok (.iload_n 0, 1) := by decide +kernel
theorem dX9_isWithin_1 : decode cX9_isWithin 1 = .ok (.ifCond .lt 12, 3) := by decide +kernel
theorem dX9_isWithin_4 : decode cX9_isWithin 4 = .ok (.iload_n 0, 1) := by decide +kernel
theorem dX9_isWithin_5 : decode cX9_isWithin 5 = .ok (.iload_n 1, 1) := by decide +kernel
theorem dX9_isWithin_6 : decode cX9_isWithin 6 = .ok (.if_icmp .ge 7, 3) := by decide +kernel
theorem dX9_isWithin_9 : decode cX9_isWithin 9 = .ok (.iconst 1, 1) := by decide +kernel
theorem dX9_isWithin_10 : decode cX9_isWithin 10 = .ok (.goto 4, 3) := by decide +kernel
theorem dX9_isWithin_13 : decode cX9_isWithin 13 = .ok (.iconst 0, 1) := by decide +kernel
theorem dX9_isWithin_14 : decode cX9_isWithin 14 = .ok (.ireturn, 1) := by decide +kernel
theorem dX9_isPoly_0 : decode cX9_isPoly 0 = .ok (.iload_n 0, 1) := by decide +kernel
theorem dX9_isPoly_1 : decode cX9_isPoly 1 = .ok (.bipush 8, 2) := by decide +kernel
theorem dX9_isPoly_3 : decode cX9_isPoly 3 = .ok (.invokestatic 111, 3) := by decide +kernel
theorem dX9_isPoly_6 : decode cX9_isPoly 6 = .ok (.ireturn, 1) := by decide +kernel
theorem dX9_arePolys_0 : decode cX9_arePolys 0 = .ok (.iload_n 0, 1) := by decide +kernel
theorem dX9_arePolys_1 : decode cX9_arePolys 1 = .ok (.invokestatic 107, 3) := by decide +kernel
theorem dX9_arePolys_4 : decode cX9_arePolys 4 = .ok (.ifCond .eq 21, 3) := by decide +kernel
theorem dX9_arePolys_7 : decode cX9_arePolys 7 = .ok (.iload_n 1, 1) := by decide +kernel
theorem dX9_arePolys_8 : decode cX9_arePolys 8 = .ok (.invokestatic 107, 3) := by decide +kernel
theorem dX9_arePolys_11 : decode cX9_arePolys 11 = .ok (.ifCond .eq 14, 3) := by decide +kernel
theorem dX9_arePolys_14 : decode cX9_arePolys 14 = .ok (.iload_n 2, 1) := by decide +kernel
theorem dX9_arePolys_15 : decode cX9_arePolys 15 = .ok (.invokestatic 107, 3) := by decide +kernel
theorem dX9_arePolys_18 : decode cX9_arePolys 18 = .ok (.ifCond .eq 7, 3) := by decide +kernel
theorem dX9_arePolys_21 : decode cX9_arePolys 21 = .ok (.iconst 1, 1) := by decide +kernel
theorem dX9_arePolys_22 : decode cX9_arePolys 22 = .ok (.goto 4, 3) := by decide +kernel
theorem dX9_arePolys_25 : decode cX9_arePolys 25 = .ok (.iconst 0, 1) := by decide +kernel
theorem dX9_arePolys_26 : decode cX9_arePolys 26 = .ok (.ireturn, 1) := by decide +kernel
theorem dX9_isWay_0 : decode cX9_isWay 0 = .ok (.iload_n 1, 1) := by decide +kernel
theorem dX9_isWay_1 : decode cX9_isWay 1 = .ok (.aload_n 0, 1) := by decide +kernel
theorem dX9_isWay_2 : decode cX9_isWay 2 = .ok (.getfield 148, 3) := by decide +kernel
theorem dX9_isWay_5 : decode cX9_isWay 5 = .ok (.invokestatic 111, 3) := by decide +kernel
theorem dX9_isWay_8 : decode cX9_isWay 8 = .ok (.ifCond .eq 16, 3) := by decide +kernel
theorem dX9_isWay_11 : decode cX9_isWay 11 = .ok (.aload_n 0, 1) := by decide +kernel
theorem dX9_isWay_12 : decode cX9_isWay 12 = .ok (.getfield 24, 3) := by decide +kernel
theorem dX9_isWay_15 : decode cX9_isWay 15 = .ok (.iload_n 1, 1) := by decide +kernel
theorem dX9_isWay_16 : decode cX9_isWay 16 = .ok (.aaload, 1) := by decide +kernel
theorem dX9_isWay_17 : decode cX9_isWay 17 = .ok (.ifnull 7, 3) := by decide +kernel
theorem dX9_isWay_20 : decode cX9_isWay 20 = .ok (.iconst 1, 1) := by decide +kernel
theorem dX9_isWay_21 : decode cX9_isWay 21 = .ok (.goto 4, 3) := by decide +kernel
theorem dX9_isWay_24 : decode cX9_isWay 24 = .ok (.iconst 0, 1) := by decide +kernel
theorem dX9_isWay_25 : decode cX9_isWay 25 = .ok (.ireturn, 1) := by decide +kernel
theorem dX9_isPlace_0 : decode cX9_isPlace 0 = .ok (.iload_n 1, 1) := by decide +kernel
theorem dX9_isPlace_1 : decode cX9_isPlace 1 = .ok (.aload_n 0, 1) := by decide +kernel
theorem dX9_isPlace_2 : decode cX9_isPlace 2 = .ok (.getfield 72, 3) := by decide +kernel
theorem dX9_isPlace_5 : decode cX9_isPlace 5 = .ok (.invokevirtual 207, 3) := by decide +kernel
theorem dX9_isPlace_8 : decode cX9_isPlace 8 = .ok (.invokestatic 111, 3) := by decide +kernel
theorem dX9_isPlace_11 : decode cX9_isPlace 11 = .ok (.ireturn, 1) := by decide +kernel
theorem dX9_become_0 : decode cX9_become 0 = .ok (.aload_n 0, 1) := by decide +kernel
theorem dX9_become_1 : decode cX9_become 1 = .ok (.getfield 11, 3) := by decide +kernel
theorem dX9_become_4 : decode cX9_become 4 = .ok (.iload_n 1, 1) := by decide +kernel
theorem dX9_become_5 : decode cX9_become 5 = .ok (.aaload, 1) := by decide +kernel
theorem dX9_become_6 : decode cX9_become 6 = .ok (.aload_n 2, 1) := by decide +kernel
theorem dX9_become_7 : decode cX9_become 7 = .ok (.invokevirtual 136, 3) := by decide +kernel
theorem dX9_become_10 : decode cX9_become 10 = .ok (.aload_n 0, 1) := by decide +kernel
theorem dX9_become_11 : decode cX9_become 11 = .ok (.getfield 11, 3) := by decide +kernel
theorem dX9_become_14 : decode cX9_become 14 = .ok (.iload_n 1, 1) := by decide +kernel
theorem dX9_become_15 : decode cX9_become 15 = .ok (.aaload, 1) := by decide +kernel
theorem dX9_become_16 : decode cX9_become 16 = .ok (.invokevirtual 127, 3) := by decide +kernel
theorem dX9_become_19 : decode cX9_become 19 = .ok (.ireturn, 1) := by decide +kernel
theorem dX9_countFor_0 : decode cX9_countFor 0 = .ok (.aload_n 0, 1) := by decide +kernel
theorem dX9_countFor_1 : decode cX9_countFor 1 = .ok (.getfield 24, 3) := by decide +kernel
theorem dX9_countFor_4 : decode cX9_countFor 4 = .ok (.iload_n 3, 1) := by decide +kernel
theorem dX9_countFor_5 : decode cX9_countFor 5 = .ok (.aaload, 1) := by decide +kernel
theorem dX9_countFor_6 : decode cX9_countFor 6 = .ok (.aload_n 0, 1) := by decide +kernel
theorem dX9_countFor_7 : decode cX9_countFor 7 = .ok (.getfield 11, 3) := by decide +kernel
theorem dX9_countFor_10 : decode cX9_countFor 10 = .ok (.iload_n 1, 1) := by decide +kernel
theorem dX9_countFor_11 : decode cX9_countFor 11 = .ok (.aaload, 1) := by decide +kernel
theorem dX9_countFor_12 : decode cX9_countFor 12 = .ok (.invokevirtual 127, 3) := by decide +kernel
theorem dX9_countFor_15 : decode cX9_countFor 15 = .ok (.aload_n 0, 1) := by decide +kernel
theorem dX9_countFor_16 : decode cX9_countFor 16 = .ok (.getfield 11, 3) := by decide +kernel
theorem dX9_countFor_19 : decode cX9_countFor 19 = .ok (.iload_n 2, 1) := by decide +kernel
theorem dX9_countFor_20 : decode cX9_countFor 20 = .ok (.aaload, 1) := by decide +kernel
theorem dX9_countFor_21 : decode cX9_countFor 21 = .ok (.invokevirtual 127, 3) := by decide +kernel
theorem dX9_countFor_24 : decode cX9_countFor 24 = .ok (.aload_n 0, 1) := by decide +kernel
theorem dX9_countFor_25 : decode cX9_countFor 25 = .ok (.getfield 11, 3) := by decide +kernel
theorem dX9_countFor_28 : decode cX9_countFor 28 = .ok (.iload_n 1, 1) := by decide +kernel
theorem dX9_countFor_29 : decode cX9_countFor 29 = .ok (.aaload, 1) := by decide +kernel
theorem dX9_countFor_30 : decode cX9_countFor 30 = .ok (.aload_n 0, 1) := by decide +kernel
theorem dX9_countFor_31 : decode cX9_countFor 31 = .ok (.getfield 11, 3) := by decide +kernel
theorem dX9_countFor_34 : decode cX9_countFor 34 = .ok (.iload_n 2, 1) := by decide +kernel
theorem dX9_countFor_35 : decode cX9_countFor 35 = .ok (.aaload, 1) := by decide +kernel
theorem dX9_countFor_36 : decode cX9_countFor 36 = .ok (.invokevirtual 276, 3) := by decide +kernel
theorem dX9_countFor_39 : decode cX9_countFor 39 = .ok (.invokevirtual 280, 3) := by decide +kernel
theorem dX9_countFor_42 : decode cX9_countFor 42 = .ok (.ireturn, 1) := by decide +kernel
theorem dX9_multiply_0 : decode cX9_multiply 0 = .ok (.aload_n 0, 1) := by decide +kernel
theorem dX9_multiply_1 : decode cX9_multiply 1 = .ok (.iload_n 2, 1) := by decide +kernel
theorem dX9_multiply_2 : decode cX9_multiply 2 = .ok (.iload_n 3, 1) := by decide +kernel
theorem dX9_multiply_3 : decode cX9_multiply 3 = .ok (.iload 4, 2) := by decide +kernel
theorem dX9_multiply_5 : decode cX9_multiply 5 = .ok (.invokevirtual 160, 3) := by decide +kernel
theorem dX9_multiply_8 : decode cX9_multiply 8 = .ok (.istore 5, 2) := by decide +kernel
theorem dX9_multiply_10 : decode cX9_multiply 10 = .ok (.iload 5, 2) := by decide +kernel
theorem dX9_multiply_12 : decode cX9_multiply 12 = .ok (.bipush (-4), 2) := by decide +kernel
theorem dX9_multiply_14 : decode cX9_multiply 14 = .ok (.if_icmp .eq 29, 3) := by decide +kernel
theorem dX9_multiply_17 : decode cX9_multiply 17 = .ok (.aload_n 0, 1) := by decide +kernel
theorem dX9_multiply_18 : decode cX9_multiply 18 = .ok (.getfield 11, 3) := by decide +kernel
theorem dX9_multiply_21 : decode cX9_multiply 21 = .ok (.iload_n 2, 1) := by decide +kernel
theorem dX9_multiply_22 : decode cX9_multiply 22 = .ok (.aaload, 1) := by decide +kernel
theorem dX9_multiply_23 : decode cX9_multiply 23 = .ok (.invokevirtual 127, 3) := by decide +kernel
theorem dX9_multiply_26 : decode cX9_multiply 26 = .ok (.aload_n 0, 1) := by decide +kernel
theorem dX9_multiply_27 : decode cX9_multiply 27 = .ok (.getfield 11, 3) := by decide +kernel
theorem dX9_multiply_30 : decode cX9_multiply 30 = .ok (.iload_n 3, 1) := by decide +kernel
theorem dX9_multiply_31 : decode cX9_multiply 31 = .ok (.aaload, 1) := by decide +kernel
theorem dX9_multiply_32 : decode cX9_multiply 32 = .ok (.invokevirtual 127, 3) := by decide +kernel
theorem dX9_multiply_35 : decode cX9_multiply 35 = .ok (.iadd, 1) := by decide +kernel
theorem dX9_multiply_36 : decode cX9_multiply 36 = .ok (.iconst 1, 1) := by decide +kernel
theorem dX9_multiply_37 : decode cX9_multiply 37 = .ok (.isub, 1) := by decide +kernel
theorem dX9_multiply_38 : decode cX9_multiply 38 = .ok (.bipush 32, 2) := by decide +kernel
theorem dX9_multiply_40 : decode cX9_multiply 40 = .ok (.if_icmp .le 6, 3) := by decide +kernel
theorem dX9_multiply_43 : decode cX9_multiply 43 = .ok (.bipush (-4), 2) := by decide +kernel
theorem dX9_multiply_45 : decode cX9_multiply 45 = .ok (.ireturn, 1) := by decide +kernel
theorem dX9_multiply_46 : decode cX9_multiply 46 = .ok (.aload_n 0, 1) := by decide +kernel
theorem dX9_multiply_47 : decode cX9_multiply 47 = .ok (.iload_n 1, 1) := by decide +kernel
theorem dX9_multiply_48 : decode cX9_multiply 48 = .ok (.aload_n 0, 1) := by decide +kernel
theorem dX9_multiply_49 : decode cX9_multiply 49 = .ok (.getfield 63, 3) := by decide +kernel
theorem dX9_multiply_52 : decode cX9_multiply 52 = .ok (.aload_n 0, 1) := by decide +kernel
theorem dX9_multiply_53 : decode cX9_multiply 53 = .ok (.getfield 11, 3) := by decide +kernel
theorem dX9_multiply_56 : decode cX9_multiply 56 = .ok (.iload_n 2, 1) := by decide +kernel
theorem dX9_multiply_57 : decode cX9_multiply 57 = .ok (.aaload, 1) := by decide +kernel
theorem dX9_multiply_58 : decode cX9_multiply 58 = .ok (.aload_n 0, 1) := by decide +kernel
theorem dX9_multiply_59 : decode cX9_multiply 59 = .ok (.getfield 11, 3) := by decide +kernel
theorem dX9_multiply_62 : decode cX9_multiply 62 = .ok (.iload_n 3, 1) := by decide +kernel
theorem dX9_multiply_63 : decode cX9_multiply 63 = .ok (.aaload, 1) := by decide +kernel
theorem dX9_multiply_64 : decode cX9_multiply 64 = .ok (.invokevirtual 284, 3) := by decide +kernel
theorem dX9_multiply_67 : decode cX9_multiply 67 = .ok (.invokevirtual 144, 3) := by decide +kernel
theorem dX9_multiply_70 : decode cX9_multiply 70 = .ok (.pop, 1) := by decide +kernel
theorem dX9_multiply_71 : decode cX9_multiply 71 = .ok (.aload_n 0, 1) := by decide +kernel
theorem dX9_multiply_72 : decode cX9_multiply 72 = .ok (.dup, 1) := by decide +kernel
theorem dX9_multiply_73 : decode cX9_multiply 73 = .ok (.getfield 254, 3) := by decide +kernel
theorem dX9_multiply_76 : decode cX9_multiply 76 = .ok (.iload 5, 2) := by decide +kernel
theorem dX9_multiply_78 : decode cX9_multiply 78 = .ok (.i2l, 1) := by decide +kernel
theorem dX9_multiply_79 : decode cX9_multiply 79 = .ok (.ladd, 1) := by decide +kernel
theorem dX9_multiply_80 : decode cX9_multiply 80 = .ok (.putfield 254, 3) := by decide +kernel
theorem dX9_multiply_83 : decode cX9_multiply 83 = .ok (.iload 5, 2) := by decide +kernel
theorem dX9_multiply_85 : decode cX9_multiply 85 = .ok (.ireturn, 1) := by decide +kernel
theorem dX9_ruleFor_0 : decode cX9_ruleFor 0 = .ok (.aload_n 0, 1) := by decide +kernel
theorem dX9_ruleFor_1 : decode cX9_ruleFor 1 = .ok (.getfield 11, 3) := by decide +kernel
theorem dX9_ruleFor_4 : decode cX9_ruleFor 4 = .ok (.iload_n 1, 1) := by decide +kernel
theorem dX9_ruleFor_5 : decode cX9_ruleFor 5 = .ok (.aaload, 1) := by decide +kernel
theorem dX9_ruleFor_6 : decode cX9_ruleFor 6 = .ok (.invokevirtual 127, 3) := by decide +kernel
theorem dX9_ruleFor_9 : decode cX9_ruleFor 9 = .ok (.istore 4, 2) := by decide +kernel
theorem dX9_ruleFor_11 : decode cX9_ruleFor 11 = .ok (.aload_n 0, 1) := by decide +kernel
theorem dX9_ruleFor_12 : decode cX9_ruleFor 12 = .ok (.getfield 11, 3) := by decide +kernel
theorem dX9_ruleFor_15 : decode cX9_ruleFor 15 = .ok (.iload_n 2, 1) := by decide +kernel
theorem dX9_ruleFor_16 : decode cX9_ruleFor 16 = .ok (.aaload, 1) := by decide +kernel
theorem dX9_ruleFor_17 : decode cX9_ruleFor 17 = .ok (.invokevirtual 127, 3) := by decide +kernel
theorem dX9_ruleFor_20 : decode cX9_ruleFor 20 = .ok (.istore 5, 2) := by decide +kernel
theorem dX9_ruleFor_22 : decode cX9_ruleFor 22 = .ok (.aload_n 0, 1) := by decide +kernel
theorem dX9_ruleFor_23 : decode cX9_ruleFor 23 = .ok (.getfield 41, 3) := by decide +kernel
theorem dX9_ruleFor_26 : decode cX9_ruleFor 26 = .ok (.iconst 0, 1) := by decide +kernel
theorem dX9_ruleFor_27 : decode cX9_ruleFor 27 = .ok (.iload 4, 2) := by decide +kernel
theorem dX9_ruleFor_29 : decode cX9_ruleFor 29 = .ok (.iastore, 1) := by decide +kernel
theorem dX9_ruleFor_30 : decode cX9_ruleFor 30 = .ok (.aload_n 0, 1) := by decide +kernel
theorem dX9_ruleFor_31 : decode cX9_ruleFor 31 = .ok (.getfield 41, 3) := by decide +kernel
theorem dX9_ruleFor_34 : decode cX9_ruleFor 34 = .ok (.iconst 1, 1) := by decide +kernel
theorem dX9_ruleFor_35 : decode cX9_ruleFor 35 = .ok (.iload 5, 2) := by decide +kernel
theorem dX9_ruleFor_37 : decode cX9_ruleFor 37 = .ok (.iastore, 1) := by decide +kernel
theorem dX9_ruleFor_38 : decode cX9_ruleFor 38 = .ok (.aload_n 0, 1) := by decide +kernel
theorem dX9_ruleFor_39 : decode cX9_ruleFor 39 = .ok (.getfield 41, 3) := by decide +kernel
theorem dX9_ruleFor_42 : decode cX9_ruleFor 42 = .ok (.iconst 2, 1) := by decide +kernel
theorem dX9_ruleFor_43 : decode cX9_ruleFor 43 = .ok (.iload 4, 2) := by decide +kernel
theorem dX9_ruleFor_45 : decode cX9_ruleFor 45 = .ok (.iload 5, 2) := by decide +kernel
theorem dX9_ruleFor_47 : decode cX9_ruleFor 47 = .ok (.invokestatic 287, 3) := by decide +kernel
theorem dX9_ruleFor_50 : decode cX9_ruleFor 50 = .ok (.iastore, 1) := by decide +kernel
theorem dX9_ruleFor_51 : decode cX9_ruleFor 51 = .ok (.aload_n 0, 1) := by decide +kernel
theorem dX9_ruleFor_52 : decode cX9_ruleFor 52 = .ok (.getfield 41, 3) := by decide +kernel
theorem dX9_ruleFor_55 : decode cX9_ruleFor 55 = .ok (.iconst 3, 1) := by decide +kernel
theorem dX9_ruleFor_56 : decode cX9_ruleFor 56 = .ok (.aload_n 0, 1) := by decide +kernel
theorem dX9_ruleFor_57 : decode cX9_ruleFor 57 = .ok (.getfield 24, 3) := by decide +kernel
theorem dX9_ruleFor_60 : decode cX9_ruleFor 60 = .ok (.iload_n 3, 1) := by decide +kernel
theorem dX9_ruleFor_61 : decode cX9_ruleFor 61 = .ok (.aaload, 1) := by decide +kernel
theorem dX9_ruleFor_62 : decode cX9_ruleFor 62 = .ok (.invokevirtual 273, 3) := by decide +kernel
theorem dX9_ruleFor_65 : decode cX9_ruleFor 65 = .ok (.iastore, 1) := by decide +kernel
theorem dX9_ruleFor_66 : decode cX9_ruleFor 66 = .ok (.aload_n 0, 1) := by decide +kernel
theorem dX9_ruleFor_67 : decode cX9_ruleFor 67 = .ok (.getfield 41, 3) := by decide +kernel
theorem dX9_ruleFor_70 : decode cX9_ruleFor 70 = .ok (.iconst 4, 1) := by decide +kernel
theorem dX9_ruleFor_71 : decode cX9_ruleFor 71 = .ok (.aload_n 0, 1) := by decide +kernel
theorem dX9_ruleFor_72 : decode cX9_ruleFor 72 = .ok (.getfield 24, 3) := by decide +kernel
theorem dX9_ruleFor_75 : decode cX9_ruleFor 75 = .ok (.iload_n 3, 1) := by decide +kernel
theorem dX9_ruleFor_76 : decode cX9_ruleFor 76 = .ok (.aaload, 1) := by decide +kernel
theorem dX9_ruleFor_77 : decode cX9_ruleFor 77 = .ok (.invokevirtual 292, 3) := by decide +kernel
theorem dX9_ruleFor_80 : decode cX9_ruleFor 80 = .ok (.iastore, 1) := by decide +kernel
theorem dX9_ruleFor_81 : decode cX9_ruleFor 81 = .ok (.aload_n 0, 1) := by decide +kernel
theorem dX9_ruleFor_82 : decode cX9_ruleFor 82 = .ok (.getfield 41, 3) := by decide +kernel
theorem dX9_ruleFor_85 : decode cX9_ruleFor 85 = .ok (.iconst 5, 1) := by decide +kernel
theorem dX9_ruleFor_86 : decode cX9_ruleFor 86 = .ok (.aload_n 0, 1) := by decide +kernel
theorem dX9_ruleFor_87 : decode cX9_ruleFor 87 = .ok (.getfield 11, 3) := by decide +kernel
theorem dX9_ruleFor_90 : decode cX9_ruleFor 90 = .ok (.iload_n 1, 1) := by decide +kernel
theorem dX9_ruleFor_91 : decode cX9_ruleFor 91 = .ok (.aaload, 1) := by decide +kernel
theorem dX9_ruleFor_92 : decode cX9_ruleFor 92 = .ok (.aload_n 0, 1) := by decide +kernel
theorem dX9_ruleFor_93 : decode cX9_ruleFor 93 = .ok (.getfield 11, 3) := by decide +kernel
theorem dX9_ruleFor_96 : decode cX9_ruleFor 96 = .ok (.iload_n 2, 1) := by decide +kernel
theorem dX9_ruleFor_97 : decode cX9_ruleFor 97 = .ok (.aaload, 1) := by decide +kernel
theorem dX9_ruleFor_98 : decode cX9_ruleFor 98 = .ok (.invokevirtual 276, 3) := by decide +kernel
theorem dX9_ruleFor_101 : decode cX9_ruleFor 101 = .ok (.ifCond .eq 7, 3) := by decide +kernel
theorem dX9_ruleFor_104 : decode cX9_ruleFor 104 = .ok (.iconst 1, 1) := by decide +kernel
theorem dX9_ruleFor_105 : decode cX9_ruleFor 105 = .ok (.goto 4, 3) := by decide +kernel
theorem dX9_ruleFor_108 : decode cX9_ruleFor 108 = .ok (.iconst 0, 1) := by decide +kernel
theorem dX9_ruleFor_109 : decode cX9_ruleFor 109 = .ok (.iastore, 1) := by decide +kernel
theorem dX9_ruleFor_110 : decode cX9_ruleFor 110 = .ok (.aload_n 0, 1) := by decide +kernel
theorem dX9_ruleFor_111 : decode cX9_ruleFor 111 = .ok (.getfield 37, 3) := by decide +kernel
theorem dX9_ruleFor_114 : decode cX9_ruleFor 114 = .ok (.aload_n 0, 1) := by decide +kernel
theorem dX9_ruleFor_115 : decode cX9_ruleFor 115 = .ok (.getfield 175, 3) := by decide +kernel
theorem dX9_ruleFor_118 : decode cX9_ruleFor 118 = .ok (.aaload, 1) := by decide +kernel
theorem dX9_ruleFor_119 : decode cX9_ruleFor 119 = .ok (.aload_n 0, 1) := by decide +kernel
theorem dX9_ruleFor_120 : decode cX9_ruleFor 120 = .ok (.getfield 24, 3) := by decide +kernel
theorem dX9_ruleFor_123 : decode cX9_ruleFor 123 = .ok (.iload_n 3, 1) := by decide +kernel
theorem dX9_ruleFor_124 : decode cX9_ruleFor 124 = .ok (.aaload, 1) := by decide +kernel
theorem dX9_ruleFor_125 : decode cX9_ruleFor 125 = .ok (.invokevirtual 295, 3) := by decide +kernel
theorem dX9_ruleFor_128 : decode cX9_ruleFor 128 = .ok (.aload_n 0, 1) := by decide +kernel
theorem dX9_ruleFor_129 : decode cX9_ruleFor 129 = .ok (.getfield 41, 3) := by decide +kernel
theorem dX9_ruleFor_132 : decode cX9_ruleFor 132 = .ok (.invokevirtual 298, 3) := by decide +kernel
theorem dX9_ruleFor_135 : decode cX9_ruleFor 135 = .ok (.ireturn, 1) := by decide +kernel
theorem dX9_bestWay_0 : decode cX9_bestWay 0 = .ok (.iconst (-1), 1) := by decide +kernel
theorem dX9_bestWay_1 : decode cX9_bestWay 1 = .ok (.istore_n 3, 1) := by decide +kernel
theorem dX9_bestWay_2 : decode cX9_bestWay 2 = .ok (.iconst 0, 1) := by decide +kernel
theorem dX9_bestWay_3 : decode cX9_bestWay 3 = .ok (.istore 4, 2) := by decide +kernel
theorem dX9_bestWay_5 : decode cX9_bestWay 5 = .ok (.iconst 0, 1) := by decide +kernel
theorem dX9_bestWay_6 : decode cX9_bestWay 6 = .ok (.istore 5, 2) := by decide +kernel
theorem dX9_bestWay_8 : decode cX9_bestWay 8 = .ok (.iload 5, 2) := by decide +kernel
theorem dX9_bestWay_10 : decode cX9_bestWay 10 = .ok (.aload_n 0, 1) := by decide +kernel
theorem dX9_bestWay_11 : decode cX9_bestWay 11 = .ok (.getfield 148, 3) := by decide +kernel
theorem dX9_bestWay_14 : decode cX9_bestWay 14 = .ok (.if_icmp .ge 54, 3) := by decide +kernel
theorem dX9_bestWay_17 : decode cX9_bestWay 17 = .ok (.aload_n 0, 1) := by decide +kernel
theorem dX9_bestWay_18 : decode cX9_bestWay 18 = .ok (.iload_n 1, 1) := by decide +kernel
theorem dX9_bestWay_19 : decode cX9_bestWay 19 = .ok (.iload_n 2, 1) := by decide +kernel
theorem dX9_bestWay_20 : decode cX9_bestWay 20 = .ok (.iload 5, 2) := by decide +kernel
theorem dX9_bestWay_22 : decode cX9_bestWay 22 = .ok (.invokevirtual 160, 3) := by decide +kernel
theorem dX9_bestWay_25 : decode cX9_bestWay 25 = .ok (.bipush (-4), 2) := by decide +kernel
theorem dX9_bestWay_27 : decode cX9_bestWay 27 = .ok (.if_icmp .ne 6, 3) := by decide +kernel
theorem dX9_bestWay_30 : decode cX9_bestWay 30 = .ok (.goto 32, 3) := by decide +kernel
theorem dX9_bestWay_33 : decode cX9_bestWay 33 = .ok (.aload_n 0, 1) := by decide +kernel
theorem dX9_bestWay_34 : decode cX9_bestWay 34 = .ok (.iload_n 1, 1) := by decide +kernel
theorem dX9_bestWay_35 : decode cX9_bestWay 35 = .ok (.iload_n 2, 1) := by decide +kernel
theorem dX9_bestWay_36 : decode cX9_bestWay 36 = .ok (.iload 5, 2) := by decide +kernel
theorem dX9_bestWay_38 : decode cX9_bestWay 38 = .ok (.invokevirtual 180, 3) := by decide +kernel
theorem dX9_bestWay_41 : decode cX9_bestWay 41 = .ok (.istore 6, 2) := by decide +kernel
theorem dX9_bestWay_43 : decode cX9_bestWay 43 = .ok (.iload_n 3, 1) := by decide +kernel
theorem dX9_bestWay_44 : decode cX9_bestWay 44 = .ok (.iconst (-1), 1) := by decide +kernel
theorem dX9_bestWay_45 : decode cX9_bestWay 45 = .ok (.if_icmp .eq 10, 3) := by decide +kernel
theorem dX9_bestWay_48 : decode cX9_bestWay 48 = .ok (.iload 6, 2) := by decide +kernel
theorem dX9_bestWay_50 : decode cX9_bestWay 50 = .ok (.iload 4, 2) := by decide +kernel
theorem dX9_bestWay_52 : decode cX9_bestWay 52 = .ok (.if_icmp .ge 10, 3) := by decide +kernel
theorem dX9_bestWay_55 : decode cX9_bestWay 55 = .ok (.iload 5, 2) := by decide +kernel
theorem dX9_bestWay_57 : decode cX9_bestWay 57 = .ok (.istore_n 3, 1) := by decide +kernel
theorem dX9_bestWay_58 : decode cX9_bestWay 58 = .ok (.iload 6, 2) := by decide +kernel
theorem dX9_bestWay_60 : decode cX9_bestWay 60 = .ok (.istore 4, 2) := by decide +kernel
theorem dX9_bestWay_62 : decode cX9_bestWay 62 = .ok (.iinc 5 1, 3) := by decide +kernel
theorem dX9_bestWay_65 : decode cX9_bestWay 65 = .ok (.goto (-57), 3) := by decide +kernel
theorem dX9_bestWay_68 : decode cX9_bestWay 68 = .ok (.iload_n 3, 1) := by decide +kernel
theorem dX9_bestWay_69 : decode cX9_bestWay 69 = .ok (.ireturn, 1) := by decide +kernel
theorem dJ9_floorMod_7cf53_0 : decode cJ9_floorMod_7cf53 0 = .ok (.iload_n 0, 1) := by decide +kernel
theorem dJ9_floorMod_7cf53_1 : decode cJ9_floorMod_7cf53 1 = .ok (.iload_n 1, 1) := by decide +kernel
theorem dJ9_floorMod_7cf53_2 : decode cJ9_floorMod_7cf53 2 = .ok (.irem, 1) := by decide +kernel
theorem dJ9_floorMod_7cf53_3 : decode cJ9_floorMod_7cf53 3 = .ok (.istore_n 2, 1) := by decide +kernel
theorem dJ9_floorMod_7cf53_4 : decode cJ9_floorMod_7cf53 4 = .ok (.iload_n 0, 1) := by decide +kernel
theorem dJ9_floorMod_7cf53_5 : decode cJ9_floorMod_7cf53 5 = .ok (.iload_n 1, 1) := by decide +kernel
theorem dJ9_floorMod_7cf53_6 : decode cJ9_floorMod_7cf53 6 = .ok (.ixor, 1) := by decide +kernel
theorem dJ9_floorMod_7cf53_7 : decode cJ9_floorMod_7cf53 7 = .ok (.ifCond .ge 11, 3) := by decide +kernel
theorem dJ9_floorMod_7cf53_10 : decode cJ9_floorMod_7cf53 10 = .ok (.iload_n 2, 1) := by decide +kernel
theorem dJ9_floorMod_7cf53_11 : decode cJ9_floorMod_7cf53 11 = .ok (.ifCond .eq 7, 3) := by decide +kernel
theorem dJ9_floorMod_7cf53_14 : decode cJ9_floorMod_7cf53 14 = .ok (.iload_n 2, 1) := by decide +kernel
theorem dJ9_floorMod_7cf53_15 : decode cJ9_floorMod_7cf53 15 = .ok (.iload_n 1, 1) := by decide +kernel
theorem dJ9_floorMod_7cf53_16 : decode cJ9_floorMod_7cf53 16 = .ok (.iadd, 1) := by decide +kernel
theorem dJ9_floorMod_7cf53_17 : decode cJ9_floorMod_7cf53 17 = .ok (.ireturn, 1) := by decide +kernel
theorem dJ9_floorMod_7cf53_18 : decode cJ9_floorMod_7cf53 18 = .ok (.iload_n 2, 1) := by decide +kernel
theorem dJ9_floorMod_7cf53_19 : decode cJ9_floorMod_7cf53 19 = .ok (.ireturn, 1) := by decide +kernel
theorem dJ9_max_7cf53_0 : decode cJ9_max_7cf53 0 = .ok (.iload_n 0, 1) := by decide +kernel
theorem dJ9_max_7cf53_1 : decode cJ9_max_7cf53 1 = .ok (.iload_n 1, 1) := by decide +kernel
theorem dJ9_max_7cf53_2 : decode cJ9_max_7cf53 2 = .ok (.if_icmp .lt 7, 3) := by decide +kernel
theorem dJ9_max_7cf53_5 : decode cJ9_max_7cf53 5 = .ok (.iload_n 0, 1) := by decide +kernel
theorem dJ9_max_7cf53_6 : decode cJ9_max_7cf53 6 = .ok (.goto 4, 3) := by decide +kernel
theorem dJ9_max_7cf53_9 : decode cJ9_max_7cf53 9 = .ok (.iload_n 1, 1) := by decide +kernel
theorem dJ9_max_7cf53_10 : decode cJ9_max_7cf53 10 = .ok (.ireturn, 1) := by decide +kernel
theorem dJ9_min_7cf53_0 : decode cJ9_min_7cf53 0 = .ok (.iload_n 0, 1) := by decide +kernel
theorem dJ9_min_7cf53_1 : decode cJ9_min_7cf53 1 = .ok (.iload_n 1, 1) := by decide +kernel
theorem dJ9_min_7cf53_2 : decode cJ9_min_7cf53 2 = .ok (.if_icmp .gt 7, 3) := by decide +kernel
theorem dJ9_min_7cf53_5 : decode cJ9_min_7cf53 5 = .ok (.iload_n 0, 1) := by decide +kernel
theorem dJ9_min_7cf53_6 : decode cJ9_min_7cf53 6 = .ok (.goto 4, 3) := by decide +kernel
theorem dJ9_min_7cf53_9 : decode cJ9_min_7cf53 9 = .ok (.iload_n 1, 1) := by decide +kernel
theorem dJ9_min_7cf53_10 : decode cJ9_min_7cf53 10 = .ok (.ireturn, 1) := by decide +kernel
theorem dJ0_length_8abf5_0 : decode cJ0_length_8abf5 0 = .ok (.aload_n 0, 1) := by decide +kernel
theorem dJ0_length_8abf5_1 : decode cJ0_length_8abf5 1 = .ok (.getfield 9, 3) := by decide +kernel
theorem dJ0_length_8abf5_4 : decode cJ0_length_8abf5 4 = .ok (.arraylength, 1) := by decide +kernel
theorem dJ0_length_8abf5_5 : decode cJ0_length_8abf5 5 = .ok (.aload_n 0, 1) := by decide +kernel
theorem dJ0_length_8abf5_6 : decode cJ0_length_8abf5 6 = .ok (.invokevirtual 335, 3) := by decide +kernel
theorem dJ0_length_8abf5_9 : decode cJ0_length_8abf5 9 = .ok (.ishr, 1) := by decide +kernel
theorem dJ0_length_8abf5_10 : decode cJ0_length_8abf5 10 = .ok (.ireturn, 1) := by decide +kernel
theorem dJ0_charAt_5068e_0 : decode cJ0_charAt_5068e 0 = .ok (.aload_n 0, 1) := by decide +kernel
theorem dJ0_charAt_5068e_1 : decode cJ0_charAt_5068e 1 = .ok (.invokevirtual 492, 3) := by decide +kernel
theorem dJ0_charAt_5068e_4 : decode cJ0_charAt_5068e 4 = .ok (.ifCond .eq 12, 3) := by decide +kernel
theorem dJ0_charAt_5068e_7 : decode cJ0_charAt_5068e 7 = .ok (.aload_n 0, 1) := by decide +kernel
theorem dJ0_charAt_5068e_8 : decode cJ0_charAt_5068e 8 = .ok (.getfield 9, 3) := by decide +kernel
theorem dJ0_charAt_5068e_11 : decode cJ0_charAt_5068e 11 = .ok (.iload_n 1, 1) := by decide +kernel
theorem dJ0_charAt_5068e_12 : decode cJ0_charAt_5068e 12 = .ok (.invokestatic 495, 3) := by decide +kernel
theorem dJ0_charAt_5068e_15 : decode cJ0_charAt_5068e 15 = .ok (.ireturn, 1) := by decide +kernel
theorem dJ0_charAt_5068e_16 : decode cJ0_charAt_5068e 16 = .ok (.aload_n 0, 1) := by decide +kernel
theorem dJ0_charAt_5068e_17 : decode cJ0_charAt_5068e 17 = .ok (.getfield 9, 3) := by decide +kernel
theorem dJ0_charAt_5068e_20 : decode cJ0_charAt_5068e 20 = .ok (.iload_n 1, 1) := by decide +kernel
theorem dJ0_charAt_5068e_21 : decode cJ0_charAt_5068e 21 = .ok (.invokestatic 498, 3) := by decide +kernel
theorem dJ0_charAt_5068e_24 : decode cJ0_charAt_5068e 24 = .ok (.ireturn, 1) := by decide +kernel
theorem dJ0_coder_7d493_0 : decode cJ0_coder_7d493 0 = .ok (.getstatic 38, 3) := by decide +kernel
theorem dJ0_coder_7d493_3 : decode cJ0_coder_7d493 3 = .ok (.ifCond .eq 10, 3) := by decide +kernel
theorem dJ0_coder_7d493_6 : decode cJ0_coder_7d493 6 = .ok (.aload_n 0, 1) := by decide +kernel
theorem dJ0_coder_7d493_7 : decode cJ0_coder_7d493 7 = .ok (.getfield 15, 3) := by decide +kernel
theorem dJ0_coder_7d493_10 : decode cJ0_coder_7d493 10 = .ok (.goto 4, 3) := by decide +kernel
theorem dJ0_coder_7d493_13 : decode cJ0_coder_7d493 13 = .ok (.iconst 1, 1) := by decide +kernel
theorem dJ0_coder_7d493_14 : decode cJ0_coder_7d493 14 = .ok (.ireturn, 1) := by decide +kernel
theorem dJ0_isLatin1_aae02_0 : decode cJ0_isLatin1_aae02 0 = .ok (.getstatic 38, 3) := by decide +kernel
theorem dJ0_isLatin1_aae02_3 : decode cJ0_isLatin1_aae02 3 = .ok (.ifCond .eq 14, 3) := by decide +kernel
theorem dJ0_isLatin1_aae02_6 : decode cJ0_isLatin1_aae02 6 = .ok (.aload_n 0, 1) := by decide +kernel
theorem dJ0_isLatin1_aae02_7 : decode cJ0_isLatin1_aae02 7 = .ok (.getfield 15, 3) := by decide +kernel
theorem dJ0_isLatin1_aae02_10 : decode cJ0_isLatin1_aae02 10 = .ok (.ifCond .ne 7, 3) := by decide +kernel
theorem dJ0_isLatin1_aae02_13 : decode cJ0_isLatin1_aae02 13 = .ok (.iconst 1, 1) := by decide +kernel
theorem dJ0_isLatin1_aae02_14 : decode cJ0_isLatin1_aae02 14 = .ok (.goto 4, 3) := by decide +kernel
theorem dJ0_isLatin1_aae02_17 : decode cJ0_isLatin1_aae02 17 = .ok (.iconst 0, 1) := by decide +kernel
theorem dJ0_isLatin1_aae02_18 : decode cJ0_isLatin1_aae02 18 = .ok (.ireturn, 1) := by decide +kernel
theorem dJ0_checkIndex_df160_0 : decode cJ0_checkIndex_df160 0 = .ok (.iload_n 0, 1) := by decide +kernel
theorem dJ0_checkIndex_df160_1 : decode cJ0_checkIndex_df160 1 = .ok (.iload_n 1, 1) := by decide +kernel
theorem dJ0_checkIndex_df160_2 : decode cJ0_checkIndex_df160 2 = .ok (.getstatic 1053, 3) := by decide +kernel
theorem dJ0_checkIndex_df160_5 : decode cJ0_checkIndex_df160 5 = .ok (.invokestatic 1059, 3) := by decide +kernel
theorem dJ0_checkIndex_df160_8 : decode cJ0_checkIndex_df160 8 = .ok (.pop, 1) := by decide +kernel
theorem dJ0_checkIndex_df160_9 : decode cJ0_checkIndex_df160 9 = .ok (.return_, 1) := by decide +kernel
theorem dJ1_charAt_3b067_0 : decode cJ1_charAt_3b067 0 = .ok (.iload_n 1, 1) := by decide +kernel
theorem dJ1_charAt_3b067_1 : decode cJ1_charAt_3b067 1 = .ok (.aload_n 0, 1) := by decide +kernel
theorem dJ1_charAt_3b067_2 : decode cJ1_charAt_3b067 2 = .ok (.arraylength, 1) := by decide +kernel
theorem dJ1_charAt_3b067_3 : decode cJ1_charAt_3b067 3 = .ok (.invokestatic 9, 3) := by decide +kernel
theorem dJ1_charAt_3b067_6 : decode cJ1_charAt_3b067 6 = .ok (.aload_n 0, 1) := by decide +kernel
theorem dJ1_charAt_3b067_7 : decode cJ1_charAt_3b067 7 = .ok (.iload_n 1, 1) := by decide +kernel
theorem dJ1_charAt_3b067_8 : decode cJ1_charAt_3b067 8 = .ok (.baload, 1) := by decide +kernel
theorem dJ1_charAt_3b067_9 : decode cJ1_charAt_3b067 9 = .ok (.sipush 255, 3) := by decide +kernel
theorem dJ1_charAt_3b067_12 : decode cJ1_charAt_3b067 12 = .ok (.iand, 1) := by decide +kernel
theorem dJ1_charAt_3b067_13 : decode cJ1_charAt_3b067 13 = .ok (.i2c, 1) := by decide +kernel
theorem dJ1_charAt_3b067_14 : decode cJ1_charAt_3b067 14 = .ok (.ireturn, 1) := by decide +kernel
theorem dJ2_getChar_3b067_0 : decode cJ2_getChar_3b067 0 = .ok (.getstatic 44, 3) := by decide +kernel
theorem dJ2_getChar_3b067_3 : decode cJ2_getChar_3b067 3 = .ok (.ifCond .ne 25, 3) := by decide +kernel
theorem dJ2_getChar_3b067_6 : decode cJ2_getChar_3b067 6 = .ok (.iload_n 1, 1) := by decide +kernel
theorem dJ2_getChar_3b067_7 : decode cJ2_getChar_3b067 7 = .ok (.ifCond .lt 11, 3) := by decide +kernel
theorem dJ2_getChar_3b067_10 : decode cJ2_getChar_3b067 10 = .ok (.iload_n 1, 1) := by decide +kernel
theorem dJ2_getChar_3b067_11 : decode cJ2_getChar_3b067 11 = .ok (.aload_n 0, 1) := by decide +kernel
theorem dJ2_getChar_3b067_12 : decode cJ2_getChar_3b067 12 = .ok (.invokestatic 48, 3) := by decide +kernel
theorem dJ2_getChar_3b067_15 : decode cJ2_getChar_3b067 15 = .ok (.if_icmp .lt 13, 3) := by decide +kernel
theorem dJ2_getChar_3b067_18 : decode cJ2_getChar_3b067 18 = .ok (.new 52, 3) := by decide +kernel
theorem dJ2_getChar_3b067_21 : decode cJ2_getChar_3b067 21 = .ok (.dup, 1) := by decide +kernel
theorem dJ2_getChar_3b067_22 : decode cJ2_getChar_3b067 22 = .ok (.ldc 54, 2) := by decide +kernel
theorem dJ2_getChar_3b067_24 : decode cJ2_getChar_3b067 24 = .ok (.invokespecial 56, 3) := by decide +kernel
theorem dJ2_getChar_3b067_27 : decode cJ2_getChar_3b067 27 = .ok (.athrow, 1) := by decide +kernel
theorem dJ2_getChar_3b067_28 : decode cJ2_getChar_3b067 28 = .ok (.iload_n 1, 1) := by decide +kernel
theorem dJ2_getChar_3b067_29 : decode cJ2_getChar_3b067 29 = .ok (.iconst 1, 1) := by decide +kernel
theorem dJ2_getChar_3b067_30 : decode cJ2_getChar_3b067 30 = .ok (.ishl, 1) := by decide +kernel
theorem dJ2_getChar_3b067_31 : decode cJ2_getChar_3b067 31 = .ok (.istore_n 1, 1) := by decide +kernel
theorem dJ2_getChar_3b067_32 : decode cJ2_getChar_3b067 32 = .ok (.aload_n 0, 1) := by decide +kernel
theorem dJ2_getChar_3b067_33 : decode cJ2_getChar_3b067 33 = .ok (.iload_n 1, 1) := by decide +kernel
theorem dJ2_getChar_3b067_34 : decode cJ2_getChar_3b067 34 = .ok (.iinc 1 1, 3) := by decide +kernel
theorem dJ2_getChar_3b067_37 : decode cJ2_getChar_3b067 37 = .ok (.baload, 1) := by decide +kernel
theorem dJ2_getChar_3b067_38 : decode cJ2_getChar_3b067 38 = .ok (.sipush 255, 3) := by decide +kernel
theorem dJ2_getChar_3b067_41 : decode cJ2_getChar_3b067 41 = .ok (.iand, 1) := by decide +kernel
theorem dJ2_getChar_3b067_42 : decode cJ2_getChar_3b067 42 = .ok (.getstatic 59, 3) := by decide +kernel
theorem dJ2_getChar_3b067_45 : decode cJ2_getChar_3b067 45 = .ok (.ishl, 1) := by decide +kernel
theorem dJ2_getChar_3b067_46 : decode cJ2_getChar_3b067 46 = .ok (.aload_n 0, 1) := by decide +kernel
theorem dJ2_getChar_3b067_47 : decode cJ2_getChar_3b067 47 = .ok (.iload_n 1, 1) := by decide +kernel
theorem dJ2_getChar_3b067_48 : decode cJ2_getChar_3b067 48 = .ok (.baload, 1) := by decide +kernel
theorem dJ2_getChar_3b067_49 : decode cJ2_getChar_3b067 49 = .ok (.sipush 255, 3) := by decide +kernel
theorem dJ2_getChar_3b067_52 : decode cJ2_getChar_3b067 52 = .ok (.iand, 1) := by decide +kernel
theorem dJ2_getChar_3b067_53 : decode cJ2_getChar_3b067 53 = .ok (.getstatic 63, 3) := by decide +kernel
theorem dJ2_getChar_3b067_56 : decode cJ2_getChar_3b067 56 = .ok (.ishl, 1) := by decide +kernel
theorem dJ2_getChar_3b067_57 : decode cJ2_getChar_3b067 57 = .ok (.ior, 1) := by decide +kernel
theorem dJ2_getChar_3b067_58 : decode cJ2_getChar_3b067 58 = .ok (.i2c, 1) := by decide +kernel
theorem dJ2_getChar_3b067_59 : decode cJ2_getChar_3b067 59 = .ok (.ireturn, 1) := by decide +kernel
theorem dJ2_length_9d52b_0 : decode cJ2_length_9d52b 0 = .ok (.aload_n 0, 1) := by decide +kernel
theorem dJ2_length_9d52b_1 : decode cJ2_length_9d52b 1 = .ok (.arraylength, 1) := by decide +kernel
theorem dJ2_length_9d52b_2 : decode cJ2_length_9d52b 2 = .ok (.iconst 1, 1) := by decide +kernel
theorem dJ2_length_9d52b_3 : decode cJ2_length_9d52b 3 = .ok (.ishr, 1) := by decide +kernel
theorem dJ2_length_9d52b_4 : decode cJ2_length_9d52b 4 = .ok (.ireturn, 1) := by decide +kernel
theorem dJ2_charAt_3b067_0 : decode cJ2_charAt_3b067 0 = .ok (.iload_n 1, 1) := by decide +kernel
theorem dJ2_charAt_3b067_1 : decode cJ2_charAt_3b067 1 = .ok (.aload_n 0, 1) := by decide +kernel
theorem dJ2_charAt_3b067_2 : decode cJ2_charAt_3b067 2 = .ok (.invokestatic 67, 3) := by decide +kernel
theorem dJ2_charAt_3b067_5 : decode cJ2_charAt_3b067 5 = .ok (.aload_n 0, 1) := by decide +kernel
theorem dJ2_charAt_3b067_6 : decode cJ2_charAt_3b067 6 = .ok (.iload_n 1, 1) := by decide +kernel
theorem dJ2_charAt_3b067_7 : decode cJ2_charAt_3b067 7 = .ok (.invokestatic 71, 3) := by decide +kernel
theorem dJ2_charAt_3b067_10 : decode cJ2_charAt_3b067 10 = .ok (.ireturn, 1) := by decide +kernel
theorem dJ2_checkIndex_2214a_0 : decode cJ2_checkIndex_2214a 0 = .ok (.iload_n 0, 1) := by decide +kernel
theorem dJ2_checkIndex_2214a_1 : decode cJ2_checkIndex_2214a 1 = .ok (.aload_n 1, 1) := by decide +kernel
theorem dJ2_checkIndex_2214a_2 : decode cJ2_checkIndex_2214a 2 = .ok (.invokestatic 48, 3) := by decide +kernel
theorem dJ2_checkIndex_2214a_5 : decode cJ2_checkIndex_2214a 5 = .ok (.invokestatic 414, 3) := by decide +kernel
theorem dJ2_checkIndex_2214a_8 : decode cJ2_checkIndex_2214a 8 = .ok (.return_, 1) := by decide +kernel
theorem dJ3_checkIndex_8e157_0 : decode cJ3_checkIndex_8e157 0 = .ok (.iload_n 0, 1) := by decide +kernel
theorem dJ3_checkIndex_8e157_1 : decode cJ3_checkIndex_8e157 1 = .ok (.ifCond .lt 8, 3) := by decide +kernel
theorem dJ3_checkIndex_8e157_4 : decode cJ3_checkIndex_8e157 4 = .ok (.iload_n 0, 1) := by decide +kernel
theorem dJ3_checkIndex_8e157_5 : decode cJ3_checkIndex_8e157 5 = .ok (.iload_n 1, 1) := by decide +kernel
theorem dJ3_checkIndex_8e157_6 : decode cJ3_checkIndex_8e157 6 = .ok (.if_icmp .lt 10, 3) := by decide +kernel
theorem dJ3_checkIndex_8e157_9 : decode cJ3_checkIndex_8e157 9 = .ok (.aload_n 2, 1) := by decide +kernel
theorem dJ3_checkIndex_8e157_10 : decode cJ3_checkIndex_8e157 10 = .ok (.iload_n 0, 1) := by decide +kernel
theorem dJ3_checkIndex_8e157_11 : decode cJ3_checkIndex_8e157 11 = .ok (.iload_n 1, 1) := by decide +kernel
theorem dJ3_checkIndex_8e157_12 : decode cJ3_checkIndex_8e157 12 = .ok (.invokestatic 95, 3) := by decide +kernel
theorem dJ3_checkIndex_8e157_15 : decode cJ3_checkIndex_8e157 15 = .ok (.athrow, 1) := by decide +kernel
theorem dJ3_checkIndex_8e157_16 : decode cJ3_checkIndex_8e157 16 = .ok (.iload_n 0, 1) := by decide +kernel
theorem dJ3_checkIndex_8e157_17 : decode cJ3_checkIndex_8e157 17 = .ok (.ireturn, 1) := by decide +kernel
