theorem dX0_init_0 : decode cX0_init 0 = .ok (.aload_n 0, 1) := by decide +kernel
theorem dX0_init_1 : decode cX0_init 1 = .ok (.invokespecial 3, 3) := by decide +kernel
theorem dX0_init_4 : decode cX0_init 4 = .ok (.aload_n 0, 1) := by decide +kernel
theorem dX0_init_5 : decode cX0_init 5 = .ok (.sipush 315, 3) := by decide +kernel
theorem dX0_init_8 : decode cX0_init 8 = .ok (.newarray .int, 2) := by decide +kernel
theorem dX0_init_10 : decode cX0_init 10 = .ok (.putfield 9, 3) := by decide +kernel
theorem dX0_init_13 : decode cX0_init 13 = .ok (.aload_n 0, 1) := by decide +kernel
theorem dX0_init_14 : decode cX0_init 14 = .ok (.sipush 315, 3) := by decide +kernel
theorem dX0_init_17 : decode cX0_init 17 = .ok (.newarray .int, 2) := by decide +kernel
theorem dX0_init_19 : decode cX0_init 19 = .ok (.putfield 15, 3) := by decide +kernel
theorem dX0_init_22 : decode cX0_init 22 = .ok (.aload_n 0, 1) := by decide +kernel
theorem dX0_init_23 : decode cX0_init 23 = .ok (.sipush 2520, 3) := by decide +kernel
theorem dX0_init_26 : decode cX0_init 26 = .ok (.newarray .long, 2) := by decide +kernel
theorem dX0_init_28 : decode cX0_init 28 = .ok (.putfield 18, 3) := by decide +kernel
theorem dX0_init_31 : decode cX0_init 31 = .ok (.return_, 1) := by decide +kernel
theorem dX0_forget_0 : decode cX0_forget 0 = .ok (.aload_n 0, 1) := by decide +kernel
theorem dX0_forget_1 : decode cX0_forget 1 = .ok (.iconst 0, 1) := by decide +kernel
theorem dX0_forget_2 : decode cX0_forget 2 = .ok (.putfield 22, 3) := by decide +kernel
theorem dX0_forget_5 : decode cX0_forget 5 = .ok (.return_, 1) := by decide +kernel
theorem dX0_isSlot_0 : decode cX0_isSlot 0 = .ok (.iload_n 1, 1) := by decide +kernel
theorem dX0_isSlot_1 : decode cX0_isSlot 1 = .ok (.ifCond .lt 22, 3) := by decide +kernel
theorem dX0_isSlot_4 : decode cX0_isSlot 4 = .ok (.iload_n 1, 1) := by decide +kernel
theorem dX0_isSlot_5 : decode cX0_isSlot 5 = .ok (.aload_n 0, 1) := by decide +kernel
theorem dX0_isSlot_6 : decode cX0_isSlot 6 = .ok (.getfield 22, 3) := by decide +kernel
theorem dX0_isSlot_9 : decode cX0_isSlot 9 = .ok (.if_icmp .ge 14, 3) := by decide +kernel
theorem dX0_isSlot_12 : decode cX0_isSlot 12 = .ok (.iload_n 1, 1) := by decide +kernel
theorem dX0_isSlot_13 : decode cX0_isSlot 13 = .ok (.sipush 315, 3) := by decide +kernel
theorem dX0_isSlot_16 : decode cX0_isSlot 16 = .ok (.if_icmp .ge 7, 3) := by decide +kernel
theorem dX0_isSlot_19 : decode cX0_isSlot 19 = .ok (.iconst 1, 1) := by decide +kernel
theorem dX0_isSlot_20 : decode cX0_isSlot 20 = .ok (.goto 4, 3) := by decide +kernel
theorem dX0_isSlot_23 : decode cX0_isSlot 23 = .ok (.iconst 0, 1) := by decide +kernel
theorem dX0_isSlot_24 : decode cX0_isSlot 24 = .ok (.ireturn, 1) := by decide +kernel
theorem dX0_find_0 : decode cX0_find 0 = .ok (.iconst 0, 1) := by decide +kernel
theorem dX0_find_1 : decode cX0_find 1 = .ok (.istore_n 2, 1) := by decide +kernel
theorem dX0_find_2 : decode cX0_find 2 = .ok (.iload_n 2, 1) := by decide +kernel
theorem dX0_find_3 : decode cX0_find 3 = .ok (.aload_n 0, 1) := by decide +kernel
theorem dX0_find_4 : decode cX0_find 4 = .ok (.getfield 22, 3) := by decide +kernel
theorem dX0_find_7 : decode cX0_find 7 = .ok (.if_icmp .ge 28, 3) := by decide +kernel
theorem dX0_find_10 : decode cX0_find 10 = .ok (.iload_n 2, 1) := by decide +kernel
theorem dX0_find_11 : decode cX0_find 11 = .ok (.sipush 315, 3) := by decide +kernel
theorem dX0_find_14 : decode cX0_find 14 = .ok (.if_icmp .ge 21, 3) := by decide +kernel
theorem dX0_find_17 : decode cX0_find 17 = .ok (.aload_n 0, 1) := by decide +kernel
theorem dX0_find_18 : decode cX0_find 18 = .ok (.getfield 9, 3) := by decide +kernel
theorem dX0_find_21 : decode cX0_find 21 = .ok (.iload_n 2, 1) := by decide +kernel
theorem dX0_find_22 : decode cX0_find 22 = .ok (.iaload, 1) := by decide +kernel
theorem dX0_find_23 : decode cX0_find 23 = .ok (.iload_n 1, 1) := by decide +kernel
theorem dX0_find_24 : decode cX0_find 24 = .ok (.if_icmp .ne 5, 3) := by decide +kernel
theorem dX0_find_27 : decode cX0_find 27 = .ok (.iload_n 2, 1) := by decide +kernel
theorem dX0_find_28 : decode cX0_find 28 = .ok (.ireturn, 1) := by decide +kernel
theorem dX0_find_29 : decode cX0_find 29 = .ok (.iinc 2 1, 3) := by decide +kernel
theorem dX0_find_32 : decode cX0_find 32 = .ok (.goto (-30), 3) := by decide +kernel
theorem dX0_find_35 : decode cX0_find 35 = .ok (.iconst (-1), 1) := by decide +kernel
theorem dX0_find_36 : decode cX0_find 36 = .ok (.ireturn, 1) := by decide +kernel
theorem dX0_numberIn_0 : decode cX0_numberIn 0 = .ok (.aload_n 0, 1) := by decide +kernel
theorem dX0_numberIn_1 : decode cX0_numberIn 1 = .ok (.iload_n 1, 1) := by decide +kernel
theorem dX0_numberIn_2 : decode cX0_numberIn 2 = .ok (.invokevirtual 26, 3) := by decide +kernel
theorem dX0_numberIn_5 : decode cX0_numberIn 5 = .ok (.ifCond .eq 12, 3) := by decide +kernel
theorem dX0_numberIn_8 : decode cX0_numberIn 8 = .ok (.aload_n 0, 1) := by decide +kernel
theorem dX0_numberIn_9 : decode cX0_numberIn 9 = .ok (.getfield 9, 3) := by decide +kernel
theorem dX0_numberIn_12 : decode cX0_numberIn 12 = .ok (.iload_n 1, 1) := by decide +kernel
theorem dX0_numberIn_13 : decode cX0_numberIn 13 = .ok (.iaload, 1) := by decide +kernel
theorem dX0_numberIn_14 : decode cX0_numberIn 14 = .ok (.goto 4, 3) := by decide +kernel
theorem dX0_numberIn_17 : decode cX0_numberIn 17 = .ok (.iconst (-1), 1) := by decide +kernel
theorem dX0_numberIn_18 : decode cX0_numberIn 18 = .ok (.ireturn, 1) := by decide +kernel
theorem dX0_namesOf_0 : decode cX0_namesOf 0 = .ok (.aload_n 0, 1) := by decide +kernel
theorem dX0_namesOf_1 : decode cX0_namesOf 1 = .ok (.iload_n 1, 1) := by decide +kernel
theorem dX0_namesOf_2 : decode cX0_namesOf 2 = .ok (.invokevirtual 26, 3) := by decide +kernel
theorem dX0_namesOf_5 : decode cX0_namesOf 5 = .ok (.ifCond .eq 12, 3) := by decide +kernel
theorem dX0_namesOf_8 : decode cX0_namesOf 8 = .ok (.aload_n 0, 1) := by decide +kernel
theorem dX0_namesOf_9 : decode cX0_namesOf 9 = .ok (.getfield 15, 3) := by decide +kernel
theorem dX0_namesOf_12 : decode cX0_namesOf 12 = .ok (.iload_n 1, 1) := by decide +kernel
theorem dX0_namesOf_13 : decode cX0_namesOf 13 = .ok (.iaload, 1) := by decide +kernel
theorem dX0_namesOf_14 : decode cX0_namesOf 14 = .ok (.goto 4, 3) := by decide +kernel
theorem dX0_namesOf_17 : decode cX0_namesOf 17 = .ok (.iconst 0, 1) := by decide +kernel
theorem dX0_namesOf_18 : decode cX0_namesOf 18 = .ok (.ireturn, 1) := by decide +kernel
theorem dX0_addName_0 : decode cX0_addName 0 = .ok (.aload_n 0, 1) := by decide +kernel
theorem dX0_addName_1 : decode cX0_addName 1 = .ok (.iload_n 1, 1) := by decide +kernel
theorem dX0_addName_2 : decode cX0_addName 2 = .ok (.invokevirtual 26, 3) := by decide +kernel
theorem dX0_addName_5 : decode cX0_addName 5 = .ok (.ifCond .eq 13, 3) := by decide +kernel
theorem dX0_addName_8 : decode cX0_addName 8 = .ok (.aload_n 0, 1) := by decide +kernel
theorem dX0_addName_9 : decode cX0_addName 9 = .ok (.getfield 15, 3) := by decide +kernel
theorem dX0_addName_12 : decode cX0_addName 12 = .ok (.iload_n 1, 1) := by decide +kernel
theorem dX0_addName_13 : decode cX0_addName 13 = .ok (.dup2, 1) := by decide +kernel
theorem dX0_addName_14 : decode cX0_addName 14 = .ok (.iaload, 1) := by decide +kernel
theorem dX0_addName_15 : decode cX0_addName 15 = .ok (.iload_n 2, 1) := by decide +kernel
theorem dX0_addName_16 : decode cX0_addName 16 = .ok (.iadd, 1) := by decide +kernel
theorem dX0_addName_17 : decode cX0_addName 17 = .ok (.iastore, 1) := by decide +kernel
theorem dX0_addName_18 : decode cX0_addName 18 = .ok (.return_, 1) := by decide +kernel
theorem dX0_edgesOf_0 : decode cX0_edgesOf 0 = .ok (.aload_n 0, 1) := by decide +kernel
theorem dX0_edgesOf_1 : decode cX0_edgesOf 1 = .ok (.iload_n 1, 1) := by decide +kernel
theorem dX0_edgesOf_2 : decode cX0_edgesOf 2 = .ok (.invokevirtual 26, 3) := by decide +kernel
theorem dX0_edgesOf_5 : decode cX0_edgesOf 5 = .ok (.ifCond .eq 27, 3) := by decide +kernel
theorem dX0_edgesOf_8 : decode cX0_edgesOf 8 = .ok (.iload_n 2, 1) := by decide +kernel
theorem dX0_edgesOf_9 : decode cX0_edgesOf 9 = .ok (.ifCond .lt 23, 3) := by decide +kernel
theorem dX0_edgesOf_12 : decode cX0_edgesOf 12 = .ok (.iload_n 2, 1) := by decide +kernel
theorem dX0_edgesOf_13 : decode cX0_edgesOf 13 = .ok (.bipush 8, 2) := by decide +kernel
theorem dX0_edgesOf_15 : decode cX0_edgesOf 15 = .ok (.if_icmp .ge 17, 3) := by decide +kernel
theorem dX0_edgesOf_18 : decode cX0_edgesOf 18 = .ok (.aload_n 0, 1) := by decide +kernel
theorem dX0_edgesOf_19 : decode cX0_edgesOf 19 = .ok (.getfield 18, 3) := by decide +kernel
theorem dX0_edgesOf_22 : decode cX0_edgesOf 22 = .ok (.iload_n 1, 1) := by decide +kernel
theorem dX0_edgesOf_23 : decode cX0_edgesOf 23 = .ok (.bipush 8, 2) := by decide +kernel
theorem dX0_edgesOf_25 : decode cX0_edgesOf 25 = .ok (.imul, 1) := by decide +kernel
theorem dX0_edgesOf_26 : decode cX0_edgesOf 26 = .ok (.iload_n 2, 1) := by decide +kernel
theorem dX0_edgesOf_27 : decode cX0_edgesOf 27 = .ok (.iadd, 1) := by decide +kernel
theorem dX0_edgesOf_28 : decode cX0_edgesOf 28 = .ok (.laload, 1) := by decide +kernel
theorem dX0_edgesOf_29 : decode cX0_edgesOf 29 = .ok (.goto 4, 3) := by decide +kernel
theorem dX0_edgesOf_32 : decode cX0_edgesOf 32 = .ok (.lconst 0, 1) := by decide +kernel
theorem dX0_edgesOf_33 : decode cX0_edgesOf 33 = .ok (.lreturn, 1) := by decide +kernel
theorem dX0_take_0 : decode cX0_take 0 = .ok (.aload_n 0, 1) := by decide +kernel
theorem dX0_take_1 : decode cX0_take 1 = .ok (.iload_n 1, 1) := by decide +kernel
theorem dX0_take_2 : decode cX0_take 2 = .ok (.invokevirtual 30, 3) := by decide +kernel
theorem dX0_take_5 : decode cX0_take 5 = .ok (.istore 4, 2) := by decide +kernel
theorem dX0_take_7 : decode cX0_take 7 = .ok (.iload 4, 2) := by decide +kernel
theorem dX0_take_9 : decode cX0_take 9 = .ok (.iconst (-1), 1) := by decide +kernel
theorem dX0_take_10 : decode cX0_take 10 = .ok (.if_icmp .ne 10, 3) := by decide +kernel
theorem dX0_take_13 : decode cX0_take 13 = .ok (.aload_n 0, 1) := by decide +kernel
theorem dX0_take_14 : decode cX0_take 14 = .ok (.iload_n 1, 1) := by decide +kernel
theorem dX0_take_15 : decode cX0_take 15 = .ok (.invokevirtual 34, 3) := by decide +kernel
theorem dX0_take_18 : decode cX0_take 18 = .ok (.istore 4, 2) := by decide +kernel
theorem dX0_take_20 : decode cX0_take 20 = .ok (.iconst 0, 1) := by decide +kernel
theorem dX0_take_21 : decode cX0_take 21 = .ok (.istore 5, 2) := by decide +kernel
theorem dX0_take_23 : decode cX0_take 23 = .ok (.iload 5, 2) := by decide +kernel
theorem dX0_take_25 : decode cX0_take 25 = .ok (.bipush 8, 2) := by decide +kernel
theorem dX0_take_27 : decode cX0_take 27 = .ok (.if_icmp .ge 44, 3) := by decide +kernel
theorem dX0_take_30 : decode cX0_take 30 = .ok (.aload_n 0, 1) := by decide +kernel
theorem dX0_take_31 : decode cX0_take 31 = .ok (.iload 4, 2) := by decide +kernel
theorem dX0_take_33 : decode cX0_take 33 = .ok (.invokevirtual 26, 3) := by decide +kernel
theorem dX0_take_36 : decode cX0_take 36 = .ok (.ifCond .eq 35, 3) := by decide +kernel
theorem dX0_take_39 : decode cX0_take 39 = .ok (.aload_n 0, 1) := by decide +kernel
theorem dX0_take_40 : decode cX0_take 40 = .ok (.getfield 18, 3) := by decide +kernel
theorem dX0_take_43 : decode cX0_take 43 = .ok (.iload 4, 2) := by decide +kernel
theorem dX0_take_45 : decode cX0_take 45 = .ok (.bipush 8, 2) := by decide +kernel
theorem dX0_take_47 : decode cX0_take 47 = .ok (.imul, 1) := by decide +kernel
theorem dX0_take_48 : decode cX0_take 48 = .ok (.iload 5, 2) := by decide +kernel
theorem dX0_take_50 : decode cX0_take 50 = .ok (.iadd, 1) := by decide +kernel
theorem dX0_take_51 : decode cX0_take 51 = .ok (.aload_n 2, 1) := by decide +kernel
theorem dX0_take_52 : decode cX0_take 52 = .ok (.iload_n 3, 1) := by decide +kernel
theorem dX0_take_53 : decode cX0_take 53 = .ok (.bipush 8, 2) := by decide +kernel
theorem dX0_take_55 : decode cX0_take 55 = .ok (.iload 5, 2) := by decide +kernel
theorem dX0_take_57 : decode cX0_take 57 = .ok (.imul, 1) := by decide +kernel
theorem dX0_take_58 : decode cX0_take 58 = .ok (.iadd, 1) := by decide +kernel
theorem dX0_take_59 : decode cX0_take 59 = .ok (.bipush 8, 2) := by decide +kernel
theorem dX0_take_61 : decode cX0_take 61 = .ok (.invokevirtual 37, 3) := by decide +kernel
theorem dX0_take_64 : decode cX0_take 64 = .ok (.lastore, 1) := by decide +kernel
theorem dX0_take_65 : decode cX0_take 65 = .ok (.iinc 5 1, 3) := by decide +kernel
theorem dX0_take_68 : decode cX0_take 68 = .ok (.goto (-45), 3) := by decide +kernel
theorem dX0_take_71 : decode cX0_take 71 = .ok (.return_, 1) := by decide +kernel
theorem dX0_addSlot_0 : decode cX0_addSlot 0 = .ok (.aload_n 0, 1) := by decide +kernel
theorem dX0_addSlot_1 : decode cX0_addSlot 1 = .ok (.getfield 22, 3) := by decide +kernel
theorem dX0_addSlot_4 : decode cX0_addSlot 4 = .ok (.ifCond .lt 13, 3) := by decide +kernel
theorem dX0_addSlot_7 : decode cX0_addSlot 7 = .ok (.aload_n 0, 1) := by decide +kernel
theorem dX0_addSlot_8 : decode cX0_addSlot 8 = .ok (.getfield 22, 3) := by decide +kernel
theorem dX0_addSlot_11 : decode cX0_addSlot 11 = .ok (.sipush 315, 3) := by decide +kernel
theorem dX0_addSlot_14 : decode cX0_addSlot 14 = .ok (.if_icmp .lt 5, 3) := by decide +kernel
theorem dX0_addSlot_17 : decode cX0_addSlot 17 = .ok (.iconst (-1), 1) := by decide +kernel
theorem dX0_addSlot_18 : decode cX0_addSlot 18 = .ok (.ireturn, 1) := by decide +kernel
theorem dX0_addSlot_19 : decode cX0_addSlot 19 = .ok (.aload_n 0, 1) := by decide +kernel
theorem dX0_addSlot_20 : decode cX0_addSlot 20 = .ok (.getfield 9, 3) := by decide +kernel
theorem dX0_addSlot_23 : decode cX0_addSlot 23 = .ok (.aload_n 0, 1) := by decide +kernel
theorem dX0_addSlot_24 : decode cX0_addSlot 24 = .ok (.getfield 22, 3) := by decide +kernel
theorem dX0_addSlot_27 : decode cX0_addSlot 27 = .ok (.iload_n 1, 1) := by decide +kernel
theorem dX0_addSlot_28 : decode cX0_addSlot 28 = .ok (.iastore, 1) := by decide +kernel
theorem dX0_addSlot_29 : decode cX0_addSlot 29 = .ok (.aload_n 0, 1) := by decide +kernel
theorem dX0_addSlot_30 : decode cX0_addSlot 30 = .ok (.getfield 15, 3) := by decide +kernel
theorem dX0_addSlot_33 : decode cX0_addSlot 33 = .ok (.aload_n 0, 1) := by decide +kernel
theorem dX0_addSlot_34 : decode cX0_addSlot 34 = .ok (.getfield 22, 3) := by decide +kernel
theorem dX0_addSlot_37 : decode cX0_addSlot 37 = .ok (.iconst 0, 1) := by decide +kernel
theorem dX0_addSlot_38 : decode cX0_addSlot 38 = .ok (.iastore, 1) := by decide +kernel
theorem dX0_addSlot_39 : decode cX0_addSlot 39 = .ok (.aload_n 0, 1) := by decide +kernel
theorem dX0_addSlot_40 : decode cX0_addSlot 40 = .ok (.dup, 1) := by decide +kernel
theorem dX0_addSlot_41 : decode cX0_addSlot 41 = .ok (.getfield 22, 3) := by decide +kernel
theorem dX0_addSlot_44 : decode cX0_addSlot 44 = .ok (.iconst 1, 1) := by decide +kernel
theorem dX0_addSlot_45 : decode cX0_addSlot 45 = .ok (.iadd, 1) := by decide +kernel
theorem dX0_addSlot_46 : decode cX0_addSlot 46 = .ok (.putfield 22, 3) := by decide +kernel
theorem dX0_addSlot_49 : decode cX0_addSlot 49 = .ok (.aload_n 0, 1) := by decide +kernel
theorem dX0_addSlot_50 : decode cX0_addSlot 50 = .ok (.getfield 22, 3) := by decide +kernel
theorem dX0_addSlot_53 : decode cX0_addSlot 53 = .ok (.iconst 1, 1) := by decide +kernel
theorem dX0_addSlot_54 : decode cX0_addSlot 54 = .ok (.isub, 1) := by decide +kernel
theorem dX0_addSlot_55 : decode cX0_addSlot 55 = .ok (.ireturn, 1) := by decide +kernel
theorem dX0_countNamed_0 : decode cX0_countNamed 0 = .ok (.iconst 0, 1) := by decide +kernel
theorem dX0_countNamed_1 : decode cX0_countNamed 1 = .ok (.istore_n 1, 1) := by decide +kernel
theorem dX0_countNamed_2 : decode cX0_countNamed 2 = .ok (.iconst 0, 1) := by decide +kernel
theorem dX0_countNamed_3 : decode cX0_countNamed 3 = .ok (.istore_n 2, 1) := by decide +kernel
theorem dX0_countNamed_4 : decode cX0_countNamed 4 = .ok (.iload_n 2, 1) := by decide +kernel
theorem dX0_countNamed_5 : decode cX0_countNamed 5 = .ok (.aload_n 0, 1) := by decide +kernel
theorem dX0_countNamed_6 : decode cX0_countNamed 6 = .ok (.getfield 22, 3) := by decide +kernel
theorem dX0_countNamed_9 : decode cX0_countNamed 9 = .ok (.if_icmp .ge 20, 3) := by decide +kernel
theorem dX0_countNamed_12 : decode cX0_countNamed 12 = .ok (.aload_n 0, 1) := by decide +kernel
theorem dX0_countNamed_13 : decode cX0_countNamed 13 = .ok (.iload_n 2, 1) := by decide +kernel
theorem dX0_countNamed_14 : decode cX0_countNamed 14 = .ok (.invokevirtual 43, 3) := by decide +kernel
theorem dX0_countNamed_17 : decode cX0_countNamed 17 = .ok (.ifCond .le 6, 3) := by decide +kernel
theorem dX0_countNamed_20 : decode cX0_countNamed 20 = .ok (.iinc 1 1, 3) := by decide +kernel
theorem dX0_countNamed_23 : decode cX0_countNamed 23 = .ok (.iinc 2 1, 3) := by decide +kernel
theorem dX0_countNamed_26 : decode cX0_countNamed 26 = .ok (.goto (-22), 3) := by decide +kernel
theorem dX0_countNamed_29 : decode cX0_countNamed 29 = .ok (.iload_n 1, 1) := by decide +kernel
theorem dX0_countNamed_30 : decode cX0_countNamed 30 = .ok (.ireturn, 1) := by decide +kernel
theorem dX0_namedAlike_0 : decode cX0_namedAlike 0 = .ok (.iconst (-1), 1) := by decide +kernel
theorem dX0_namedAlike_1 : decode cX0_namedAlike 1 = .ok (.istore_n 3, 1) := by decide +kernel
theorem dX0_namedAlike_2 : decode cX0_namedAlike 2 = .ok (.iconst 0, 1) := by decide +kernel
theorem dX0_namedAlike_3 : decode cX0_namedAlike 3 = .ok (.istore 4, 2) := by decide +kernel
theorem dX0_namedAlike_5 : decode cX0_namedAlike 5 = .ok (.iload 4, 2) := by decide +kernel
theorem dX0_namedAlike_7 : decode cX0_namedAlike 7 = .ok (.aload_n 0, 1) := by decide +kernel
theorem dX0_namedAlike_8 : decode cX0_namedAlike 8 = .ok (.getfield 22, 3) := by decide +kernel
theorem dX0_namedAlike_11 : decode cX0_namedAlike 11 = .ok (.if_icmp .ge 51, 3) := by decide +kernel
theorem dX0_namedAlike_14 : decode cX0_namedAlike 14 = .ok (.aload_n 0, 1) := by decide +kernel
theorem dX0_namedAlike_15 : decode cX0_namedAlike 15 = .ok (.iload 4, 2) := by decide +kernel
theorem dX0_namedAlike_17 : decode cX0_namedAlike 17 = .ok (.invokevirtual 46, 3) := by decide +kernel
theorem dX0_namedAlike_20 : decode cX0_namedAlike 20 = .ok (.istore 5, 2) := by decide +kernel
theorem dX0_namedAlike_22 : decode cX0_namedAlike 22 = .ok (.aload_n 0, 1) := by decide +kernel
theorem dX0_namedAlike_23 : decode cX0_namedAlike 23 = .ok (.iload 4, 2) := by decide +kernel
theorem dX0_namedAlike_25 : decode cX0_namedAlike 25 = .ok (.invokevirtual 43, 3) := by decide +kernel
theorem dX0_namedAlike_28 : decode cX0_namedAlike 28 = .ok (.ifCond .le 28, 3) := by decide +kernel
theorem dX0_namedAlike_31 : decode cX0_namedAlike 31 = .ok (.iload_n 3, 1) := by decide +kernel
theorem dX0_namedAlike_32 : decode cX0_namedAlike 32 = .ok (.iconst (-1), 1) := by decide +kernel
theorem dX0_namedAlike_33 : decode cX0_namedAlike 33 = .ok (.if_icmp .eq 9, 3) := by decide +kernel
theorem dX0_namedAlike_36 : decode cX0_namedAlike 36 = .ok (.iload 5, 2) := by decide +kernel
theorem dX0_namedAlike_38 : decode cX0_namedAlike 38 = .ok (.iload_n 3, 1) := by decide +kernel
theorem dX0_namedAlike_39 : decode cX0_namedAlike 39 = .ok (.if_icmp .ge 17, 3) := by decide +kernel
theorem dX0_namedAlike_42 : decode cX0_namedAlike 42 = .ok (.aload_n 0, 1) := by decide +kernel
theorem dX0_namedAlike_43 : decode cX0_namedAlike 43 = .ok (.iload 4, 2) := by decide +kernel
theorem dX0_namedAlike_45 : decode cX0_namedAlike 45 = .ok (.aload_n 1, 1) := by decide +kernel
theorem dX0_namedAlike_46 : decode cX0_namedAlike 46 = .ok (.iload_n 2, 1) := by decide +kernel
theorem dX0_namedAlike_47 : decode cX0_namedAlike 47 = .ok (.invokevirtual 49, 3) := by decide +kernel
theorem dX0_namedAlike_50 : decode cX0_namedAlike 50 = .ok (.ifCond .eq 6, 3) := by decide +kernel
theorem dX0_namedAlike_53 : decode cX0_namedAlike 53 = .ok (.iload 5, 2) := by decide +kernel
theorem dX0_namedAlike_55 : decode cX0_namedAlike 55 = .ok (.istore_n 3, 1) := by decide +kernel
theorem dX0_namedAlike_56 : decode cX0_namedAlike 56 = .ok (.iinc 4 1, 3) := by decide +kernel
theorem dX0_namedAlike_59 : decode cX0_namedAlike 59 = .ok (.goto (-54), 3) := by decide +kernel
theorem dX0_namedAlike_62 : decode cX0_namedAlike 62 = .ok (.iload_n 3, 1) := by decide +kernel
theorem dX0_namedAlike_63 : decode cX0_namedAlike 63 = .ok (.ireturn, 1) := by decide +kernel
theorem dX0_isAlike_0 : decode cX0_isAlike 0 = .ok (.iconst 0, 1) := by decide +kernel
theorem dX0_isAlike_1 : decode cX0_isAlike 1 = .ok (.istore 4, 2) := by decide +kernel
theorem dX0_isAlike_3 : decode cX0_isAlike 3 = .ok (.iload 4, 2) := by decide +kernel
theorem dX0_isAlike_5 : decode cX0_isAlike 5 = .ok (.bipush 8, 2) := by decide +kernel
theorem dX0_isAlike_7 : decode cX0_isAlike 7 = .ok (.if_icmp .ge 33, 3) := by decide +kernel
theorem dX0_isAlike_10 : decode cX0_isAlike 10 = .ok (.aload_n 0, 1) := by decide +kernel
theorem dX0_isAlike_11 : decode cX0_isAlike 11 = .ok (.iload_n 1, 1) := by decide +kernel
theorem dX0_isAlike_12 : decode cX0_isAlike 12 = .ok (.iload 4, 2) := by decide +kernel
theorem dX0_isAlike_14 : decode cX0_isAlike 14 = .ok (.invokevirtual 53, 3) := by decide +kernel
theorem dX0_isAlike_17 : decode cX0_isAlike 17 = .ok (.aload_n 2, 1) := by decide +kernel
theorem dX0_isAlike_18 : decode cX0_isAlike 18 = .ok (.iload_n 3, 1) := by decide +kernel
theorem dX0_isAlike_19 : decode cX0_isAlike 19 = .ok (.bipush 8, 2) := by decide +kernel
theorem dX0_isAlike_21 : decode cX0_isAlike 21 = .ok (.imul, 1) := by decide +kernel
theorem dX0_isAlike_22 : decode cX0_isAlike 22 = .ok (.iload 4, 2) := by decide +kernel
theorem dX0_isAlike_24 : decode cX0_isAlike 24 = .ok (.iadd, 1) := by decide +kernel
theorem dX0_isAlike_25 : decode cX0_isAlike 25 = .ok (.invokevirtual 56, 3) := by decide +kernel
theorem dX0_isAlike_28 : decode cX0_isAlike 28 = .ok (.lcmp, 1) := by decide +kernel
theorem dX0_isAlike_29 : decode cX0_isAlike 29 = .ok (.ifCond .eq 5, 3) := by decide +kernel
theorem dX0_isAlike_32 : decode cX0_isAlike 32 = .ok (.iconst 0, 1) := by decide +kernel
theorem dX0_isAlike_33 : decode cX0_isAlike 33 = .ok (.ireturn, 1) := by decide +kernel
theorem dX0_isAlike_34 : decode cX0_isAlike 34 = .ok (.iinc 4 1, 3) := by decide +kernel
theorem dX0_isAlike_37 : decode cX0_isAlike 37 = .ok (.goto (-34), 3) := by decide +kernel
theorem dX0_isAlike_40 : decode cX0_isAlike 40 = .ok (.iconst 1, 1) := by decide +kernel
theorem dX0_isAlike_41 : decode cX0_isAlike 41 = .ok (.ireturn, 1) := by decide +kernel
theorem dX0_markNamed_0 : decode cX0_markNamed 0 = .ok (.iconst 0, 1) := by decide +kernel
theorem dX0_markNamed_1 : decode cX0_markNamed 1 = .ok (.istore_n 2, 1) := by decide +kernel
theorem dX0_markNamed_2 : decode cX0_markNamed 2 = .ok (.iload_n 2, 1) := by decide +kernel
theorem dX0_markNamed_3 : decode cX0_markNamed 3 = .ok (.aload_n 1, 1) := by decide +kernel
theorem dX0_markNamed_4 : decode cX0_markNamed 4 = .ok (.arraylength, 1) := by decide +kernel
theorem dX0_markNamed_5 : decode cX0_markNamed 5 = .ok (.if_icmp .ge 13, 3) := by decide +kernel
theorem dX0_markNamed_8 : decode cX0_markNamed 8 = .ok (.aload_n 1, 1) := by decide +kernel
theorem dX0_markNamed_9 : decode cX0_markNamed 9 = .ok (.iload_n 2, 1) := by decide +kernel
theorem dX0_markNamed_10 : decode cX0_markNamed 10 = .ok (.iconst 0, 1) := by decide +kernel
theorem dX0_markNamed_11 : decode cX0_markNamed 11 = .ok (.bastore, 1) := by decide +kernel
theorem dX0_markNamed_12 : decode cX0_markNamed 12 = .ok (.iinc 2 1, 3) := by decide +kernel
theorem dX0_markNamed_15 : decode cX0_markNamed 15 = .ok (.goto (-13), 3) := by decide +kernel
theorem dX0_markNamed_18 : decode cX0_markNamed 18 = .ok (.iconst 0, 1) := by decide +kernel
theorem dX0_markNamed_19 : decode cX0_markNamed 19 = .ok (.istore_n 2, 1) := by decide +kernel
theorem dX0_markNamed_20 : decode cX0_markNamed 20 = .ok (.iload_n 2, 1) := by decide +kernel
theorem dX0_markNamed_21 : decode cX0_markNamed 21 = .ok (.aload_n 0, 1) := by decide +kernel
theorem dX0_markNamed_22 : decode cX0_markNamed 22 = .ok (.getfield 22, 3) := by decide +kernel
theorem dX0_markNamed_25 : decode cX0_markNamed 25 = .ok (.if_icmp .ge 37, 3) := by decide +kernel
theorem dX0_markNamed_28 : decode cX0_markNamed 28 = .ok (.aload_n 0, 1) := by decide +kernel
theorem dX0_markNamed_29 : decode cX0_markNamed 29 = .ok (.iload_n 2, 1) := by decide +kernel
theorem dX0_markNamed_30 : decode cX0_markNamed 30 = .ok (.invokevirtual 46, 3) := by decide +kernel
theorem dX0_markNamed_33 : decode cX0_markNamed 33 = .ok (.istore_n 3, 1) := by decide +kernel
theorem dX0_markNamed_34 : decode cX0_markNamed 34 = .ok (.aload_n 0, 1) := by decide +kernel
theorem dX0_markNamed_35 : decode cX0_markNamed 35 = .ok (.iload_n 2, 1) := by decide +kernel
theorem dX0_markNamed_36 : decode cX0_markNamed 36 = .ok (.invokevirtual 43, 3) := by decide +kernel
theorem dX0_markNamed_39 : decode cX0_markNamed 39 = .ok (.ifCond .le 17, 3) := by decide +kernel
theorem dX0_markNamed_42 : decode cX0_markNamed 42 = .ok (.iload_n 3, 1) := by decide +kernel
theorem dX0_markNamed_43 : decode cX0_markNamed 43 = .ok (.ifCond .lt 13, 3) := by decide +kernel
theorem dX0_markNamed_46 : decode cX0_markNamed 46 = .ok (.iload_n 3, 1) := by decide +kernel
theorem dX0_markNamed_47 : decode cX0_markNamed 47 = .ok (.aload_n 1, 1) := by decide +kernel
theorem dX0_markNamed_48 : decode cX0_markNamed 48 = .ok (.arraylength, 1) := by decide +kernel
theorem dX0_markNamed_49 : decode cX0_markNamed 49 = .ok (.if_icmp .ge 7, 3) := by decide +kernel
theorem dX0_markNamed_52 : decode cX0_markNamed 52 = .ok (.aload_n 1, 1) := by decide +kernel
theorem dX0_markNamed_53 : decode cX0_markNamed 53 = .ok (.iload_n 3, 1) := by decide +kernel
theorem dX0_markNamed_54 : decode cX0_markNamed 54 = .ok (.iconst 1, 1) := by decide +kernel
theorem dX0_markNamed_55 : decode cX0_markNamed 55 = .ok (.bastore, 1) := by decide +kernel
theorem dX0_markNamed_56 : decode cX0_markNamed 56 = .ok (.iinc 2 1, 3) := by decide +kernel
theorem dX0_markNamed_59 : decode cX0_markNamed 59 = .ok (.goto (-39), 3) := by decide +kernel
theorem dX0_markNamed_62 : decode cX0_markNamed 62 = .ok (.return_, 1) := by decide +kernel
theorem dX1_init_0 : decode cX1_init 0 = .ok (.aload_n 0, 1) := by decide +kernel
theorem dX1_init_1 : decode cX1_init 1 = .ok (.invokespecial 3, 3) := by decide +kernel
theorem dX1_init_4 : decode cX1_init 4 = .ok (.aload_n 0, 1) := by decide +kernel
theorem dX1_init_5 : decode cX1_init 5 = .ok (.sipush 24032, 3) := by decide +kernel
theorem dX1_init_8 : decode cX1_init 8 = .ok (.newarray .byte, 2) := by decide +kernel
theorem dX1_init_10 : decode cX1_init 10 = .ok (.putfield 9, 3) := by decide +kernel
theorem dX1_init_13 : decode cX1_init 13 = .ok (.aload_n 0, 1) := by decide +kernel
theorem dX1_init_14 : decode cX1_init 14 = .ok (.sipush 32192, 3) := by decide +kernel
theorem dX1_init_17 : decode cX1_init 17 = .ok (.newarray .int, 2) := by decide +kernel
theorem dX1_init_19 : decode cX1_init 19 = .ok (.putfield 15, 3) := by decide +kernel
theorem dX1_init_22 : decode cX1_init 22 = .ok (.return_, 1) := by decide +kernel
theorem dX1_clear_0 : decode cX1_clear 0 = .ok (.aload_n 0, 1) := by decide +kernel
theorem dX1_clear_1 : decode cX1_clear 1 = .ok (.getfield 9, 3) := by decide +kernel
theorem dX1_clear_4 : decode cX1_clear 4 = .ok (.iconst 0, 1) := by decide +kernel
theorem dX1_clear_5 : decode cX1_clear 5 = .ok (.invokestatic 19, 3) := by decide +kernel
theorem dX1_clear_8 : decode cX1_clear 8 = .ok (.return_, 1) := by decide +kernel
theorem dX1_forgetWritten_0 : decode cX1_forgetWritten 0 = .ok (.aload_n 0, 1) := by decide +kernel
theorem dX1_forgetWritten_1 : decode cX1_forgetWritten 1 = .ok (.iconst 0, 1) := by decide +kernel
theorem dX1_forgetWritten_2 : decode cX1_forgetWritten 2 = .ok (.putfield 25, 3) := by decide +kernel
theorem dX1_forgetWritten_5 : decode cX1_forgetWritten 5 = .ok (.return_, 1) := by decide +kernel
theorem dX1_goTo_0 : decode cX1_goTo 0 = .ok (.aload_n 0, 1) := by decide +kernel
theorem dX1_goTo_1 : decode cX1_goTo 1 = .ok (.iload_n 1, 1) := by decide +kernel
theorem dX1_goTo_2 : decode cX1_goTo 2 = .ok (.putfield 29, 3) := by decide +kernel
theorem dX1_goTo_5 : decode cX1_goTo 5 = .ok (.return_, 1) := by decide +kernel
theorem dX1_get_0 : decode cX1_get 0 = .ok (.iload_n 1, 1) := by decide +kernel
theorem dX1_get_1 : decode cX1_get 1 = .ok (.ifCond .lt 12, 3) := by decide +kernel
theorem dX1_get_4 : decode cX1_get 4 = .ok (.iload_n 1, 1) := by decide +kernel
theorem dX1_get_5 : decode cX1_get 5 = .ok (.aload_n 0, 1) := by decide +kernel
theorem dX1_get_6 : decode cX1_get 6 = .ok (.getfield 9, 3) := by decide +kernel
theorem dX1_get_9 : decode cX1_get 9 = .ok (.arraylength, 1) := by decide +kernel
theorem dX1_get_10 : decode cX1_get 10 = .ok (.if_icmp .lt 7, 3) := by decide +kernel
theorem dX1_get_13 : decode cX1_get 13 = .ok (.iconst 0, 1) := by decide +kernel
theorem dX1_get_14 : decode cX1_get 14 = .ok (.goto 13, 3) := by decide +kernel
theorem dX1_get_17 : decode cX1_get 17 = .ok (.aload_n 0, 1) := by decide +kernel
theorem dX1_get_18 : decode cX1_get 18 = .ok (.getfield 9, 3) := by decide +kernel
theorem dX1_get_21 : decode cX1_get 21 = .ok (.iload_n 1, 1) := by decide +kernel
theorem dX1_get_22 : decode cX1_get 22 = .ok (.baload, 1) := by decide +kernel
theorem dX1_get_23 : decode cX1_get 23 = .ok (.sipush 255, 3) := by decide +kernel
theorem dX1_get_26 : decode cX1_get 26 = .ok (.iand, 1) := by decide +kernel
theorem dX1_get_27 : decode cX1_get 27 = .ok (.ireturn, 1) := by decide +kernel
theorem dX1_set_0 : decode cX1_set 0 = .ok (.iload_n 1, 1) := by decide +kernel
theorem dX1_set_1 : decode cX1_set 1 = .ok (.ifCond .lt 20, 3) := by decide +kernel
theorem dX1_set_4 : decode cX1_set 4 = .ok (.iload_n 1, 1) := by decide +kernel
theorem dX1_set_5 : decode cX1_set 5 = .ok (.aload_n 0, 1) := by decide +kernel
theorem dX1_set_6 : decode cX1_set 6 = .ok (.getfield 9, 3) := by decide +kernel
theorem dX1_set_9 : decode cX1_set 9 = .ok (.arraylength, 1) := by decide +kernel
theorem dX1_set_10 : decode cX1_set 10 = .ok (.if_icmp .ge 11, 3) := by decide +kernel
theorem dX1_set_13 : decode cX1_set 13 = .ok (.aload_n 0, 1) := by decide +kernel
theorem dX1_set_14 : decode cX1_set 14 = .ok (.getfield 9, 3) := by decide +kernel
theorem dX1_set_17 : decode cX1_set 17 = .ok (.iload_n 1, 1) := by decide +kernel
theorem dX1_set_18 : decode cX1_set 18 = .ok (.iload_n 2, 1) := by decide +kernel
theorem dX1_set_19 : decode cX1_set 19 = .ok (.i2b, 1) := by decide +kernel
theorem dX1_set_20 : decode cX1_set 20 = .ok (.bastore, 1) := by decide +kernel
theorem dX1_set_21 : decode cX1_set 21 = .ok (.return_, 1) := by decide +kernel
theorem dX1_number_0 : decode cX1_number 0 = .ok (.lconst 0, 1) := by decide +kernel
theorem dX1_number_1 : decode cX1_number 1 = .ok (.lstore_n 3, 1) := by decide +kernel
theorem dX1_number_2 : decode cX1_number 2 = .ok (.iconst 0, 1) := by decide +kernel
theorem dX1_number_3 : decode cX1_number 3 = .ok (.istore 5, 2) := by decide +kernel
theorem dX1_number_5 : decode cX1_number 5 = .ok (.iload 5, 2) := by decide +kernel
theorem dX1_number_7 : decode cX1_number 7 = .ok (.iload_n 2, 1) := by decide +kernel
theorem dX1_number_8 : decode cX1_number 8 = .ok (.if_icmp .ge 24, 3) := by decide +kernel
theorem dX1_number_11 : decode cX1_number 11 = .ok (.lload_n 3, 1) := by decide +kernel
theorem dX1_number_12 : decode cX1_number 12 = .ok (.bipush 8, 2) := by decide +kernel
theorem dX1_number_14 : decode cX1_number 14 = .ok (.lshl, 1) := by decide +kernel
theorem dX1_number_15 : decode cX1_number 15 = .ok (.aload_n 0, 1) := by decide +kernel
theorem dX1_number_16 : decode cX1_number 16 = .ok (.iload_n 1, 1) := by decide +kernel
theorem dX1_number_17 : decode cX1_number 17 = .ok (.iload 5, 2) := by decide +kernel
theorem dX1_number_19 : decode cX1_number 19 = .ok (.iadd, 1) := by decide +kernel
theorem dX1_number_20 : decode cX1_number 20 = .ok (.invokevirtual 32, 3) := by decide +kernel
theorem dX1_number_23 : decode cX1_number 23 = .ok (.i2l, 1) := by decide +kernel
theorem dX1_number_24 : decode cX1_number 24 = .ok (.lor, 1) := by decide +kernel
theorem dX1_number_25 : decode cX1_number 25 = .ok (.lstore_n 3, 1) := by decide +kernel
theorem dX1_number_26 : decode cX1_number 26 = .ok (.iinc 5 1, 3) := by decide +kernel
theorem dX1_number_29 : decode cX1_number 29 = .ok (.goto (-24), 3) := by decide +kernel
theorem dX1_number_32 : decode cX1_number 32 = .ok (.lload_n 3, 1) := by decide +kernel
theorem dX1_number_33 : decode cX1_number 33 = .ok (.lreturn, 1) := by decide +kernel
theorem dX1_write_0 : decode cX1_write 0 = .ok (.iload_n 3, 1) := by decide +kernel
theorem dX1_write_1 : decode cX1_write 1 = .ok (.iconst 1, 1) := by decide +kernel
theorem dX1_write_2 : decode cX1_write 2 = .ok (.isub, 1) := by decide +kernel
theorem dX1_write_3 : decode cX1_write 3 = .ok (.istore 4, 2) := by decide +kernel
theorem dX1_write_5 : decode cX1_write 5 = .ok (.iload 4, 2) := by decide +kernel
theorem dX1_write_7 : decode cX1_write 7 = .ok (.ifCond .lt 25, 3) := by decide +kernel
theorem dX1_write_10 : decode cX1_write 10 = .ok (.aload_n 0, 1) := by decide +kernel
theorem dX1_write_11 : decode cX1_write 11 = .ok (.lload_n 1, 1) := by decide +kernel
theorem dX1_write_12 : decode cX1_write 12 = .ok (.bipush 8, 2) := by decide +kernel
theorem dX1_write_14 : decode cX1_write 14 = .ok (.iload 4, 2) := by decide +kernel
theorem dX1_write_16 : decode cX1_write 16 = .ok (.imul, 1) := by decide +kernel
theorem dX1_write_17 : decode cX1_write 17 = .ok (.lushr, 1) := by decide +kernel
theorem dX1_write_18 : decode cX1_write 18 = .ok (.l2i, 1) := by decide +kernel
theorem dX1_write_19 : decode cX1_write 19 = .ok (.sipush 255, 3) := by decide +kernel
theorem dX1_write_22 : decode cX1_write 22 = .ok (.iand, 1) := by decide +kernel
theorem dX1_write_23 : decode cX1_write 23 = .ok (.invokevirtual 36, 3) := by decide +kernel
theorem dX1_write_26 : decode cX1_write 26 = .ok (.iinc 4 (-1), 3) := by decide +kernel
theorem dX1_write_29 : decode cX1_write 29 = .ok (.goto (-24), 3) := by decide +kernel
theorem dX1_write_32 : decode cX1_write 32 = .ok (.return_, 1) := by decide +kernel
theorem dX1_writeByte_0 : decode cX1_writeByte 0 = .ok (.aload_n 0, 1) := by decide +kernel
theorem dX1_writeByte_1 : decode cX1_writeByte 1 = .ok (.getfield 25, 3) := by decide +kernel
theorem dX1_writeByte_4 : decode cX1_writeByte 4 = .ok (.aload_n 0, 1) := by decide +kernel
theorem dX1_writeByte_5 : decode cX1_writeByte 5 = .ok (.getfield 15, 3) := by decide +kernel
theorem dX1_writeByte_8 : decode cX1_writeByte 8 = .ok (.arraylength, 1) := by decide +kernel
theorem dX1_writeByte_9 : decode cX1_writeByte 9 = .ok (.if_icmp .ge 38, 3) := by decide +kernel
theorem dX1_writeByte_12 : decode cX1_writeByte 12 = .ok (.aload_n 0, 1) := by decide +kernel
theorem dX1_writeByte_13 : decode cX1_writeByte 13 = .ok (.getfield 15, 3) := by decide +kernel
theorem dX1_writeByte_16 : decode cX1_writeByte 16 = .ok (.aload_n 0, 1) := by decide +kernel
theorem dX1_writeByte_17 : decode cX1_writeByte 17 = .ok (.getfield 25, 3) := by decide +kernel
theorem dX1_writeByte_20 : decode cX1_writeByte 20 = .ok (.aload_n 0, 1) := by decide +kernel
theorem dX1_writeByte_21 : decode cX1_writeByte 21 = .ok (.getfield 29, 3) := by decide +kernel
theorem dX1_writeByte_24 : decode cX1_writeByte 24 = .ok (.bipush 8, 2) := by decide +kernel
theorem dX1_writeByte_26 : decode cX1_writeByte 26 = .ok (.ishl, 1) := by decide +kernel
theorem dX1_writeByte_27 : decode cX1_writeByte 27 = .ok (.aload_n 0, 1) := by decide +kernel
theorem dX1_writeByte_28 : decode cX1_writeByte 28 = .ok (.aload_n 0, 1) := by decide +kernel
theorem dX1_writeByte_29 : decode cX1_writeByte 29 = .ok (.getfield 29, 3) := by decide +kernel
theorem dX1_writeByte_32 : decode cX1_writeByte 32 = .ok (.invokevirtual 32, 3) := by decide +kernel
theorem dX1_writeByte_35 : decode cX1_writeByte 35 = .ok (.ior, 1) := by decide +kernel
theorem dX1_writeByte_36 : decode cX1_writeByte 36 = .ok (.iastore, 1) := by decide +kernel
theorem dX1_writeByte_37 : decode cX1_writeByte 37 = .ok (.aload_n 0, 1) := by decide +kernel
theorem dX1_writeByte_38 : decode cX1_writeByte 38 = .ok (.dup, 1) := by decide +kernel
theorem dX1_writeByte_39 : decode cX1_writeByte 39 = .ok (.getfield 25, 3) := by decide +kernel
theorem dX1_writeByte_42 : decode cX1_writeByte 42 = .ok (.iconst 1, 1) := by decide +kernel
theorem dX1_writeByte_43 : decode cX1_writeByte 43 = .ok (.iadd, 1) := by decide +kernel
theorem dX1_writeByte_44 : decode cX1_writeByte 44 = .ok (.putfield 25, 3) := by decide +kernel
theorem dX1_writeByte_47 : decode cX1_writeByte 47 = .ok (.aload_n 0, 1) := by decide +kernel
theorem dX1_writeByte_48 : decode cX1_writeByte 48 = .ok (.aload_n 0, 1) := by decide +kernel
theorem dX1_writeByte_49 : decode cX1_writeByte 49 = .ok (.getfield 29, 3) := by decide +kernel
theorem dX1_writeByte_52 : decode cX1_writeByte 52 = .ok (.iload_n 1, 1) := by decide +kernel
theorem dX1_writeByte_53 : decode cX1_writeByte 53 = .ok (.invokevirtual 40, 3) := by decide +kernel
theorem dX1_writeByte_56 : decode cX1_writeByte 56 = .ok (.aload_n 0, 1) := by decide +kernel
theorem dX1_writeByte_57 : decode cX1_writeByte 57 = .ok (.dup, 1) := by decide +kernel
theorem dX1_writeByte_58 : decode cX1_writeByte 58 = .ok (.getfield 29, 3) := by decide +kernel
theorem dX1_writeByte_61 : decode cX1_writeByte 61 = .ok (.iconst 1, 1) := by decide +kernel
theorem dX1_writeByte_62 : decode cX1_writeByte 62 = .ok (.iadd, 1) := by decide +kernel
theorem dX1_writeByte_63 : decode cX1_writeByte 63 = .ok (.putfield 29, 3) := by decide +kernel
theorem dX1_writeByte_66 : decode cX1_writeByte 66 = .ok (.return_, 1) := by decide +kernel
theorem dX1_takeBack_0 : decode cX1_takeBack 0 = .ok (.iload_n 1, 1) := by decide +kernel
theorem dX1_takeBack_1 : decode cX1_takeBack 1 = .ok (.ifCond .ge 7, 3) := by decide +kernel
theorem dX1_takeBack_4 : decode cX1_takeBack 4 = .ok (.iconst 0, 1) := by decide +kernel
theorem dX1_takeBack_5 : decode cX1_takeBack 5 = .ok (.goto 11, 3) := by decide +kernel
theorem dX1_takeBack_8 : decode cX1_takeBack 8 = .ok (.iload_n 1, 1) := by decide +kernel
theorem dX1_takeBack_9 : decode cX1_takeBack 9 = .ok (.aload_n 0, 1) := by decide +kernel
theorem dX1_takeBack_10 : decode cX1_takeBack 10 = .ok (.getfield 25, 3) := by decide +kernel
theorem dX1_takeBack_13 : decode cX1_takeBack 13 = .ok (.invokestatic 44, 3) := by decide +kernel
theorem dX1_takeBack_16 : decode cX1_takeBack 16 = .ok (.istore_n 2, 1) := by decide +kernel
theorem dX1_takeBack_17 : decode cX1_takeBack 17 = .ok (.iconst 0, 1) := by decide +kernel
theorem dX1_takeBack_18 : decode cX1_takeBack 18 = .ok (.istore_n 3, 1) := by decide +kernel
theorem dX1_takeBack_19 : decode cX1_takeBack 19 = .ok (.iload_n 3, 1) := by decide +kernel
theorem dX1_takeBack_20 : decode cX1_takeBack 20 = .ok (.iload_n 2, 1) := by decide +kernel
theorem dX1_takeBack_21 : decode cX1_takeBack 21 = .ok (.if_icmp .ge 67, 3) := by decide +kernel
theorem dX1_takeBack_24 : decode cX1_takeBack 24 = .ok (.aload_n 0, 1) := by decide +kernel
theorem dX1_takeBack_25 : decode cX1_takeBack 25 = .ok (.getfield 25, 3) := by decide +kernel
theorem dX1_takeBack_28 : decode cX1_takeBack 28 = .ok (.ifCond .le 60, 3) := by decide +kernel
theorem dX1_takeBack_31 : decode cX1_takeBack 31 = .ok (.aload_n 0, 1) := by decide +kernel
theorem dX1_takeBack_32 : decode cX1_takeBack 32 = .ok (.getfield 25, 3) := by decide +kernel
theorem dX1_takeBack_35 : decode cX1_takeBack 35 = .ok (.aload_n 0, 1) := by decide +kernel
theorem dX1_takeBack_36 : decode cX1_takeBack 36 = .ok (.getfield 15, 3) := by decide +kernel
theorem dX1_takeBack_39 : decode cX1_takeBack 39 = .ok (.arraylength, 1) := by decide +kernel
theorem dX1_takeBack_40 : decode cX1_takeBack 40 = .ok (.if_icmp .gt 48, 3) := by decide +kernel
theorem dX1_takeBack_43 : decode cX1_takeBack 43 = .ok (.aload_n 0, 1) := by decide +kernel
theorem dX1_takeBack_44 : decode cX1_takeBack 44 = .ok (.dup, 1) := by decide +kernel
theorem dX1_takeBack_45 : decode cX1_takeBack 45 = .ok (.getfield 25, 3) := by decide +kernel
theorem dX1_takeBack_48 : decode cX1_takeBack 48 = .ok (.iconst 1, 1) := by decide +kernel
theorem dX1_takeBack_49 : decode cX1_takeBack 49 = .ok (.isub, 1) := by decide +kernel
theorem dX1_takeBack_50 : decode cX1_takeBack 50 = .ok (.putfield 25, 3) := by decide +kernel
theorem dX1_takeBack_53 : decode cX1_takeBack 53 = .ok (.aload_n 0, 1) := by decide +kernel
theorem dX1_takeBack_54 : decode cX1_takeBack 54 = .ok (.aload_n 0, 1) := by decide +kernel
theorem dX1_takeBack_55 : decode cX1_takeBack 55 = .ok (.getfield 15, 3) := by decide +kernel
theorem dX1_takeBack_58 : decode cX1_takeBack 58 = .ok (.aload_n 0, 1) := by decide +kernel
theorem dX1_takeBack_59 : decode cX1_takeBack 59 = .ok (.getfield 25, 3) := by decide +kernel
theorem dX1_takeBack_62 : decode cX1_takeBack 62 = .ok (.iaload, 1) := by decide +kernel
theorem dX1_takeBack_63 : decode cX1_takeBack 63 = .ok (.bipush 8, 2) := by decide +kernel
theorem dX1_takeBack_65 : decode cX1_takeBack 65 = .ok (.iushr, 1) := by decide +kernel
theorem dX1_takeBack_66 : decode cX1_takeBack 66 = .ok (.aload_n 0, 1) := by decide +kernel
theorem dX1_takeBack_67 : decode cX1_takeBack 67 = .ok (.getfield 15, 3) := by decide +kernel
theorem dX1_takeBack_70 : decode cX1_takeBack 70 = .ok (.aload_n 0, 1) := by decide +kernel
theorem dX1_takeBack_71 : decode cX1_takeBack 71 = .ok (.getfield 25, 3) := by decide +kernel
theorem dX1_takeBack_74 : decode cX1_takeBack 74 = .ok (.iaload, 1) := by decide +kernel
theorem dX1_takeBack_75 : decode cX1_takeBack 75 = .ok (.sipush 255, 3) := by decide +kernel
theorem dX1_takeBack_78 : decode cX1_takeBack 78 = .ok (.iand, 1) := by decide +kernel
theorem dX1_takeBack_79 : decode cX1_takeBack 79 = .ok (.invokevirtual 40, 3) := by decide +kernel
theorem dX1_takeBack_82 : decode cX1_takeBack 82 = .ok (.iinc 3 1, 3) := by decide +kernel
theorem dX1_takeBack_85 : decode cX1_takeBack 85 = .ok (.goto (-66), 3) := by decide +kernel
theorem dX1_takeBack_88 : decode cX1_takeBack 88 = .ok (.iload_n 2, 1) := by decide +kernel
theorem dX1_takeBack_89 : decode cX1_takeBack 89 = .ok (.ireturn, 1) := by decide +kernel
theorem dX1_sum_0 : decode cX1_sum 0 = .ok (.lload_n 3, 1) := by decide +kernel
theorem dX1_sum_1 : decode cX1_sum 1 = .ok (.lstore 5, 2) := by decide +kernel
theorem dX1_sum_3 : decode cX1_sum 3 = .ok (.iload_n 2, 1) := by decide +kernel
theorem dX1_sum_4 : decode cX1_sum 4 = .ok (.aload_n 0, 1) := by decide +kernel
theorem dX1_sum_5 : decode cX1_sum 5 = .ok (.getfield 9, 3) := by decide +kernel
theorem dX1_sum_8 : decode cX1_sum 8 = .ok (.arraylength, 1) := by decide +kernel
theorem dX1_sum_9 : decode cX1_sum 9 = .ok (.invokestatic 44, 3) := by decide +kernel
theorem dX1_sum_12 : decode cX1_sum 12 = .ok (.istore 7, 2) := by decide +kernel
theorem dX1_sum_14 : decode cX1_sum 14 = .ok (.iload_n 1, 1) := by decide +kernel
theorem dX1_sum_15 : decode cX1_sum 15 = .ok (.iconst 0, 1) := by decide +kernel
theorem dX1_sum_16 : decode cX1_sum 16 = .ok (.invokestatic 50, 3) := by decide +kernel
theorem dX1_sum_19 : decode cX1_sum 19 = .ok (.istore 8, 2) := by decide +kernel
theorem dX1_sum_21 : decode cX1_sum 21 = .ok (.iload 8, 2) := by decide +kernel
theorem dX1_sum_23 : decode cX1_sum 23 = .ok (.iload 7, 2) := by decide +kernel
theorem dX1_sum_25 : decode cX1_sum 25 = .ok (.if_icmp .ge 43, 3) := by decide +kernel
theorem dX1_sum_28 : decode cX1_sum 28 = .ok (.lload 5, 2) := by decide +kernel
theorem dX1_sum_30 : decode cX1_sum 30 = .ok (.aload_n 0, 1) := by decide +kernel
theorem dX1_sum_31 : decode cX1_sum 31 = .ok (.getfield 9, 3) := by decide +kernel
theorem dX1_sum_34 : decode cX1_sum 34 = .ok (.iload 8, 2) := by decide +kernel
theorem dX1_sum_36 : decode cX1_sum 36 = .ok (.baload, 1) := by decide +kernel
theorem dX1_sum_37 : decode cX1_sum 37 = .ok (.sipush 255, 3) := by decide +kernel
theorem dX1_sum_40 : decode cX1_sum 40 = .ok (.iand, 1) := by decide +kernel
theorem dX1_sum_41 : decode cX1_sum 41 = .ok (.i2l, 1) := by decide +kernel
theorem dX1_sum_42 : decode cX1_sum 42 = .ok (.lxor, 1) := by decide +kernel
theorem dX1_sum_43 : decode cX1_sum 43 = .ok (.lstore 9, 2) := by decide +kernel
theorem dX1_sum_45 : decode cX1_sum 45 = .ok (.lload 9, 2) := by decide +kernel
theorem dX1_sum_47 : decode cX1_sum 47 = .ok (.bipush 29, 2) := by decide +kernel
theorem dX1_sum_49 : decode cX1_sum 49 = .ok (.lshl, 1) := by decide +kernel
theorem dX1_sum_50 : decode cX1_sum 50 = .ok (.lload 9, 2) := by decide +kernel
theorem dX1_sum_52 : decode cX1_sum 52 = .ok (.bipush 35, 2) := by decide +kernel
theorem dX1_sum_54 : decode cX1_sum 54 = .ok (.lushr, 1) := by decide +kernel
theorem dX1_sum_55 : decode cX1_sum 55 = .ok (.lor, 1) := by decide +kernel
theorem dX1_sum_56 : decode cX1_sum 56 = .ok (.ldc2_w 53, 3) := by decide +kernel
theorem dX1_sum_59 : decode cX1_sum 59 = .ok (.lmul, 1) := by decide +kernel
theorem dX1_sum_60 : decode cX1_sum 60 = .ok (.lstore 5, 2) := by decide +kernel
theorem dX1_sum_62 : decode cX1_sum 62 = .ok (.iinc 8 1, 3) := by decide +kernel
theorem dX1_sum_65 : decode cX1_sum 65 = .ok (.goto (-44), 3) := by decide +kernel
theorem dX1_sum_68 : decode cX1_sum 68 = .ok (.lload 5, 2) := by decide +kernel
theorem dX1_sum_70 : decode cX1_sum 70 = .ok (.lreturn, 1) := by decide +kernel
theorem dX2_init_0 : decode cX2_init 0 = .ok (.aload_n 0, 1) := by decide +kernel
theorem dX2_init_1 : decode cX2_init 1 = .ok (.invokespecial 3, 3) := by decide +kernel
theorem dX2_init_4 : decode cX2_init 4 = .ok (.aload_n 0, 1) := by decide +kernel
theorem dX2_init_5 : decode cX2_init 5 = .ok (.bipush 64, 2) := by decide +kernel
theorem dX2_init_7 : decode cX2_init 7 = .ok (.newarray .long, 2) := by decide +kernel
theorem dX2_init_9 : decode cX2_init 9 = .ok (.putfield 9, 3) := by decide +kernel
theorem dX2_init_12 : decode cX2_init 12 = .ok (.aload_n 0, 1) := by decide +kernel
theorem dX2_init_13 : decode cX2_init 13 = .ok (.new 15, 3) := by decide +kernel
theorem dX2_init_16 : decode cX2_init 16 = .ok (.dup, 1) := by decide +kernel
theorem dX2_init_17 : decode cX2_init 17 = .ok (.invokespecial 17, 3) := by decide +kernel
theorem dX2_init_20 : decode cX2_init 20 = .ok (.putfield 18, 3) := by decide +kernel
theorem dX2_init_23 : decode cX2_init 23 = .ok (.aload_n 0, 1) := by decide +kernel
theorem dX2_init_24 : decode cX2_init 24 = .ok (.bipush 100, 2) := by decide +kernel
theorem dX2_init_26 : decode cX2_init 26 = .ok (.newarray .boolean, 2) := by decide +kernel
theorem dX2_init_28 : decode cX2_init 28 = .ok (.putfield 22, 3) := by decide +kernel
theorem dX2_init_31 : decode cX2_init 31 = .ok (.aload_n 0, 1) := by decide +kernel
theorem dX2_init_32 : decode cX2_init 32 = .ok (.sipush 800, 3) := by decide +kernel
theorem dX2_init_35 : decode cX2_init 35 = .ok (.newarray .int, 2) := by decide +kernel
theorem dX2_init_37 : decode cX2_init 37 = .ok (.putfield 26, 3) := by decide +kernel
theorem dX2_init_40 : decode cX2_init 40 = .ok (.aload_n 0, 1) := by decide +kernel
theorem dX2_init_41 : decode cX2_init 41 = .ok (.bipush 100, 2) := by decide +kernel
theorem dX2_init_43 : decode cX2_init 43 = .ok (.newarray .int, 2) := by decide +kernel
theorem dX2_init_45 : decode cX2_init 45 = .ok (.putfield 30, 3) := by decide +kernel
theorem dX2_init_48 : decode cX2_init 48 = .ok (.aload_n 0, 1) := by decide +kernel
theorem dX2_init_49 : decode cX2_init 49 = .ok (.bipush 100, 2) := by decide +kernel
theorem dX2_init_51 : decode cX2_init 51 = .ok (.newarray .long, 2) := by decide +kernel
theorem dX2_init_53 : decode cX2_init 53 = .ok (.putfield 33, 3) := by decide +kernel
theorem dX2_init_56 : decode cX2_init 56 = .ok (.return_, 1) := by decide +kernel
theorem dX2_forget_0 : decode cX2_forget 0 = .ok (.aload_n 0, 1) := by decide +kernel
theorem dX2_forget_1 : decode cX2_forget 1 = .ok (.iload_n 1, 1) := by decide +kernel
theorem dX2_forget_2 : decode cX2_forget 2 = .ok (.putfield 36, 3) := by decide +kernel
theorem dX2_forget_5 : decode cX2_forget 5 = .ok (.aload_n 0, 1) := by decide +kernel
theorem dX2_forget_6 : decode cX2_forget 6 = .ok (.getfield 9, 3) := by decide +kernel
theorem dX2_forget_9 : decode cX2_forget 9 = .ok (.lconst 0, 1) := by decide +kernel
theorem dX2_forget_10 : decode cX2_forget 10 = .ok (.invokestatic 40, 3) := by decide +kernel
theorem dX2_forget_13 : decode cX2_forget 13 = .ok (.aload_n 0, 1) := by decide +kernel
theorem dX2_forget_14 : decode cX2_forget 14 = .ok (.getfield 18, 3) := by decide +kernel
theorem dX2_forget_17 : decode cX2_forget 17 = .ok (.invokevirtual 46, 3) := by decide +kernel
theorem dX2_forget_20 : decode cX2_forget 20 = .ok (.aload_n 0, 1) := by decide +kernel
theorem dX2_forget_21 : decode cX2_forget 21 = .ok (.iconst 0, 1) := by decide +kernel
theorem dX2_forget_22 : decode cX2_forget 22 = .ok (.putfield 49, 3) := by decide +kernel
theorem dX2_forget_25 : decode cX2_forget 25 = .ok (.aload_n 0, 1) := by decide +kernel
theorem dX2_forget_26 : decode cX2_forget 26 = .ok (.iconst 0, 1) := by decide +kernel
theorem dX2_forget_27 : decode cX2_forget 27 = .ok (.putfield 52, 3) := by decide +kernel
theorem dX2_forget_30 : decode cX2_forget 30 = .ok (.aload_n 0, 1) := by decide +kernel
theorem dX2_forget_31 : decode cX2_forget 31 = .ok (.iconst 0, 1) := by decide +kernel
theorem dX2_forget_32 : decode cX2_forget 32 = .ok (.putfield 55, 3) := by decide +kernel
theorem dX2_forget_35 : decode cX2_forget 35 = .ok (.aload_n 0, 1) := by decide +kernel
theorem dX2_forget_36 : decode cX2_forget 36 = .ok (.iconst 0, 1) := by decide +kernel
theorem dX2_forget_37 : decode cX2_forget 37 = .ok (.putfield 58, 3) := by decide +kernel
theorem dX2_forget_40 : decode cX2_forget 40 = .ok (.aload_n 0, 1) := by decide +kernel
theorem dX2_forget_41 : decode cX2_forget 41 = .ok (.iconst 0, 1) := by decide +kernel
theorem dX2_forget_42 : decode cX2_forget 42 = .ok (.putfield 61, 3) := by decide +kernel
theorem dX2_forget_45 : decode cX2_forget 45 = .ok (.return_, 1) := by decide +kernel
theorem dX2_isThere_0 : decode cX2_isThere 0 = .ok (.iload_n 1, 1) := by decide +kernel
theorem dX2_isThere_1 : decode cX2_isThere 1 = .ok (.ifCond .lt 30, 3) := by decide +kernel
theorem dX2_isThere_4 : decode cX2_isThere 4 = .ok (.iload_n 1, 1) := by decide +kernel
theorem dX2_isThere_5 : decode cX2_isThere 5 = .ok (.aload_n 0, 1) := by decide +kernel
theorem dX2_isThere_6 : decode cX2_isThere 6 = .ok (.getfield 52, 3) := by decide +kernel
theorem dX2_isThere_9 : decode cX2_isThere 9 = .ok (.if_icmp .ge 22, 3) := by decide +kernel
theorem dX2_isThere_12 : decode cX2_isThere 12 = .ok (.iload_n 1, 1) := by decide +kernel
theorem dX2_isThere_13 : decode cX2_isThere 13 = .ok (.bipush 100, 2) := by decide +kernel
theorem dX2_isThere_15 : decode cX2_isThere 15 = .ok (.if_icmp .ge 16, 3) := by decide +kernel
theorem dX2_isThere_18 : decode cX2_isThere 18 = .ok (.aload_n 0, 1) := by decide +kernel
theorem dX2_isThere_19 : decode cX2_isThere 19 = .ok (.getfield 22, 3) := by decide +kernel
theorem dX2_isThere_22 : decode cX2_isThere 22 = .ok (.iload_n 1, 1) := by decide +kernel
theorem dX2_isThere_23 : decode cX2_isThere 23 = .ok (.baload, 1) := by decide +kernel
theorem dX2_isThere_24 : decode cX2_isThere 24 = .ok (.ifCond .eq 7, 3) := by decide +kernel
theorem dX2_isThere_27 : decode cX2_isThere 27 = .ok (.iconst 1, 1) := by decide +kernel
theorem dX2_isThere_28 : decode cX2_isThere 28 = .ok (.goto 4, 3) := by decide +kernel
theorem dX2_isThere_31 : decode cX2_isThere 31 = .ok (.iconst 0, 1) := by decide +kernel
theorem dX2_isThere_32 : decode cX2_isThere 32 = .ok (.ireturn, 1) := by decide +kernel
theorem dX2_countThere_0 : decode cX2_countThere 0 = .ok (.iconst 0, 1) := by decide +kernel
theorem dX2_countThere_1 : decode cX2_countThere 1 = .ok (.istore_n 1, 1) := by decide +kernel
theorem dX2_countThere_2 : decode cX2_countThere 2 = .ok (.iconst 0, 1) := by decide +kernel
theorem dX2_countThere_3 : decode cX2_countThere 3 = .ok (.istore_n 2, 1) := by decide +kernel
theorem dX2_countThere_4 : decode cX2_countThere 4 = .ok (.iload_n 2, 1) := by decide +kernel
theorem dX2_countThere_5 : decode cX2_countThere 5 = .ok (.aload_n 0, 1) := by decide +kernel
theorem dX2_countThere_6 : decode cX2_countThere 6 = .ok (.getfield 52, 3) := by decide +kernel
theorem dX2_countThere_9 : decode cX2_countThere 9 = .ok (.if_icmp .ge 20, 3) := by decide +kernel
theorem dX2_countThere_12 : decode cX2_countThere 12 = .ok (.aload_n 0, 1) := by decide +kernel
theorem dX2_countThere_13 : decode cX2_countThere 13 = .ok (.iload_n 2, 1) := by decide +kernel
theorem dX2_countThere_14 : decode cX2_countThere 14 = .ok (.invokevirtual 64, 3) := by decide +kernel
theorem dX2_countThere_17 : decode cX2_countThere 17 = .ok (.ifCond .eq 6, 3) := by decide +kernel
theorem dX2_countThere_20 : decode cX2_countThere 20 = .ok (.iinc 1 1, 3) := by decide +kernel
theorem dX2_countThere_23 : decode cX2_countThere 23 = .ok (.iinc 2 1, 3) := by decide +kernel
theorem dX2_countThere_26 : decode cX2_countThere 26 = .ok (.goto (-22), 3) := by decide +kernel
theorem dX2_countThere_29 : decode cX2_countThere 29 = .ok (.iload_n 1, 1) := by decide +kernel
theorem dX2_countThere_30 : decode cX2_countThere 30 = .ok (.ireturn, 1) := by decide +kernel
theorem dX2_slotOf_0 : decode cX2_slotOf 0 = .ok (.iload_n 1, 1) := by decide +kernel
theorem dX2_slotOf_1 : decode cX2_slotOf 1 = .ok (.ifCond .lt 23, 3) := by decide +kernel
theorem dX2_slotOf_4 : decode cX2_slotOf 4 = .ok (.iload_n 1, 1) := by decide +kernel
theorem dX2_slotOf_5 : decode cX2_slotOf 5 = .ok (.bipush 100, 2) := by decide +kernel
theorem dX2_slotOf_7 : decode cX2_slotOf 7 = .ok (.if_icmp .ge 17, 3) := by decide +kernel
theorem dX2_slotOf_10 : decode cX2_slotOf 10 = .ok (.iload_n 2, 1) := by decide +kernel
theorem dX2_slotOf_11 : decode cX2_slotOf 11 = .ok (.ifCond .lt 13, 3) := by decide +kernel
theorem dX2_slotOf_14 : decode cX2_slotOf 14 = .ok (.iload_n 2, 1) := by decide +kernel
theorem dX2_slotOf_15 : decode cX2_slotOf 15 = .ok (.bipush 8, 2) := by decide +kernel
theorem dX2_slotOf_17 : decode cX2_slotOf 17 = .ok (.if_icmp .ge 7, 3) := by decide +kernel
theorem dX2_slotOf_20 : decode cX2_slotOf 20 = .ok (.iconst 1, 1) := by decide +kernel
theorem dX2_slotOf_21 : decode cX2_slotOf 21 = .ok (.goto 4, 3) := by decide +kernel
theorem dX2_slotOf_24 : decode cX2_slotOf 24 = .ok (.iconst 0, 1) := by decide +kernel
theorem dX2_slotOf_25 : decode cX2_slotOf 25 = .ok (.istore_n 3, 1) := by decide +kernel
theorem dX2_slotOf_26 : decode cX2_slotOf 26 = .ok (.iload_n 3, 1) := by decide +kernel
theorem dX2_slotOf_27 : decode cX2_slotOf 27 = .ok (.ifCond .eq 17, 3) := by decide +kernel
theorem dX2_slotOf_30 : decode cX2_slotOf 30 = .ok (.aload_n 0, 1) := by decide +kernel
theorem dX2_slotOf_31 : decode cX2_slotOf 31 = .ok (.getfield 26, 3) := by decide +kernel
theorem dX2_slotOf_34 : decode cX2_slotOf 34 = .ok (.iload_n 1, 1) := by decide +kernel
theorem dX2_slotOf_35 : decode cX2_slotOf 35 = .ok (.bipush 8, 2) := by decide +kernel
theorem dX2_slotOf_37 : decode cX2_slotOf 37 = .ok (.imul, 1) := by decide +kernel
theorem dX2_slotOf_38 : decode cX2_slotOf 38 = .ok (.iload_n 2, 1) := by decide +kernel
theorem dX2_slotOf_39 : decode cX2_slotOf 39 = .ok (.iadd, 1) := by decide +kernel
theorem dX2_slotOf_40 : decode cX2_slotOf 40 = .ok (.iaload, 1) := by decide +kernel
theorem dX2_slotOf_41 : decode cX2_slotOf 41 = .ok (.goto 4, 3) := by decide +kernel
theorem dX2_slotOf_44 : decode cX2_slotOf 44 = .ok (.iconst (-1), 1) := by decide +kernel
theorem dX2_slotOf_45 : decode cX2_slotOf 45 = .ok (.ireturn, 1) := by decide +kernel
theorem dX2_edgesOfNow_0 : decode cX2_edgesOfNow 0 = .ok (.iload_n 1, 1) := by decide +kernel
theorem dX2_edgesOfNow_1 : decode cX2_edgesOfNow 1 = .ok (.ifCond .lt 18, 3) := by decide +kernel
theorem dX2_edgesOfNow_4 : decode cX2_edgesOfNow 4 = .ok (.iload_n 1, 1) := by decide +kernel
theorem dX2_edgesOfNow_5 : decode cX2_edgesOfNow 5 = .ok (.bipush 64, 2) := by decide +kernel
theorem dX2_edgesOfNow_7 : decode cX2_edgesOfNow 7 = .ok (.if_icmp .ge 12, 3) := by decide +kernel
theorem dX2_edgesOfNow_10 : decode cX2_edgesOfNow 10 = .ok (.aload_n 0, 1) := by decide +kernel
theorem dX2_edgesOfNow_11 : decode cX2_edgesOfNow 11 = .ok (.getfield 9, 3) := by decide +kernel
theorem dX2_edgesOfNow_14 : decode cX2_edgesOfNow 14 = .ok (.iload_n 1, 1) := by decide +kernel
theorem dX2_edgesOfNow_15 : decode cX2_edgesOfNow 15 = .ok (.laload, 1) := by decide +kernel
theorem dX2_edgesOfNow_16 : decode cX2_edgesOfNow 16 = .ok (.goto 4, 3) := by decide +kernel
theorem dX2_edgesOfNow_19 : decode cX2_edgesOfNow 19 = .ok (.lconst 0, 1) := by decide +kernel
theorem dX2_edgesOfNow_20 : decode cX2_edgesOfNow 20 = .ok (.lreturn, 1) := by decide +kernel
theorem dX2_edgesFrom_0 : decode cX2_edgesFrom 0 = .ok (.iload_n 1, 1) := by decide +kernel
theorem dX2_edgesFrom_1 : decode cX2_edgesFrom 1 = .ok (.iconst (-1), 1) := by decide +kernel
theorem dX2_edgesFrom_2 : decode cX2_edgesFrom 2 = .ok (.if_icmp .ne 9, 3) := by decide +kernel
theorem dX2_edgesFrom_5 : decode cX2_edgesFrom 5 = .ok (.aload_n 0, 1) := by decide +kernel
theorem dX2_edgesFrom_6 : decode cX2_edgesFrom 6 = .ok (.iload_n 2, 1) := by decide +kernel
theorem dX2_edgesFrom_7 : decode cX2_edgesFrom 7 = .ok (.invokevirtual 68, 3) := by decide +kernel
theorem dX2_edgesFrom_10 : decode cX2_edgesFrom 10 = .ok (.lreturn, 1) := by decide +kernel
theorem dX2_edgesFrom_11 : decode cX2_edgesFrom 11 = .ok (.aload_n 0, 1) := by decide +kernel
theorem dX2_edgesFrom_12 : decode cX2_edgesFrom 12 = .ok (.getfield 18, 3) := by decide +kernel
theorem dX2_edgesFrom_15 : decode cX2_edgesFrom 15 = .ok (.aload_n 0, 1) := by decide +kernel
theorem dX2_edgesFrom_16 : decode cX2_edgesFrom 16 = .ok (.iload_n 1, 1) := by decide +kernel
theorem dX2_edgesFrom_17 : decode cX2_edgesFrom 17 = .ok (.iload_n 2, 1) := by decide +kernel
theorem dX2_edgesFrom_18 : decode cX2_edgesFrom 18 = .ok (.bipush 8, 2) := by decide +kernel
theorem dX2_edgesFrom_20 : decode cX2_edgesFrom 20 = .ok (.idiv, 1) := by decide +kernel
theorem dX2_edgesFrom_21 : decode cX2_edgesFrom 21 = .ok (.invokevirtual 72, 3) := by decide +kernel
theorem dX2_edgesFrom_24 : decode cX2_edgesFrom 24 = .ok (.iload_n 2, 1) := by decide +kernel
theorem dX2_edgesFrom_25 : decode cX2_edgesFrom 25 = .ok (.bipush 8, 2) := by decide +kernel
theorem dX2_edgesFrom_27 : decode cX2_edgesFrom 27 = .ok (.irem, 1) := by decide +kernel
theorem dX2_edgesFrom_28 : decode cX2_edgesFrom 28 = .ok (.invokevirtual 76, 3) := by decide +kernel
theorem dX2_edgesFrom_31 : decode cX2_edgesFrom 31 = .ok (.lreturn, 1) := by decide +kernel
theorem dX2_joins_0 : decode cX2_joins 0 = .ok (.aload_n 0, 1) := by decide +kernel
theorem dX2_joins_1 : decode cX2_joins 1 = .ok (.iload_n 1, 1) := by decide +kernel
theorem dX2_joins_2 : decode cX2_joins 2 = .ok (.iload_n 2, 1) := by decide +kernel
theorem dX2_joins_3 : decode cX2_joins 3 = .ok (.invokevirtual 80, 3) := by decide +kernel
theorem dX2_joins_6 : decode cX2_joins 6 = .ok (.iload_n 3, 1) := by decide +kernel
theorem dX2_joins_7 : decode cX2_joins 7 = .ok (.lushr, 1) := by decide +kernel
theorem dX2_joins_8 : decode cX2_joins 8 = .ok (.lconst 1, 1) := by decide +kernel
theorem dX2_joins_9 : decode cX2_joins 9 = .ok (.land, 1) := by decide +kernel
theorem dX2_joins_10 : decode cX2_joins 10 = .ok (.lconst 0, 1) := by decide +kernel
theorem dX2_joins_11 : decode cX2_joins 11 = .ok (.lcmp, 1) := by decide +kernel
theorem dX2_joins_12 : decode cX2_joins 12 = .ok (.ifCond .eq 7, 3) := by decide +kernel
theorem dX2_joins_15 : decode cX2_joins 15 = .ok (.iconst 1, 1) := by decide +kernel
theorem dX2_joins_16 : decode cX2_joins 16 = .ok (.goto 4, 3) := by decide +kernel
theorem dX2_joins_19 : decode cX2_joins 19 = .ok (.iconst 0, 1) := by decide +kernel
theorem dX2_joins_20 : decode cX2_joins 20 = .ok (.ireturn, 1) := by decide +kernel
theorem dX2_countEdges_0 : decode cX2_countEdges 0 = .ok (.iconst 0, 1) := by decide +kernel
theorem dX2_countEdges_1 : decode cX2_countEdges 1 = .ok (.istore_n 1, 1) := by decide +kernel
theorem dX2_countEdges_2 : decode cX2_countEdges 2 = .ok (.iconst 0, 1) := by decide +kernel
theorem dX2_countEdges_3 : decode cX2_countEdges 3 = .ok (.istore_n 2, 1) := by decide +kernel
theorem dX2_countEdges_4 : decode cX2_countEdges 4 = .ok (.iload_n 2, 1) := by decide +kernel
theorem dX2_countEdges_5 : decode cX2_countEdges 5 = .ok (.bipush 64, 2) := by decide +kernel
theorem dX2_countEdges_7 : decode cX2_countEdges 7 = .ok (.if_icmp .ge 21, 3) := by decide +kernel
theorem dX2_countEdges_10 : decode cX2_countEdges 10 = .ok (.iload_n 1, 1) := by decide +kernel
theorem dX2_countEdges_11 : decode cX2_countEdges 11 = .ok (.aload_n 0, 1) := by decide +kernel
theorem dX2_countEdges_12 : decode cX2_countEdges 12 = .ok (.getfield 9, 3) := by decide +kernel
theorem dX2_countEdges_15 : decode cX2_countEdges 15 = .ok (.iload_n 2, 1) := by decide +kernel
theorem dX2_countEdges_16 : decode cX2_countEdges 16 = .ok (.laload, 1) := by decide +kernel
theorem dX2_countEdges_17 : decode cX2_countEdges 17 = .ok (.invokestatic 83, 3) := by decide +kernel
theorem dX2_countEdges_20 : decode cX2_countEdges 20 = .ok (.iadd, 1) := by decide +kernel
theorem dX2_countEdges_21 : decode cX2_countEdges 21 = .ok (.istore_n 1, 1) := by decide +kernel
theorem dX2_countEdges_22 : decode cX2_countEdges 22 = .ok (.iinc 2 1, 3) := by decide +kernel
theorem dX2_countEdges_25 : decode cX2_countEdges 25 = .ok (.goto (-21), 3) := by decide +kernel
theorem dX2_countEdges_28 : decode cX2_countEdges 28 = .ok (.iload_n 1, 1) := by decide +kernel
theorem dX2_countEdges_29 : decode cX2_countEdges 29 = .ok (.ireturn, 1) := by decide +kernel
theorem dX2_versionOfAnswer_0 : decode cX2_versionOfAnswer 0 = .ok (.iload_n 1, 1) := by decide +kernel
theorem dX2_versionOfAnswer_1 : decode cX2_versionOfAnswer 1 = .ok (.ifCond .lt 18, 3) := by decide +kernel
theorem dX2_versionOfAnswer_4 : decode cX2_versionOfAnswer 4 = .ok (.iload_n 1, 1) := by decide +kernel
theorem dX2_versionOfAnswer_5 : decode cX2_versionOfAnswer 5 = .ok (.bipush 100, 2) := by decide +kernel
theorem dX2_versionOfAnswer_7 : decode cX2_versionOfAnswer 7 = .ok (.if_icmp .ge 12, 3) := by decide +kernel
theorem dX2_versionOfAnswer_10 : decode cX2_versionOfAnswer 10 = .ok (.aload_n 0, 1) := by decide +kernel
theorem dX2_versionOfAnswer_11 : decode cX2_versionOfAnswer 11 = .ok (.getfield 30, 3) := by decide +kernel
theorem dX2_versionOfAnswer_14 : decode cX2_versionOfAnswer 14 = .ok (.iload_n 1, 1) := by decide +kernel
theorem dX2_versionOfAnswer_15 : decode cX2_versionOfAnswer 15 = .ok (.iaload, 1) := by decide +kernel
theorem dX2_versionOfAnswer_16 : decode cX2_versionOfAnswer 16 = .ok (.goto 4, 3) := by decide +kernel
theorem dX2_versionOfAnswer_19 : decode cX2_versionOfAnswer 19 = .ok (.iconst (-1), 1) := by decide +kernel
theorem dX2_versionOfAnswer_20 : decode cX2_versionOfAnswer 20 = .ok (.ireturn, 1) := by decide +kernel
theorem dX2_maskOfAnswer_0 : decode cX2_maskOfAnswer 0 = .ok (.iload_n 1, 1) := by decide +kernel
theorem dX2_maskOfAnswer_1 : decode cX2_maskOfAnswer 1 = .ok (.ifCond .lt 18, 3) := by decide +kernel
theorem dX2_maskOfAnswer_4 : decode cX2_maskOfAnswer 4 = .ok (.iload_n 1, 1) := by decide +kernel
theorem dX2_maskOfAnswer_5 : decode cX2_maskOfAnswer 5 = .ok (.bipush 100, 2) := by decide +kernel
theorem dX2_maskOfAnswer_7 : decode cX2_maskOfAnswer 7 = .ok (.if_icmp .ge 12, 3) := by decide +kernel
theorem dX2_maskOfAnswer_10 : decode cX2_maskOfAnswer 10 = .ok (.aload_n 0, 1) := by decide +kernel
theorem dX2_maskOfAnswer_11 : decode cX2_maskOfAnswer 11 = .ok (.getfield 33, 3) := by decide +kernel
theorem dX2_maskOfAnswer_14 : decode cX2_maskOfAnswer 14 = .ok (.iload_n 1, 1) := by decide +kernel
theorem dX2_maskOfAnswer_15 : decode cX2_maskOfAnswer 15 = .ok (.laload, 1) := by decide +kernel
theorem dX2_maskOfAnswer_16 : decode cX2_maskOfAnswer 16 = .ok (.goto 4, 3) := by decide +kernel
theorem dX2_maskOfAnswer_19 : decode cX2_maskOfAnswer 19 = .ok (.lconst 0, 1) := by decide +kernel
theorem dX2_maskOfAnswer_20 : decode cX2_maskOfAnswer 20 = .ok (.lreturn, 1) := by decide +kernel
theorem dX2_readLog_0 : decode cX2_readLog 0 = .ok (.aload_n 0, 1) := by decide +kernel
theorem dX2_readLog_1 : decode cX2_readLog 1 = .ok (.iload_n 3, 1) := by decide +kernel
theorem dX2_readLog_2 : decode cX2_readLog 2 = .ok (.invokevirtual 89, 3) := by decide +kernel
theorem dX2_readLog_5 : decode cX2_readLog 5 = .ok (.bipush 32, 2) := by decide +kernel
theorem dX2_readLog_7 : decode cX2_readLog 7 = .ok (.iload_n 2, 1) := by decide +kernel
theorem dX2_readLog_8 : decode cX2_readLog 8 = .ok (.iadd, 1) := by decide +kernel
theorem dX2_readLog_9 : decode cX2_readLog 9 = .ok (.istore 4, 2) := by decide +kernel
theorem dX2_readLog_11 : decode cX2_readLog 11 = .ok (.iconst 0, 1) := by decide +kernel
theorem dX2_readLog_12 : decode cX2_readLog 12 = .ok (.istore 5, 2) := by decide +kernel
theorem dX2_readLog_14 : decode cX2_readLog 14 = .ok (.iload 5, 2) := by decide +kernel
theorem dX2_readLog_16 : decode cX2_readLog 16 = .ok (.sipush 2000, 3) := by decide +kernel
theorem dX2_readLog_19 : decode cX2_readLog 19 = .ok (.if_icmp .ge 51, 3) := by decide +kernel
theorem dX2_readLog_22 : decode cX2_readLog 22 = .ok (.aload_n 0, 1) := by decide +kernel
theorem dX2_readLog_23 : decode cX2_readLog 23 = .ok (.getfield 61, 3) := by decide +kernel
theorem dX2_readLog_26 : decode cX2_readLog 26 = .ok (.iload_n 2, 1) := by decide +kernel
theorem dX2_readLog_27 : decode cX2_readLog 27 = .ok (.if_icmp .ge 43, 3) := by decide +kernel
theorem dX2_readLog_30 : decode cX2_readLog 30 = .ok (.aload_n 0, 1) := by decide +kernel
theorem dX2_readLog_31 : decode cX2_readLog 31 = .ok (.aload_n 1, 1) := by decide +kernel
theorem dX2_readLog_32 : decode cX2_readLog 32 = .ok (.bipush 32, 2) := by decide +kernel
theorem dX2_readLog_34 : decode cX2_readLog 34 = .ok (.aload_n 0, 1) := by decide +kernel
theorem dX2_readLog_35 : decode cX2_readLog 35 = .ok (.getfield 61, 3) := by decide +kernel
theorem dX2_readLog_38 : decode cX2_readLog 38 = .ok (.iadd, 1) := by decide +kernel
theorem dX2_readLog_39 : decode cX2_readLog 39 = .ok (.iload 4, 2) := by decide +kernel
theorem dX2_readLog_41 : decode cX2_readLog 41 = .ok (.invokevirtual 92, 3) := by decide +kernel
theorem dX2_readLog_44 : decode cX2_readLog 44 = .ok (.ifCond .ne 8, 3) := by decide +kernel
theorem dX2_readLog_47 : decode cX2_readLog 47 = .ok (.aload_n 0, 1) := by decide +kernel
theorem dX2_readLog_48 : decode cX2_readLog 48 = .ok (.getfield 58, 3) := by decide +kernel
theorem dX2_readLog_51 : decode cX2_readLog 51 = .ok (.ireturn, 1) := by decide +kernel
theorem dX2_readLog_52 : decode cX2_readLog 52 = .ok (.aload_n 0, 1) := by decide +kernel
theorem dX2_readLog_53 : decode cX2_readLog 53 = .ok (.aload_n 1, 1) := by decide +kernel
theorem dX2_readLog_54 : decode cX2_readLog 54 = .ok (.bipush 32, 2) := by decide +kernel
theorem dX2_readLog_56 : decode cX2_readLog 56 = .ok (.aload_n 0, 1) := by decide +kernel
theorem dX2_readLog_57 : decode cX2_readLog 57 = .ok (.getfield 61, 3) := by decide +kernel
theorem dX2_readLog_60 : decode cX2_readLog 60 = .ok (.iadd, 1) := by decide +kernel
theorem dX2_readLog_61 : decode cX2_readLog 61 = .ok (.invokevirtual 96, 3) := by decide +kernel
theorem dX2_readLog_64 : decode cX2_readLog 64 = .ok (.iinc 5 1, 3) := by decide +kernel
theorem dX2_readLog_67 : decode cX2_readLog 67 = .ok (.goto (-53), 3) := by decide +kernel
theorem dX2_readLog_70 : decode cX2_readLog 70 = .ok (.iconst (-1), 1) := by decide +kernel
theorem dX2_readLog_71 : decode cX2_readLog 71 = .ok (.ireturn, 1) := by decide +kernel
theorem dX2_isRowRight_0 : decode cX2_isRowRight 0 = .ok (.aload_n 1, 1) := by decide +kernel
theorem dX2_isRowRight_1 : decode cX2_isRowRight 1 = .ok (.iload_n 2, 1) := by decide +kernel
theorem dX2_isRowRight_2 : decode cX2_isRowRight 2 = .ok (.invokevirtual 100, 3) := by decide +kernel
theorem dX2_isRowRight_5 : decode cX2_isRowRight 5 = .ok (.invokestatic 106, 3) := by decide +kernel
theorem dX2_isRowRight_8 : decode cX2_isRowRight 8 = .ok (.istore 4, 2) := by decide +kernel
theorem dX2_isRowRight_10 : decode cX2_isRowRight 10 = .ok (.iload_n 2, 1) := by decide +kernel
theorem dX2_isRowRight_11 : decode cX2_isRowRight 11 = .ok (.iconst 4, 1) := by decide +kernel
theorem dX2_isRowRight_12 : decode cX2_isRowRight 12 = .ok (.iadd, 1) := by decide +kernel
theorem dX2_isRowRight_13 : decode cX2_isRowRight 13 = .ok (.iload 4, 2) := by decide +kernel
theorem dX2_isRowRight_15 : decode cX2_isRowRight 15 = .ok (.iadd, 1) := by decide +kernel
theorem dX2_isRowRight_16 : decode cX2_isRowRight 16 = .ok (.istore 5, 2) := by decide +kernel
theorem dX2_isRowRight_18 : decode cX2_isRowRight 18 = .ok (.iload 4, 2) := by decide +kernel
theorem dX2_isRowRight_20 : decode cX2_isRowRight 20 = .ok (.iconst (-1), 1) := by decide +kernel
theorem dX2_isRowRight_21 : decode cX2_isRowRight 21 = .ok (.if_icmp .eq 24, 3) := by decide +kernel
theorem dX2_isRowRight_24 : decode cX2_isRowRight 24 = .ok (.iload 5, 2) := by decide +kernel
theorem dX2_isRowRight_26 : decode cX2_isRowRight 26 = .ok (.bipush 8, 2) := by decide +kernel
theorem dX2_isRowRight_28 : decode cX2_isRowRight 28 = .ok (.iadd, 1) := by decide +kernel
theorem dX2_isRowRight_29 : decode cX2_isRowRight 29 = .ok (.iload_n 3, 1) := by decide +kernel
theorem dX2_isRowRight_30 : decode cX2_isRowRight 30 = .ok (.if_icmp .gt 15, 3) := by decide +kernel
theorem dX2_isRowRight_33 : decode cX2_isRowRight 33 = .ok (.aload_n 1, 1) := by decide +kernel
theorem dX2_isRowRight_34 : decode cX2_isRowRight 34 = .ok (.iload_n 2, 1) := by decide +kernel
theorem dX2_isRowRight_35 : decode cX2_isRowRight 35 = .ok (.iconst 3, 1) := by decide +kernel
theorem dX2_isRowRight_36 : decode cX2_isRowRight 36 = .ok (.iadd, 1) := by decide +kernel
theorem dX2_isRowRight_37 : decode cX2_isRowRight 37 = .ok (.invokevirtual 100, 3) := by decide +kernel
theorem dX2_isRowRight_40 : decode cX2_isRowRight 40 = .ok (.iload 4, 2) := by decide +kernel
theorem dX2_isRowRight_42 : decode cX2_isRowRight 42 = .ok (.if_icmp .eq 5, 3) := by decide +kernel
theorem dX2_isRowRight_45 : decode cX2_isRowRight 45 = .ok (.iconst 0, 1) := by decide +kernel
theorem dX2_isRowRight_46 : decode cX2_isRowRight 46 = .ok (.ireturn, 1) := by decide +kernel
theorem dX2_isRowRight_47 : decode cX2_isRowRight 47 = .ok (.aload_n 1, 1) := by decide +kernel
theorem dX2_isRowRight_48 : decode cX2_isRowRight 48 = .ok (.iload_n 2, 1) := by decide +kernel
theorem dX2_isRowRight_49 : decode cX2_isRowRight 49 = .ok (.iload 5, 2) := by decide +kernel
theorem dX2_isRowRight_51 : decode cX2_isRowRight 51 = .ok (.iload_n 2, 1) := by decide +kernel
theorem dX2_isRowRight_52 : decode cX2_isRowRight 52 = .ok (.i2l, 1) := by decide +kernel
theorem dX2_isRowRight_53 : decode cX2_isRowRight 53 = .ok (.invokevirtual 109, 3) := by decide +kernel
theorem dX2_isRowRight_56 : decode cX2_isRowRight 56 = .ok (.aload_n 1, 1) := by decide +kernel
theorem dX2_isRowRight_57 : decode cX2_isRowRight 57 = .ok (.iload 5, 2) := by decide +kernel
theorem dX2_isRowRight_59 : decode cX2_isRowRight 59 = .ok (.bipush 8, 2) := by decide +kernel
theorem dX2_isRowRight_61 : decode cX2_isRowRight 61 = .ok (.invokevirtual 113, 3) := by decide +kernel
theorem dX2_isRowRight_64 : decode cX2_isRowRight 64 = .ok (.lcmp, 1) := by decide +kernel
theorem dX2_isRowRight_65 : decode cX2_isRowRight 65 = .ok (.ifCond .ne 16, 3) := by decide +kernel
theorem dX2_isRowRight_68 : decode cX2_isRowRight 68 = .ok (.aload_n 0, 1) := by decide +kernel
theorem dX2_isRowRight_69 : decode cX2_isRowRight 69 = .ok (.aload_n 1, 1) := by decide +kernel
theorem dX2_isRowRight_70 : decode cX2_isRowRight 70 = .ok (.iload_n 2, 1) := by decide +kernel
theorem dX2_isRowRight_71 : decode cX2_isRowRight 71 = .ok (.invokevirtual 116, 3) := by decide +kernel
theorem dX2_isRowRight_74 : decode cX2_isRowRight 74 = .ok (.ifCond .eq 7, 3) := by decide +kernel
theorem dX2_isRowRight_77 : decode cX2_isRowRight 77 = .ok (.iconst 1, 1) := by decide +kernel
theorem dX2_isRowRight_78 : decode cX2_isRowRight 78 = .ok (.goto 4, 3) := by decide +kernel
theorem dX2_isRowRight_81 : decode cX2_isRowRight 81 = .ok (.iconst 0, 1) := by decide +kernel
theorem dX2_isRowRight_82 : decode cX2_isRowRight 82 = .ok (.ireturn, 1) := by decide +kernel
theorem dX2_isTextRight_0 : decode cX2_isTextRight 0 = .ok (.aload_n 1, 1) := by decide +kernel
theorem dX2_isTextRight_1 : decode cX2_isTextRight 1 = .ok (.iload_n 2, 1) := by decide +kernel
theorem dX2_isTextRight_2 : decode cX2_isTextRight 2 = .ok (.iconst 1, 1) := by decide +kernel
theorem dX2_isTextRight_3 : decode cX2_isTextRight 3 = .ok (.iadd, 1) := by decide +kernel
theorem dX2_isTextRight_4 : decode cX2_isTextRight 4 = .ok (.iconst 2, 1) := by decide +kernel
theorem dX2_isTextRight_5 : decode cX2_isTextRight 5 = .ok (.invokevirtual 113, 3) := by decide +kernel
theorem dX2_isTextRight_8 : decode cX2_isTextRight 8 = .ok (.l2i, 1) := by decide +kernel
theorem dX2_isTextRight_9 : decode cX2_isTextRight 9 = .ok (.istore_n 3, 1) := by decide +kernel
theorem dX2_isTextRight_10 : decode cX2_isTextRight 10 = .ok (.iload_n 2, 1) := by decide +kernel
theorem dX2_isTextRight_11 : decode cX2_isTextRight 11 = .ok (.iconst 4, 1) := by decide +kernel
theorem dX2_isTextRight_12 : decode cX2_isTextRight 12 = .ok (.iadd, 1) := by decide +kernel
theorem dX2_isTextRight_13 : decode cX2_isTextRight 13 = .ok (.istore 4, 2) := by decide +kernel
theorem dX2_isTextRight_15 : decode cX2_isTextRight 15 = .ok (.aload_n 1, 1) := by decide +kernel
theorem dX2_isTextRight_16 : decode cX2_isTextRight 16 = .ok (.iload_n 2, 1) := by decide +kernel
theorem dX2_isTextRight_17 : decode cX2_isTextRight 17 = .ok (.invokevirtual 100, 3) := by decide +kernel
theorem dX2_isTextRight_20 : decode cX2_isTextRight 20 = .ok (.tableswitch 193 1 5 #[36, 68, 111, 141, 187], 36) := by decide +kernel
theorem dX2_isTextRight_56 : decode cX2_isTextRight 56 = .ok (.iload_n 3, 1) := by decide +kernel
theorem dX2_isTextRight_57 : decode cX2_isTextRight 57 = .ok (.aload_n 0, 1) := by decide +kernel
theorem dX2_isTextRight_58 : decode cX2_isTextRight 58 = .ok (.getfield 36, 3) := by decide +kernel
theorem dX2_isTextRight_61 : decode cX2_isTextRight 61 = .ok (.if_icmp .ge 25, 3) := by decide +kernel
theorem dX2_isTextRight_64 : decode cX2_isTextRight 64 = .ok (.aload_n 0, 1) := by decide +kernel
theorem dX2_isTextRight_65 : decode cX2_isTextRight 65 = .ok (.getfield 18, 3) := by decide +kernel
theorem dX2_isTextRight_68 : decode cX2_isTextRight 68 = .ok (.aload_n 0, 1) := by decide +kernel
theorem dX2_isTextRight_69 : decode cX2_isTextRight 69 = .ok (.getfield 18, 3) := by decide +kernel
theorem dX2_isTextRight_72 : decode cX2_isTextRight 72 = .ok (.iload_n 3, 1) := by decide +kernel
theorem dX2_isTextRight_73 : decode cX2_isTextRight 73 = .ok (.invokevirtual 120, 3) := by decide +kernel
theorem dX2_isTextRight_76 : decode cX2_isTextRight 76 = .ok (.invokevirtual 123, 3) := by decide +kernel
theorem dX2_isTextRight_79 : decode cX2_isTextRight 79 = .ok (.ifCond .ne 7, 3) := by decide +kernel
theorem dX2_isTextRight_82 : decode cX2_isTextRight 82 = .ok (.iconst 1, 1) := by decide +kernel
theorem dX2_isTextRight_83 : decode cX2_isTextRight 83 = .ok (.goto 4, 3) := by decide +kernel
theorem dX2_isTextRight_86 : decode cX2_isTextRight 86 = .ok (.iconst 0, 1) := by decide +kernel
theorem dX2_isTextRight_87 : decode cX2_isTextRight 87 = .ok (.ireturn, 1) := by decide +kernel
theorem dX2_isTextRight_88 : decode cX2_isTextRight 88 = .ok (.iload_n 3, 1) := by decide +kernel
theorem dX2_isTextRight_89 : decode cX2_isTextRight 89 = .ok (.aload_n 0, 1) := by decide +kernel
theorem dX2_isTextRight_90 : decode cX2_isTextRight 90 = .ok (.getfield 49, 3) := by decide +kernel
theorem dX2_isTextRight_93 : decode cX2_isTextRight 93 = .ok (.if_icmp .ne 36, 3) := by decide +kernel
theorem dX2_isTextRight_96 : decode cX2_isTextRight 96 = .ok (.aload_n 0, 1) := by decide +kernel
theorem dX2_isTextRight_97 : decode cX2_isTextRight 97 = .ok (.aload_n 1, 1) := by decide +kernel
theorem dX2_isTextRight_98 : decode cX2_isTextRight 98 = .ok (.iload 4, 2) := by decide +kernel
theorem dX2_isTextRight_100 : decode cX2_isTextRight 100 = .ok (.invokevirtual 100, 3) := by decide +kernel
theorem dX2_isTextRight_103 : decode cX2_isTextRight 103 = .ok (.aload_n 1, 1) := by decide +kernel
theorem dX2_isTextRight_104 : decode cX2_isTextRight 104 = .ok (.iload 4, 2) := by decide +kernel
theorem dX2_isTextRight_106 : decode cX2_isTextRight 106 = .ok (.iconst 1, 1) := by decide +kernel
theorem dX2_isTextRight_107 : decode cX2_isTextRight 107 = .ok (.iadd, 1) := by decide +kernel
theorem dX2_isTextRight_108 : decode cX2_isTextRight 108 = .ok (.invokevirtual 100, 3) := by decide +kernel
theorem dX2_isTextRight_111 : decode cX2_isTextRight 111 = .ok (.aload_n 1, 1) := by decide +kernel
theorem dX2_isTextRight_112 : decode cX2_isTextRight 112 = .ok (.iload 4, 2) := by decide +kernel
theorem dX2_isTextRight_114 : decode cX2_isTextRight 114 = .ok (.iconst 2, 1) := by decide +kernel
theorem dX2_isTextRight_115 : decode cX2_isTextRight 115 = .ok (.iadd, 1) := by decide +kernel
theorem dX2_isTextRight_116 : decode cX2_isTextRight 116 = .ok (.invokevirtual 100, 3) := by decide +kernel
theorem dX2_isTextRight_119 : decode cX2_isTextRight 119 = .ok (.invokevirtual 126, 3) := by decide +kernel
theorem dX2_isTextRight_122 : decode cX2_isTextRight 122 = .ok (.ifCond .eq 7, 3) := by decide +kernel
theorem dX2_isTextRight_125 : decode cX2_isTextRight 125 = .ok (.iconst 1, 1) := by decide +kernel
theorem dX2_isTextRight_126 : decode cX2_isTextRight 126 = .ok (.goto 4, 3) := by decide +kernel
theorem dX2_isTextRight_129 : decode cX2_isTextRight 129 = .ok (.iconst 0, 1) := by decide +kernel
theorem dX2_isTextRight_130 : decode cX2_isTextRight 130 = .ok (.ireturn, 1) := by decide +kernel
theorem dX2_isTextRight_131 : decode cX2_isTextRight 131 = .ok (.iload_n 3, 1) := by decide +kernel
theorem dX2_isTextRight_132 : decode cX2_isTextRight 132 = .ok (.aload_n 0, 1) := by decide +kernel
theorem dX2_isTextRight_133 : decode cX2_isTextRight 133 = .ok (.getfield 52, 3) := by decide +kernel
theorem dX2_isTextRight_136 : decode cX2_isTextRight 136 = .ok (.if_icmp .ne 23, 3) := by decide +kernel
theorem dX2_isTextRight_139 : decode cX2_isTextRight 139 = .ok (.iload_n 3, 1) := by decide +kernel
theorem dX2_isTextRight_140 : decode cX2_isTextRight 140 = .ok (.bipush 100, 2) := by decide +kernel
theorem dX2_isTextRight_142 : decode cX2_isTextRight 142 = .ok (.if_icmp .ge 17, 3) := by decide +kernel
theorem dX2_isTextRight_145 : decode cX2_isTextRight 145 = .ok (.aload_n 0, 1) := by decide +kernel
theorem dX2_isTextRight_146 : decode cX2_isTextRight 146 = .ok (.aload_n 1, 1) := by decide +kernel
theorem dX2_isTextRight_147 : decode cX2_isTextRight 147 = .ok (.iload 4, 2) := by decide +kernel
theorem dX2_isTextRight_149 : decode cX2_isTextRight 149 = .ok (.invokevirtual 130, 3) := by decide +kernel
theorem dX2_isTextRight_152 : decode cX2_isTextRight 152 = .ok (.ifCond .eq 7, 3) := by decide +kernel
theorem dX2_isTextRight_155 : decode cX2_isTextRight 155 = .ok (.iconst 1, 1) := by decide +kernel
theorem dX2_isTextRight_156 : decode cX2_isTextRight 156 = .ok (.goto 4, 3) := by decide +kernel
theorem dX2_isTextRight_159 : decode cX2_isTextRight 159 = .ok (.iconst 0, 1) := by decide +kernel
theorem dX2_isTextRight_160 : decode cX2_isTextRight 160 = .ok (.ireturn, 1) := by decide +kernel
theorem dX2_isTextRight_161 : decode cX2_isTextRight 161 = .ok (.iload_n 3, 1) := by decide +kernel
theorem dX2_isTextRight_162 : decode cX2_isTextRight 162 = .ok (.aload_n 0, 1) := by decide +kernel
theorem dX2_isTextRight_163 : decode cX2_isTextRight 163 = .ok (.getfield 55, 3) := by decide +kernel
theorem dX2_isTextRight_166 : decode cX2_isTextRight 166 = .ok (.if_icmp .ne 39, 3) := by decide +kernel
theorem dX2_isTextRight_169 : decode cX2_isTextRight 169 = .ok (.iload_n 3, 1) := by decide +kernel
theorem dX2_isTextRight_170 : decode cX2_isTextRight 170 = .ok (.bipush 100, 2) := by decide +kernel
theorem dX2_isTextRight_172 : decode cX2_isTextRight 172 = .ok (.if_icmp .ge 33, 3) := by decide +kernel
theorem dX2_isTextRight_175 : decode cX2_isTextRight 175 = .ok (.aload_n 0, 1) := by decide +kernel
theorem dX2_isTextRight_176 : decode cX2_isTextRight 176 = .ok (.aload_n 1, 1) := by decide +kernel
theorem dX2_isTextRight_177 : decode cX2_isTextRight 177 = .ok (.iload 4, 2) := by decide +kernel
theorem dX2_isTextRight_179 : decode cX2_isTextRight 179 = .ok (.invokevirtual 100, 3) := by decide +kernel
theorem dX2_isTextRight_182 : decode cX2_isTextRight 182 = .ok (.invokevirtual 64, 3) := by decide +kernel
theorem dX2_isTextRight_185 : decode cX2_isTextRight 185 = .ok (.ifCond .eq 20, 3) := by decide +kernel
theorem dX2_isTextRight_188 : decode cX2_isTextRight 188 = .ok (.aload_n 1, 1) := by decide +kernel
theorem dX2_isTextRight_189 : decode cX2_isTextRight 189 = .ok (.iload 4, 2) := by decide +kernel
theorem dX2_isTextRight_191 : decode cX2_isTextRight 191 = .ok (.iconst 1, 1) := by decide +kernel
theorem dX2_isTextRight_192 : decode cX2_isTextRight 192 = .ok (.iadd, 1) := by decide +kernel
theorem dX2_isTextRight_193 : decode cX2_isTextRight 193 = .ok (.invokevirtual 100, 3) := by decide +kernel
theorem dX2_isTextRight_196 : decode cX2_isTextRight 196 = .ok (.bipush 64, 2) := by decide +kernel
theorem dX2_isTextRight_198 : decode cX2_isTextRight 198 = .ok (.if_icmp .ge 7, 3) := by decide +kernel
theorem dX2_isTextRight_201 : decode cX2_isTextRight 201 = .ok (.iconst 1, 1) := by decide +kernel
theorem dX2_isTextRight_202 : decode cX2_isTextRight 202 = .ok (.goto 4, 3) := by decide +kernel
theorem dX2_isTextRight_205 : decode cX2_isTextRight 205 = .ok (.iconst 0, 1) := by decide +kernel
theorem dX2_isTextRight_206 : decode cX2_isTextRight 206 = .ok (.ireturn, 1) := by decide +kernel
theorem dX2_isTextRight_207 : decode cX2_isTextRight 207 = .ok (.aload_n 0, 1) := by decide +kernel
theorem dX2_isTextRight_208 : decode cX2_isTextRight 208 = .ok (.iload_n 3, 1) := by decide +kernel
theorem dX2_isTextRight_209 : decode cX2_isTextRight 209 = .ok (.invokevirtual 64, 3) := by decide +kernel
theorem dX2_isTextRight_212 : decode cX2_isTextRight 212 = .ok (.ireturn, 1) := by decide +kernel
theorem dX2_isTextRight_213 : decode cX2_isTextRight 213 = .ok (.iconst 0, 1) := by decide +kernel
theorem dX2_isTextRight_214 : decode cX2_isTextRight 214 = .ok (.ireturn, 1) := by decide +kernel
theorem dX2_isChange_0 : decode cX2_isChange 0 = .ok (.iload_n 1, 1) := by decide +kernel
theorem dX2_isChange_1 : decode cX2_isChange 1 = .ok (.bipush 64, 2) := by decide +kernel
theorem dX2_isChange_3 : decode cX2_isChange 3 = .ok (.if_icmp .ge 33, 3) := by decide +kernel
theorem dX2_isChange_6 : decode cX2_isChange 6 = .ok (.iload_n 2, 1) := by decide +kernel
theorem dX2_isChange_7 : decode cX2_isChange 7 = .ok (.bipush 64, 2) := by decide +kernel
theorem dX2_isChange_9 : decode cX2_isChange 9 = .ok (.if_icmp .ge 27, 3) := by decide +kernel
theorem dX2_isChange_12 : decode cX2_isChange 12 = .ok (.iload_n 3, 1) := by decide +kernel
theorem dX2_isChange_13 : decode cX2_isChange 13 = .ok (.iconst 1, 1) := by decide +kernel
theorem dX2_isChange_14 : decode cX2_isChange 14 = .ok (.if_icmp .gt 22, 3) := by decide +kernel
theorem dX2_isChange_17 : decode cX2_isChange 17 = .ok (.aload_n 0, 1) := by decide +kernel
theorem dX2_isChange_18 : decode cX2_isChange 18 = .ok (.iload_n 1, 1) := by decide +kernel
theorem dX2_isChange_19 : decode cX2_isChange 19 = .ok (.invokevirtual 68, 3) := by decide +kernel
theorem dX2_isChange_22 : decode cX2_isChange 22 = .ok (.iload_n 2, 1) := by decide +kernel
theorem dX2_isChange_23 : decode cX2_isChange 23 = .ok (.lushr, 1) := by decide +kernel
theorem dX2_isChange_24 : decode cX2_isChange 24 = .ok (.lconst 1, 1) := by decide +kernel
theorem dX2_isChange_25 : decode cX2_isChange 25 = .ok (.land, 1) := by decide +kernel
theorem dX2_isChange_26 : decode cX2_isChange 26 = .ok (.iload_n 3, 1) := by decide +kernel
theorem dX2_isChange_27 : decode cX2_isChange 27 = .ok (.i2l, 1) := by decide +kernel
theorem dX2_isChange_28 : decode cX2_isChange 28 = .ok (.lcmp, 1) := by decide +kernel
theorem dX2_isChange_29 : decode cX2_isChange 29 = .ok (.ifCond .eq 7, 3) := by decide +kernel
theorem dX2_isChange_32 : decode cX2_isChange 32 = .ok (.iconst 1, 1) := by decide +kernel
theorem dX2_isChange_33 : decode cX2_isChange 33 = .ok (.goto 4, 3) := by decide +kernel
theorem dX2_isChange_36 : decode cX2_isChange 36 = .ok (.iconst 0, 1) := by decide +kernel
theorem dX2_isChange_37 : decode cX2_isChange 37 = .ok (.ireturn, 1) := by decide +kernel
theorem dX2_haveCome_0 : decode cX2_haveCome 0 = .ok (.iconst 0, 1) := by decide +kernel
theorem dX2_haveCome_1 : decode cX2_haveCome 1 = .ok (.istore_n 3, 1) := by decide +kernel
theorem dX2_haveCome_2 : decode cX2_haveCome 2 = .ok (.iload_n 3, 1) := by decide +kernel
theorem dX2_haveCome_3 : decode cX2_haveCome 3 = .ok (.bipush 8, 2) := by decide +kernel
theorem dX2_haveCome_5 : decode cX2_haveCome 5 = .ok (.if_icmp .ge 33, 3) := by decide +kernel
theorem dX2_haveCome_8 : decode cX2_haveCome 8 = .ok (.aload_n 0, 1) := by decide +kernel
theorem dX2_haveCome_9 : decode cX2_haveCome 9 = .ok (.getfield 18, 3) := by decide +kernel
theorem dX2_haveCome_12 : decode cX2_haveCome 12 = .ok (.aload_n 1, 1) := by decide +kernel
theorem dX2_haveCome_13 : decode cX2_haveCome 13 = .ok (.iload_n 2, 1) := by decide +kernel
theorem dX2_haveCome_14 : decode cX2_haveCome 14 = .ok (.iconst 2, 1) := by decide +kernel
theorem dX2_haveCome_15 : decode cX2_haveCome 15 = .ok (.iload_n 3, 1) := by decide +kernel
theorem dX2_haveCome_16 : decode cX2_haveCome 16 = .ok (.imul, 1) := by decide +kernel
theorem dX2_haveCome_17 : decode cX2_haveCome 17 = .ok (.iadd, 1) := by decide +kernel
theorem dX2_haveCome_18 : decode cX2_haveCome 18 = .ok (.iconst 2, 1) := by decide +kernel
theorem dX2_haveCome_19 : decode cX2_haveCome 19 = .ok (.invokevirtual 113, 3) := by decide +kernel
theorem dX2_haveCome_22 : decode cX2_haveCome 22 = .ok (.l2i, 1) := by decide +kernel
theorem dX2_haveCome_23 : decode cX2_haveCome 23 = .ok (.invokevirtual 120, 3) := by decide +kernel
theorem dX2_haveCome_26 : decode cX2_haveCome 26 = .ok (.iconst (-1), 1) := by decide +kernel
theorem dX2_haveCome_27 : decode cX2_haveCome 27 = .ok (.if_icmp .ne 5, 3) := by decide +kernel
theorem dX2_haveCome_30 : decode cX2_haveCome 30 = .ok (.iconst 0, 1) := by decide +kernel
theorem dX2_haveCome_31 : decode cX2_haveCome 31 = .ok (.ireturn, 1) := by decide +kernel
theorem dX2_haveCome_32 : decode cX2_haveCome 32 = .ok (.iinc 3 1, 3) := by decide +kernel
theorem dX2_haveCome_35 : decode cX2_haveCome 35 = .ok (.goto (-33), 3) := by decide +kernel
theorem dX2_haveCome_38 : decode cX2_haveCome 38 = .ok (.iconst 1, 1) := by decide +kernel
theorem dX2_haveCome_39 : decode cX2_haveCome 39 = .ok (.ireturn, 1) := by decide +kernel
theorem dX2_takeRow_0 : decode cX2_takeRow 0 = .ok (.aload_n 1, 1) := by decide +kernel
theorem dX2_takeRow_1 : decode cX2_takeRow 1 = .ok (.iload_n 2, 1) := by decide +kernel
theorem dX2_takeRow_2 : decode cX2_takeRow 2 = .ok (.invokevirtual 100, 3) := by decide +kernel
theorem dX2_takeRow_5 : decode cX2_takeRow 5 = .ok (.istore_n 3, 1) := by decide +kernel
theorem dX2_takeRow_6 : decode cX2_takeRow 6 = .ok (.aload_n 1, 1) := by decide +kernel
theorem dX2_takeRow_7 : decode cX2_takeRow 7 = .ok (.iload_n 2, 1) := by decide +kernel
theorem dX2_takeRow_8 : decode cX2_takeRow 8 = .ok (.iconst 1, 1) := by decide +kernel
theorem dX2_takeRow_9 : decode cX2_takeRow 9 = .ok (.iadd, 1) := by decide +kernel
theorem dX2_takeRow_10 : decode cX2_takeRow 10 = .ok (.iconst 2, 1) := by decide +kernel
theorem dX2_takeRow_11 : decode cX2_takeRow 11 = .ok (.invokevirtual 113, 3) := by decide +kernel
theorem dX2_takeRow_14 : decode cX2_takeRow 14 = .ok (.l2i, 1) := by decide +kernel
theorem dX2_takeRow_15 : decode cX2_takeRow 15 = .ok (.istore 4, 2) := by decide +kernel
theorem dX2_takeRow_17 : decode cX2_takeRow 17 = .ok (.iload_n 2, 1) := by decide +kernel
theorem dX2_takeRow_18 : decode cX2_takeRow 18 = .ok (.iconst 4, 1) := by decide +kernel
theorem dX2_takeRow_19 : decode cX2_takeRow 19 = .ok (.iadd, 1) := by decide +kernel
theorem dX2_takeRow_20 : decode cX2_takeRow 20 = .ok (.istore 5, 2) := by decide +kernel
theorem dX2_takeRow_22 : decode cX2_takeRow 22 = .ok (.iload_n 3, 1) := by decide +kernel
theorem dX2_takeRow_23 : decode cX2_takeRow 23 = .ok (.tableswitch 98 1 4 #[29, 44, 65, 75], 29) := by decide +kernel
theorem dX2_takeRow_52 : decode cX2_takeRow 52 = .ok (.aload_n 0, 1) := by decide +kernel
theorem dX2_takeRow_53 : decode cX2_takeRow 53 = .ok (.getfield 18, 3) := by decide +kernel
theorem dX2_takeRow_56 : decode cX2_takeRow 56 = .ok (.iload 4, 2) := by decide +kernel
theorem dX2_takeRow_58 : decode cX2_takeRow 58 = .ok (.aload_n 1, 1) := by decide +kernel
theorem dX2_takeRow_59 : decode cX2_takeRow 59 = .ok (.iload 5, 2) := by decide +kernel
theorem dX2_takeRow_61 : decode cX2_takeRow 61 = .ok (.invokevirtual 133, 3) := by decide +kernel
theorem dX2_takeRow_64 : decode cX2_takeRow 64 = .ok (.goto 63, 3) := by decide +kernel
theorem dX2_takeRow_67 : decode cX2_takeRow 67 = .ok (.aload_n 0, 1) := by decide +kernel
theorem dX2_takeRow_68 : decode cX2_takeRow 68 = .ok (.aload_n 1, 1) := by decide +kernel
theorem dX2_takeRow_69 : decode cX2_takeRow 69 = .ok (.iload 5, 2) := by decide +kernel
theorem dX2_takeRow_71 : decode cX2_takeRow 71 = .ok (.invokevirtual 100, 3) := by decide +kernel
theorem dX2_takeRow_74 : decode cX2_takeRow 74 = .ok (.aload_n 1, 1) := by decide +kernel
theorem dX2_takeRow_75 : decode cX2_takeRow 75 = .ok (.iload 5, 2) := by decide +kernel
theorem dX2_takeRow_77 : decode cX2_takeRow 77 = .ok (.iconst 1, 1) := by decide +kernel
theorem dX2_takeRow_78 : decode cX2_takeRow 78 = .ok (.iadd, 1) := by decide +kernel
theorem dX2_takeRow_79 : decode cX2_takeRow 79 = .ok (.invokevirtual 100, 3) := by decide +kernel
theorem dX2_takeRow_82 : decode cX2_takeRow 82 = .ok (.invokevirtual 137, 3) := by decide +kernel
theorem dX2_takeRow_85 : decode cX2_takeRow 85 = .ok (.goto 42, 3) := by decide +kernel
theorem dX2_takeRow_88 : decode cX2_takeRow 88 = .ok (.aload_n 0, 1) := by decide +kernel
theorem dX2_takeRow_89 : decode cX2_takeRow 89 = .ok (.aload_n 1, 1) := by decide +kernel
theorem dX2_takeRow_90 : decode cX2_takeRow 90 = .ok (.iload 5, 2) := by decide +kernel
theorem dX2_takeRow_92 : decode cX2_takeRow 92 = .ok (.invokevirtual 141, 3) := by decide +kernel
theorem dX2_takeRow_95 : decode cX2_takeRow 95 = .ok (.goto 32, 3) := by decide +kernel
theorem dX2_takeRow_98 : decode cX2_takeRow 98 = .ok (.aload_n 0, 1) := by decide +kernel
theorem dX2_takeRow_99 : decode cX2_takeRow 99 = .ok (.aload_n 1, 1) := by decide +kernel
theorem dX2_takeRow_100 : decode cX2_takeRow 100 = .ok (.iload 5, 2) := by decide +kernel
theorem dX2_takeRow_102 : decode cX2_takeRow 102 = .ok (.invokevirtual 100, 3) := by decide +kernel
theorem dX2_takeRow_105 : decode cX2_takeRow 105 = .ok (.aload_n 1, 1) := by decide +kernel
theorem dX2_takeRow_106 : decode cX2_takeRow 106 = .ok (.iload 5, 2) := by decide +kernel
theorem dX2_takeRow_108 : decode cX2_takeRow 108 = .ok (.iconst 2, 1) := by decide +kernel
theorem dX2_takeRow_109 : decode cX2_takeRow 109 = .ok (.iadd, 1) := by decide +kernel
theorem dX2_takeRow_110 : decode cX2_takeRow 110 = .ok (.bipush 8, 2) := by decide +kernel
theorem dX2_takeRow_112 : decode cX2_takeRow 112 = .ok (.invokevirtual 113, 3) := by decide +kernel
theorem dX2_takeRow_115 : decode cX2_takeRow 115 = .ok (.invokevirtual 144, 3) := by decide +kernel
theorem dX2_takeRow_118 : decode cX2_takeRow 118 = .ok (.goto 9, 3) := by decide +kernel
theorem dX2_takeRow_121 : decode cX2_takeRow 121 = .ok (.aload_n 0, 1) := by decide +kernel
theorem dX2_takeRow_122 : decode cX2_takeRow 122 = .ok (.iload 4, 2) := by decide +kernel
theorem dX2_takeRow_124 : decode cX2_takeRow 124 = .ok (.invokevirtual 148, 3) := by decide +kernel
theorem dX2_takeRow_127 : decode cX2_takeRow 127 = .ok (.aload_n 0, 1) := by decide +kernel
theorem dX2_takeRow_128 : decode cX2_takeRow 128 = .ok (.dup, 1) := by decide +kernel
theorem dX2_takeRow_129 : decode cX2_takeRow 129 = .ok (.getfield 58, 3) := by decide +kernel
theorem dX2_takeRow_132 : decode cX2_takeRow 132 = .ok (.iconst 1, 1) := by decide +kernel
theorem dX2_takeRow_133 : decode cX2_takeRow 133 = .ok (.iadd, 1) := by decide +kernel
theorem dX2_takeRow_134 : decode cX2_takeRow 134 = .ok (.putfield 58, 3) := by decide +kernel
theorem dX2_takeRow_137 : decode cX2_takeRow 137 = .ok (.aload_n 0, 1) := by decide +kernel
theorem dX2_takeRow_138 : decode cX2_takeRow 138 = .ok (.dup, 1) := by decide +kernel
theorem dX2_takeRow_139 : decode cX2_takeRow 139 = .ok (.getfield 61, 3) := by decide +kernel
theorem dX2_takeRow_142 : decode cX2_takeRow 142 = .ok (.bipush 12, 2) := by decide +kernel
theorem dX2_takeRow_144 : decode cX2_takeRow 144 = .ok (.iload_n 3, 1) := by decide +kernel
theorem dX2_takeRow_145 : decode cX2_takeRow 145 = .ok (.invokestatic 106, 3) := by decide +kernel
theorem dX2_takeRow_148 : decode cX2_takeRow 148 = .ok (.iadd, 1) := by decide +kernel
theorem dX2_takeRow_149 : decode cX2_takeRow 149 = .ok (.iadd, 1) := by decide +kernel
theorem dX2_takeRow_150 : decode cX2_takeRow 150 = .ok (.putfield 61, 3) := by decide +kernel
theorem dX2_takeRow_153 : decode cX2_takeRow 153 = .ok (.return_, 1) := by decide +kernel
theorem dX2_takeChange_0 : decode cX2_takeChange 0 = .ok (.iload_n 1, 1) := by decide +kernel
theorem dX2_takeChange_1 : decode cX2_takeChange 1 = .ok (.ifCond .lt 21, 3) := by decide +kernel
theorem dX2_takeChange_4 : decode cX2_takeChange 4 = .ok (.iload_n 1, 1) := by decide +kernel
theorem dX2_takeChange_5 : decode cX2_takeChange 5 = .ok (.bipush 64, 2) := by decide +kernel
theorem dX2_takeChange_7 : decode cX2_takeChange 7 = .ok (.if_icmp .ge 15, 3) := by decide +kernel
theorem dX2_takeChange_10 : decode cX2_takeChange 10 = .ok (.aload_n 0, 1) := by decide +kernel
theorem dX2_takeChange_11 : decode cX2_takeChange 11 = .ok (.getfield 9, 3) := by decide +kernel
theorem dX2_takeChange_14 : decode cX2_takeChange 14 = .ok (.iload_n 1, 1) := by decide +kernel
theorem dX2_takeChange_15 : decode cX2_takeChange 15 = .ok (.dup2, 1) := by decide +kernel
theorem dX2_takeChange_16 : decode cX2_takeChange 16 = .ok (.laload, 1) := by decide +kernel
theorem dX2_takeChange_17 : decode cX2_takeChange 17 = .ok (.lconst 1, 1) := by decide +kernel
theorem dX2_takeChange_18 : decode cX2_takeChange 18 = .ok (.iload_n 2, 1) := by decide +kernel
theorem dX2_takeChange_19 : decode cX2_takeChange 19 = .ok (.lshl, 1) := by decide +kernel
theorem dX2_takeChange_20 : decode cX2_takeChange 20 = .ok (.lxor, 1) := by decide +kernel
theorem dX2_takeChange_21 : decode cX2_takeChange 21 = .ok (.lastore, 1) := by decide +kernel
theorem dX2_takeChange_22 : decode cX2_takeChange 22 = .ok (.aload_n 0, 1) := by decide +kernel
theorem dX2_takeChange_23 : decode cX2_takeChange 23 = .ok (.dup, 1) := by decide +kernel
theorem dX2_takeChange_24 : decode cX2_takeChange 24 = .ok (.getfield 49, 3) := by decide +kernel
theorem dX2_takeChange_27 : decode cX2_takeChange 27 = .ok (.iconst 1, 1) := by decide +kernel
theorem dX2_takeChange_28 : decode cX2_takeChange 28 = .ok (.iadd, 1) := by decide +kernel
theorem dX2_takeChange_29 : decode cX2_takeChange 29 = .ok (.putfield 49, 3) := by decide +kernel
theorem dX2_takeChange_32 : decode cX2_takeChange 32 = .ok (.return_, 1) := by decide +kernel
theorem dX2_takeVersion_0 : decode cX2_takeVersion 0 = .ok (.aload_n 0, 1) := by decide +kernel
theorem dX2_takeVersion_1 : decode cX2_takeVersion 1 = .ok (.getfield 52, 3) := by decide +kernel
theorem dX2_takeVersion_4 : decode cX2_takeVersion 4 = .ok (.ifCond .lt 12, 3) := by decide +kernel
theorem dX2_takeVersion_7 : decode cX2_takeVersion 7 = .ok (.aload_n 0, 1) := by decide +kernel
theorem dX2_takeVersion_8 : decode cX2_takeVersion 8 = .ok (.getfield 52, 3) := by decide +kernel
theorem dX2_takeVersion_11 : decode cX2_takeVersion 11 = .ok (.bipush 100, 2) := by decide +kernel
theorem dX2_takeVersion_13 : decode cX2_takeVersion 13 = .ok (.if_icmp .lt 4, 3) := by decide +kernel
theorem dX2_takeVersion_16 : decode cX2_takeVersion 16 = .ok (.return_, 1) := by decide +kernel
theorem dX2_takeVersion_17 : decode cX2_takeVersion 17 = .ok (.iconst 0, 1) := by decide +kernel
theorem dX2_takeVersion_18 : decode cX2_takeVersion 18 = .ok (.istore_n 3, 1) := by decide +kernel
theorem dX2_takeVersion_19 : decode cX2_takeVersion 19 = .ok (.iload_n 3, 1) := by decide +kernel
theorem dX2_takeVersion_20 : decode cX2_takeVersion 20 = .ok (.bipush 8, 2) := by decide +kernel
theorem dX2_takeVersion_22 : decode cX2_takeVersion 22 = .ok (.if_icmp .ge 41, 3) := by decide +kernel
theorem dX2_takeVersion_25 : decode cX2_takeVersion 25 = .ok (.aload_n 0, 1) := by decide +kernel
theorem dX2_takeVersion_26 : decode cX2_takeVersion 26 = .ok (.getfield 26, 3) := by decide +kernel
theorem dX2_takeVersion_29 : decode cX2_takeVersion 29 = .ok (.aload_n 0, 1) := by decide +kernel
theorem dX2_takeVersion_30 : decode cX2_takeVersion 30 = .ok (.getfield 52, 3) := by decide +kernel
theorem dX2_takeVersion_33 : decode cX2_takeVersion 33 = .ok (.bipush 8, 2) := by decide +kernel
theorem dX2_takeVersion_35 : decode cX2_takeVersion 35 = .ok (.imul, 1) := by decide +kernel
theorem dX2_takeVersion_36 : decode cX2_takeVersion 36 = .ok (.iload_n 3, 1) := by decide +kernel
theorem dX2_takeVersion_37 : decode cX2_takeVersion 37 = .ok (.iadd, 1) := by decide +kernel
theorem dX2_takeVersion_38 : decode cX2_takeVersion 38 = .ok (.aload_n 0, 1) := by decide +kernel
theorem dX2_takeVersion_39 : decode cX2_takeVersion 39 = .ok (.getfield 18, 3) := by decide +kernel
theorem dX2_takeVersion_42 : decode cX2_takeVersion 42 = .ok (.aload_n 1, 1) := by decide +kernel
theorem dX2_takeVersion_43 : decode cX2_takeVersion 43 = .ok (.iload_n 2, 1) := by decide +kernel
theorem dX2_takeVersion_44 : decode cX2_takeVersion 44 = .ok (.iconst 2, 1) := by decide +kernel
theorem dX2_takeVersion_45 : decode cX2_takeVersion 45 = .ok (.iload_n 3, 1) := by decide +kernel
theorem dX2_takeVersion_46 : decode cX2_takeVersion 46 = .ok (.imul, 1) := by decide +kernel
theorem dX2_takeVersion_47 : decode cX2_takeVersion 47 = .ok (.iadd, 1) := by decide +kernel
theorem dX2_takeVersion_48 : decode cX2_takeVersion 48 = .ok (.iconst 2, 1) := by decide +kernel
theorem dX2_takeVersion_49 : decode cX2_takeVersion 49 = .ok (.invokevirtual 113, 3) := by decide +kernel
theorem dX2_takeVersion_52 : decode cX2_takeVersion 52 = .ok (.l2i, 1) := by decide +kernel
theorem dX2_takeVersion_53 : decode cX2_takeVersion 53 = .ok (.invokevirtual 120, 3) := by decide +kernel
theorem dX2_takeVersion_56 : decode cX2_takeVersion 56 = .ok (.iastore, 1) := by decide +kernel
theorem dX2_takeVersion_57 : decode cX2_takeVersion 57 = .ok (.iinc 3 1, 3) := by decide +kernel
theorem dX2_takeVersion_60 : decode cX2_takeVersion 60 = .ok (.goto (-41), 3) := by decide +kernel
theorem dX2_takeVersion_63 : decode cX2_takeVersion 63 = .ok (.aload_n 0, 1) := by decide +kernel
theorem dX2_takeVersion_64 : decode cX2_takeVersion 64 = .ok (.getfield 22, 3) := by decide +kernel
theorem dX2_takeVersion_67 : decode cX2_takeVersion 67 = .ok (.aload_n 0, 1) := by decide +kernel
theorem dX2_takeVersion_68 : decode cX2_takeVersion 68 = .ok (.getfield 52, 3) := by decide +kernel
theorem dX2_takeVersion_71 : decode cX2_takeVersion 71 = .ok (.iconst 1, 1) := by decide +kernel
theorem dX2_takeVersion_72 : decode cX2_takeVersion 72 = .ok (.bastore, 1) := by decide +kernel
theorem dX2_takeVersion_73 : decode cX2_takeVersion 73 = .ok (.aload_n 0, 1) := by decide +kernel
theorem dX2_takeVersion_74 : decode cX2_takeVersion 74 = .ok (.aload_n 0, 1) := by decide +kernel
theorem dX2_takeVersion_75 : decode cX2_takeVersion 75 = .ok (.getfield 52, 3) := by decide +kernel
theorem dX2_takeVersion_78 : decode cX2_takeVersion 78 = .ok (.iconst 1, 1) := by decide +kernel
theorem dX2_takeVersion_79 : decode cX2_takeVersion 79 = .ok (.invokevirtual 151, 3) := by decide +kernel
theorem dX2_takeVersion_82 : decode cX2_takeVersion 82 = .ok (.aload_n 0, 1) := by decide +kernel
theorem dX2_takeVersion_83 : decode cX2_takeVersion 83 = .ok (.dup, 1) := by decide +kernel
theorem dX2_takeVersion_84 : decode cX2_takeVersion 84 = .ok (.getfield 52, 3) := by decide +kernel
theorem dX2_takeVersion_87 : decode cX2_takeVersion 87 = .ok (.iconst 1, 1) := by decide +kernel
theorem dX2_takeVersion_88 : decode cX2_takeVersion 88 = .ok (.iadd, 1) := by decide +kernel
theorem dX2_takeVersion_89 : decode cX2_takeVersion 89 = .ok (.putfield 52, 3) := by decide +kernel
theorem dX2_takeVersion_92 : decode cX2_takeVersion 92 = .ok (.return_, 1) := by decide +kernel
theorem dX2_takeAnswer_0 : decode cX2_takeAnswer 0 = .ok (.aload_n 0, 1) := by decide +kernel
theorem dX2_takeAnswer_1 : decode cX2_takeAnswer 1 = .ok (.getfield 55, 3) := by decide +kernel
theorem dX2_takeAnswer_4 : decode cX2_takeAnswer 4 = .ok (.ifCond .lt 12, 3) := by decide +kernel
theorem dX2_takeAnswer_7 : decode cX2_takeAnswer 7 = .ok (.aload_n 0, 1) := by decide +kernel
theorem dX2_takeAnswer_8 : decode cX2_takeAnswer 8 = .ok (.getfield 55, 3) := by decide +kernel
theorem dX2_takeAnswer_11 : decode cX2_takeAnswer 11 = .ok (.bipush 100, 2) := by decide +kernel
theorem dX2_takeAnswer_13 : decode cX2_takeAnswer 13 = .ok (.if_icmp .lt 4, 3) := by decide +kernel
theorem dX2_takeAnswer_16 : decode cX2_takeAnswer 16 = .ok (.return_, 1) := by decide +kernel
theorem dX2_takeAnswer_17 : decode cX2_takeAnswer 17 = .ok (.aload_n 0, 1) := by decide +kernel
theorem dX2_takeAnswer_18 : decode cX2_takeAnswer 18 = .ok (.getfield 30, 3) := by decide +kernel
theorem dX2_takeAnswer_21 : decode cX2_takeAnswer 21 = .ok (.aload_n 0, 1) := by decide +kernel
theorem dX2_takeAnswer_22 : decode cX2_takeAnswer 22 = .ok (.getfield 55, 3) := by decide +kernel
theorem dX2_takeAnswer_25 : decode cX2_takeAnswer 25 = .ok (.iload_n 1, 1) := by decide +kernel
theorem dX2_takeAnswer_26 : decode cX2_takeAnswer 26 = .ok (.iastore, 1) := by decide +kernel
theorem dX2_takeAnswer_27 : decode cX2_takeAnswer 27 = .ok (.aload_n 0, 1) := by decide +kernel
theorem dX2_takeAnswer_28 : decode cX2_takeAnswer 28 = .ok (.getfield 33, 3) := by decide +kernel
theorem dX2_takeAnswer_31 : decode cX2_takeAnswer 31 = .ok (.aload_n 0, 1) := by decide +kernel
theorem dX2_takeAnswer_32 : decode cX2_takeAnswer 32 = .ok (.getfield 55, 3) := by decide +kernel
theorem dX2_takeAnswer_35 : decode cX2_takeAnswer 35 = .ok (.lload_n 2, 1) := by decide +kernel
theorem dX2_takeAnswer_36 : decode cX2_takeAnswer 36 = .ok (.lastore, 1) := by decide +kernel
theorem dX2_takeAnswer_37 : decode cX2_takeAnswer 37 = .ok (.aload_n 0, 1) := by decide +kernel
theorem dX2_takeAnswer_38 : decode cX2_takeAnswer 38 = .ok (.dup, 1) := by decide +kernel
theorem dX2_takeAnswer_39 : decode cX2_takeAnswer 39 = .ok (.getfield 55, 3) := by decide +kernel
theorem dX2_takeAnswer_42 : decode cX2_takeAnswer 42 = .ok (.iconst 1, 1) := by decide +kernel
theorem dX2_takeAnswer_43 : decode cX2_takeAnswer 43 = .ok (.iadd, 1) := by decide +kernel
theorem dX2_takeAnswer_44 : decode cX2_takeAnswer 44 = .ok (.putfield 55, 3) := by decide +kernel
theorem dX2_takeAnswer_47 : decode cX2_takeAnswer 47 = .ok (.return_, 1) := by decide +kernel
theorem dX2_takeDrop_0 : decode cX2_takeDrop 0 = .ok (.aload_n 0, 1) := by decide +kernel
theorem dX2_takeDrop_1 : decode cX2_takeDrop 1 = .ok (.iload_n 1, 1) := by decide +kernel
theorem dX2_takeDrop_2 : decode cX2_takeDrop 2 = .ok (.invokevirtual 64, 3) := by decide +kernel
theorem dX2_takeDrop_5 : decode cX2_takeDrop 5 = .ok (.ifCond .eq 16, 3) := by decide +kernel
theorem dX2_takeDrop_8 : decode cX2_takeDrop 8 = .ok (.aload_n 0, 1) := by decide +kernel
theorem dX2_takeDrop_9 : decode cX2_takeDrop 9 = .ok (.getfield 22, 3) := by decide +kernel
theorem dX2_takeDrop_12 : decode cX2_takeDrop 12 = .ok (.iload_n 1, 1) := by decide +kernel
theorem dX2_takeDrop_13 : decode cX2_takeDrop 13 = .ok (.iconst 0, 1) := by decide +kernel
theorem dX2_takeDrop_14 : decode cX2_takeDrop 14 = .ok (.bastore, 1) := by decide +kernel
theorem dX2_takeDrop_15 : decode cX2_takeDrop 15 = .ok (.aload_n 0, 1) := by decide +kernel
theorem dX2_takeDrop_16 : decode cX2_takeDrop 16 = .ok (.iload_n 1, 1) := by decide +kernel
theorem dX2_takeDrop_17 : decode cX2_takeDrop 17 = .ok (.iconst (-1), 1) := by decide +kernel
theorem dX2_takeDrop_18 : decode cX2_takeDrop 18 = .ok (.invokevirtual 151, 3) := by decide +kernel
theorem dX2_takeDrop_21 : decode cX2_takeDrop 21 = .ok (.return_, 1) := by decide +kernel
theorem dX2_nameChunks_0 : decode cX2_nameChunks 0 = .ok (.iconst 0, 1) := by decide +kernel
theorem dX2_nameChunks_1 : decode cX2_nameChunks 1 = .ok (.istore_n 3, 1) := by decide +kernel
theorem dX2_nameChunks_2 : decode cX2_nameChunks 2 = .ok (.iload_n 3, 1) := by decide +kernel
theorem dX2_nameChunks_3 : decode cX2_nameChunks 3 = .ok (.bipush 8, 2) := by decide +kernel
theorem dX2_nameChunks_5 : decode cX2_nameChunks 5 = .ok (.if_icmp .ge 32, 3) := by decide +kernel
theorem dX2_nameChunks_8 : decode cX2_nameChunks 8 = .ok (.aload_n 0, 1) := by decide +kernel
theorem dX2_nameChunks_9 : decode cX2_nameChunks 9 = .ok (.iload_n 1, 1) := by decide +kernel
theorem dX2_nameChunks_10 : decode cX2_nameChunks 10 = .ok (.iload_n 3, 1) := by decide +kernel
theorem dX2_nameChunks_11 : decode cX2_nameChunks 11 = .ok (.invokevirtual 154, 3) := by decide +kernel
theorem dX2_nameChunks_14 : decode cX2_nameChunks 14 = .ok (.ifCond .ne 17, 3) := by decide +kernel
theorem dX2_nameChunks_17 : decode cX2_nameChunks 17 = .ok (.aload_n 0, 1) := by decide +kernel
theorem dX2_nameChunks_18 : decode cX2_nameChunks 18 = .ok (.getfield 18, 3) := by decide +kernel
theorem dX2_nameChunks_21 : decode cX2_nameChunks 21 = .ok (.aload_n 0, 1) := by decide +kernel
theorem dX2_nameChunks_22 : decode cX2_nameChunks 22 = .ok (.iload_n 1, 1) := by decide +kernel
theorem dX2_nameChunks_23 : decode cX2_nameChunks 23 = .ok (.iload_n 3, 1) := by decide +kernel
theorem dX2_nameChunks_24 : decode cX2_nameChunks 24 = .ok (.invokevirtual 72, 3) := by decide +kernel
theorem dX2_nameChunks_27 : decode cX2_nameChunks 27 = .ok (.iload_n 2, 1) := by decide +kernel
theorem dX2_nameChunks_28 : decode cX2_nameChunks 28 = .ok (.invokevirtual 158, 3) := by decide +kernel
theorem dX2_nameChunks_31 : decode cX2_nameChunks 31 = .ok (.iinc 3 1, 3) := by decide +kernel
theorem dX2_nameChunks_34 : decode cX2_nameChunks 34 = .ok (.goto (-32), 3) := by decide +kernel
theorem dX2_nameChunks_37 : decode cX2_nameChunks 37 = .ok (.return_, 1) := by decide +kernel
theorem dX2_hasBefore_0 : decode cX2_hasBefore 0 = .ok (.iconst 0, 1) := by decide +kernel
theorem dX2_hasBefore_1 : decode cX2_hasBefore 1 = .ok (.istore_n 3, 1) := by decide +kernel
theorem dX2_hasBefore_2 : decode cX2_hasBefore 2 = .ok (.iload_n 3, 1) := by decide +kernel
theorem dX2_hasBefore_3 : decode cX2_hasBefore 3 = .ok (.iload_n 2, 1) := by decide +kernel
theorem dX2_hasBefore_4 : decode cX2_hasBefore 4 = .ok (.if_icmp .ge 26, 3) := by decide +kernel
theorem dX2_hasBefore_7 : decode cX2_hasBefore 7 = .ok (.aload_n 0, 1) := by decide +kernel
theorem dX2_hasBefore_8 : decode cX2_hasBefore 8 = .ok (.iload_n 1, 1) := by decide +kernel
theorem dX2_hasBefore_9 : decode cX2_hasBefore 9 = .ok (.iload_n 3, 1) := by decide +kernel
theorem dX2_hasBefore_10 : decode cX2_hasBefore 10 = .ok (.invokevirtual 72, 3) := by decide +kernel
theorem dX2_hasBefore_13 : decode cX2_hasBefore 13 = .ok (.aload_n 0, 1) := by decide +kernel
theorem dX2_hasBefore_14 : decode cX2_hasBefore 14 = .ok (.iload_n 1, 1) := by decide +kernel
theorem dX2_hasBefore_15 : decode cX2_hasBefore 15 = .ok (.iload_n 2, 1) := by decide +kernel
theorem dX2_hasBefore_16 : decode cX2_hasBefore 16 = .ok (.invokevirtual 72, 3) := by decide +kernel
theorem dX2_hasBefore_19 : decode cX2_hasBefore 19 = .ok (.if_icmp .ne 5, 3) := by decide +kernel
theorem dX2_hasBefore_22 : decode cX2_hasBefore 22 = .ok (.iconst 1, 1) := by decide +kernel
theorem dX2_hasBefore_23 : decode cX2_hasBefore 23 = .ok (.ireturn, 1) := by decide +kernel
theorem dX2_hasBefore_24 : decode cX2_hasBefore 24 = .ok (.iinc 3 1, 3) := by decide +kernel
theorem dX2_hasBefore_27 : decode cX2_hasBefore 27 = .ok (.goto (-25), 3) := by decide +kernel
theorem dX2_hasBefore_30 : decode cX2_hasBefore 30 = .ok (.iconst 0, 1) := by decide +kernel
theorem dX2_hasBefore_31 : decode cX2_hasBefore 31 = .ok (.ireturn, 1) := by decide +kernel
theorem dX3_init_0 : decode cX3_init 0 = .ok (.aload_n 0, 1) := by decide +kernel
theorem dX3_init_1 : decode cX3_init 1 = .ok (.invokespecial 3, 3) := by decide +kernel
theorem dX3_init_4 : decode cX3_init 4 = .ok (.aload_n 0, 1) := by decide +kernel
theorem dX3_init_5 : decode cX3_init 5 = .ok (.bipush 8, 2) := by decide +kernel
theorem dX3_init_7 : decode cX3_init 7 = .ok (.newarray .int, 2) := by decide +kernel
theorem dX3_init_9 : decode cX3_init 9 = .ok (.putfield 9, 3) := by decide +kernel
theorem dX3_init_12 : decode cX3_init 12 = .ok (.aload_n 0, 1) := by decide +kernel
theorem dX3_init_13 : decode cX3_init 13 = .ok (.bipush 8, 2) := by decide +kernel
theorem dX3_init_15 : decode cX3_init 15 = .ok (.newarray .boolean, 2) := by decide +kernel
theorem dX3_init_17 : decode cX3_init 17 = .ok (.putfield 15, 3) := by decide +kernel
theorem dX3_init_20 : decode cX3_init 20 = .ok (.aload_n 0, 1) := by decide +kernel
theorem dX3_init_21 : decode cX3_init 21 = .ok (.sipush 323, 3) := by decide +kernel
theorem dX3_init_24 : decode cX3_init 24 = .ok (.newarray .boolean, 2) := by decide +kernel
theorem dX3_init_26 : decode cX3_init 26 = .ok (.putfield 19, 3) := by decide +kernel
theorem dX3_init_29 : decode cX3_init 29 = .ok (.return_, 1) := by decide +kernel
theorem dX3_numberOf_0 : decode cX3_numberOf 0 = .ok (.iload_n 1, 1) := by decide +kernel
theorem dX3_numberOf_1 : decode cX3_numberOf 1 = .ok (.ifCond .lt 18, 3) := by decide +kernel
theorem dX3_numberOf_4 : decode cX3_numberOf 4 = .ok (.iload_n 1, 1) := by decide +kernel
theorem dX3_numberOf_5 : decode cX3_numberOf 5 = .ok (.bipush 8, 2) := by decide +kernel
theorem dX3_numberOf_7 : decode cX3_numberOf 7 = .ok (.if_icmp .ge 12, 3) := by decide +kernel
theorem dX3_numberOf_10 : decode cX3_numberOf 10 = .ok (.aload_n 0, 1) := by decide +kernel
theorem dX3_numberOf_11 : decode cX3_numberOf 11 = .ok (.getfield 9, 3) := by decide +kernel
theorem dX3_numberOf_14 : decode cX3_numberOf 14 = .ok (.iload_n 1, 1) := by decide +kernel
theorem dX3_numberOf_15 : decode cX3_numberOf 15 = .ok (.iaload, 1) := by decide +kernel
theorem dX3_numberOf_16 : decode cX3_numberOf 16 = .ok (.goto 4, 3) := by decide +kernel
theorem dX3_numberOf_19 : decode cX3_numberOf 19 = .ok (.iconst (-1), 1) := by decide +kernel
theorem dX3_numberOf_20 : decode cX3_numberOf 20 = .ok (.ireturn, 1) := by decide +kernel
theorem dX3_isNew_0 : decode cX3_isNew 0 = .ok (.iload_n 1, 1) := by decide +kernel
theorem dX3_isNew_1 : decode cX3_isNew 1 = .ok (.ifCond .lt 22, 3) := by decide +kernel
theorem dX3_isNew_4 : decode cX3_isNew 4 = .ok (.iload_n 1, 1) := by decide +kernel
theorem dX3_isNew_5 : decode cX3_isNew 5 = .ok (.bipush 8, 2) := by decide +kernel
theorem dX3_isNew_7 : decode cX3_isNew 7 = .ok (.if_icmp .ge 16, 3) := by decide +kernel
theorem dX3_isNew_10 : decode cX3_isNew 10 = .ok (.aload_n 0, 1) := by decide +kernel
theorem dX3_isNew_11 : decode cX3_isNew 11 = .ok (.getfield 15, 3) := by decide +kernel
theorem dX3_isNew_14 : decode cX3_isNew 14 = .ok (.iload_n 1, 1) := by decide +kernel
theorem dX3_isNew_15 : decode cX3_isNew 15 = .ok (.baload, 1) := by decide +kernel
theorem dX3_isNew_16 : decode cX3_isNew 16 = .ok (.ifCond .eq 7, 3) := by decide +kernel
theorem dX3_isNew_19 : decode cX3_isNew 19 = .ok (.iconst 1, 1) := by decide +kernel
theorem dX3_isNew_20 : decode cX3_isNew 20 = .ok (.goto 4, 3) := by decide +kernel
theorem dX3_isNew_23 : decode cX3_isNew 23 = .ok (.iconst 0, 1) := by decide +kernel
theorem dX3_isNew_24 : decode cX3_isNew 24 = .ok (.ireturn, 1) := by decide +kernel
theorem dX3_bytes_0 : decode cX3_bytes 0 = .ok (.aload_n 0, 1) := by decide +kernel
theorem dX3_bytes_1 : decode cX3_bytes 1 = .ok (.getfield 22, 3) := by decide +kernel
theorem dX3_bytes_4 : decode cX3_bytes 4 = .ok (.bipush 76, 2) := by decide +kernel
theorem dX3_bytes_6 : decode cX3_bytes 6 = .ok (.imul, 1) := by decide +kernel
theorem dX3_bytes_7 : decode cX3_bytes 7 = .ok (.bipush 16, 2) := by decide +kernel
theorem dX3_bytes_9 : decode cX3_bytes 9 = .ok (.iadd, 1) := by decide +kernel
theorem dX3_bytes_10 : decode cX3_bytes 10 = .ok (.bipush 12, 2) := by decide +kernel
theorem dX3_bytes_12 : decode cX3_bytes 12 = .ok (.iadd, 1) := by decide +kernel
theorem dX3_bytes_13 : decode cX3_bytes 13 = .ok (.ireturn, 1) := by decide +kernel
theorem dX3_numberChunks_0 : decode cX3_numberChunks 0 = .ok (.aload_n 0, 1) := by decide +kernel
theorem dX3_numberChunks_1 : decode cX3_numberChunks 1 = .ok (.iconst 0, 1) := by decide +kernel
theorem dX3_numberChunks_2 : decode cX3_numberChunks 2 = .ok (.putfield 22, 3) := by decide +kernel
theorem dX3_numberChunks_5 : decode cX3_numberChunks 5 = .ok (.aload_n 1, 1) := by decide +kernel
theorem dX3_numberChunks_6 : decode cX3_numberChunks 6 = .ok (.getfield 26, 3) := by decide +kernel
theorem dX3_numberChunks_9 : decode cX3_numberChunks 9 = .ok (.aload_n 0, 1) := by decide +kernel
theorem dX3_numberChunks_10 : decode cX3_numberChunks 10 = .ok (.getfield 19, 3) := by decide +kernel
theorem dX3_numberChunks_13 : decode cX3_numberChunks 13 = .ok (.invokevirtual 32, 3) := by decide +kernel
theorem dX3_numberChunks_16 : decode cX3_numberChunks 16 = .ok (.iconst 0, 1) := by decide +kernel
theorem dX3_numberChunks_17 : decode cX3_numberChunks 17 = .ok (.istore_n 2, 1) := by decide +kernel
theorem dX3_numberChunks_18 : decode cX3_numberChunks 18 = .ok (.iload_n 2, 1) := by decide +kernel
theorem dX3_numberChunks_19 : decode cX3_numberChunks 19 = .ok (.bipush 8, 2) := by decide +kernel
theorem dX3_numberChunks_21 : decode cX3_numberChunks 21 = .ok (.if_icmp .ge 89, 3) := by decide +kernel
theorem dX3_numberChunks_24 : decode cX3_numberChunks 24 = .ok (.aload_n 1, 1) := by decide +kernel
theorem dX3_numberChunks_25 : decode cX3_numberChunks 25 = .ok (.getfield 26, 3) := by decide +kernel
theorem dX3_numberChunks_28 : decode cX3_numberChunks 28 = .ok (.aload_n 1, 1) := by decide +kernel
theorem dX3_numberChunks_29 : decode cX3_numberChunks 29 = .ok (.iload_n 2, 1) := by decide +kernel
theorem dX3_numberChunks_30 : decode cX3_numberChunks 30 = .ok (.invokevirtual 38, 3) := by decide +kernel
theorem dX3_numberChunks_33 : decode cX3_numberChunks 33 = .ok (.istore_n 3, 1) := by decide +kernel
theorem dX3_numberChunks_34 : decode cX3_numberChunks 34 = .ok (.iload_n 3, 1) := by decide +kernel
theorem dX3_numberChunks_35 : decode cX3_numberChunks 35 = .ok (.iconst (-1), 1) := by decide +kernel
theorem dX3_numberChunks_36 : decode cX3_numberChunks 36 = .ok (.if_icmp .ne 10, 3) := by decide +kernel
theorem dX3_numberChunks_39 : decode cX3_numberChunks 39 = .ok (.aload_n 0, 1) := by decide +kernel
theorem dX3_numberChunks_40 : decode cX3_numberChunks 40 = .ok (.aload_n 1, 1) := by decide +kernel
theorem dX3_numberChunks_41 : decode cX3_numberChunks 41 = .ok (.iload_n 2, 1) := by decide +kernel
theorem dX3_numberChunks_42 : decode cX3_numberChunks 42 = .ok (.invokevirtual 42, 3) := by decide +kernel
theorem dX3_numberChunks_45 : decode cX3_numberChunks 45 = .ok (.istore_n 3, 1) := by decide +kernel
theorem dX3_numberChunks_46 : decode cX3_numberChunks 46 = .ok (.aload_n 0, 1) := by decide +kernel
theorem dX3_numberChunks_47 : decode cX3_numberChunks 47 = .ok (.getfield 15, 3) := by decide +kernel
theorem dX3_numberChunks_50 : decode cX3_numberChunks 50 = .ok (.iload_n 2, 1) := by decide +kernel
theorem dX3_numberChunks_51 : decode cX3_numberChunks 51 = .ok (.iload_n 3, 1) := by decide +kernel
theorem dX3_numberChunks_52 : decode cX3_numberChunks 52 = .ok (.iconst (-1), 1) := by decide +kernel
theorem dX3_numberChunks_53 : decode cX3_numberChunks 53 = .ok (.if_icmp .ne 7, 3) := by decide +kernel
theorem dX3_numberChunks_56 : decode cX3_numberChunks 56 = .ok (.iconst 1, 1) := by decide +kernel
theorem dX3_numberChunks_57 : decode cX3_numberChunks 57 = .ok (.goto 4, 3) := by decide +kernel
theorem dX3_numberChunks_60 : decode cX3_numberChunks 60 = .ok (.iconst 0, 1) := by decide +kernel
theorem dX3_numberChunks_61 : decode cX3_numberChunks 61 = .ok (.bastore, 1) := by decide +kernel
theorem dX3_numberChunks_62 : decode cX3_numberChunks 62 = .ok (.aload_n 0, 1) := by decide +kernel
theorem dX3_numberChunks_63 : decode cX3_numberChunks 63 = .ok (.getfield 15, 3) := by decide +kernel
theorem dX3_numberChunks_66 : decode cX3_numberChunks 66 = .ok (.iload_n 2, 1) := by decide +kernel
theorem dX3_numberChunks_67 : decode cX3_numberChunks 67 = .ok (.baload, 1) := by decide +kernel
theorem dX3_numberChunks_68 : decode cX3_numberChunks 68 = .ok (.ifCond .eq 22, 3) := by decide +kernel
theorem dX3_numberChunks_71 : decode cX3_numberChunks 71 = .ok (.aload_n 0, 1) := by decide +kernel
theorem dX3_numberChunks_72 : decode cX3_numberChunks 72 = .ok (.aload_n 1, 1) := by decide +kernel
theorem dX3_numberChunks_73 : decode cX3_numberChunks 73 = .ok (.getfield 45, 3) := by decide +kernel
theorem dX3_numberChunks_76 : decode cX3_numberChunks 76 = .ok (.invokevirtual 48, 3) := by decide +kernel
theorem dX3_numberChunks_79 : decode cX3_numberChunks 79 = .ok (.istore_n 3, 1) := by decide +kernel
theorem dX3_numberChunks_80 : decode cX3_numberChunks 80 = .ok (.aload_n 0, 1) := by decide +kernel
theorem dX3_numberChunks_81 : decode cX3_numberChunks 81 = .ok (.dup, 1) := by decide +kernel
theorem dX3_numberChunks_82 : decode cX3_numberChunks 82 = .ok (.getfield 22, 3) := by decide +kernel
theorem dX3_numberChunks_85 : decode cX3_numberChunks 85 = .ok (.iconst 1, 1) := by decide +kernel
theorem dX3_numberChunks_86 : decode cX3_numberChunks 86 = .ok (.iadd, 1) := by decide +kernel
theorem dX3_numberChunks_87 : decode cX3_numberChunks 87 = .ok (.putfield 22, 3) := by decide +kernel
theorem dX3_numberChunks_90 : decode cX3_numberChunks 90 = .ok (.iload_n 3, 1) := by decide +kernel
theorem dX3_numberChunks_91 : decode cX3_numberChunks 91 = .ok (.iconst (-1), 1) := by decide +kernel
theorem dX3_numberChunks_92 : decode cX3_numberChunks 92 = .ok (.if_icmp .ne 5, 3) := by decide +kernel
theorem dX3_numberChunks_95 : decode cX3_numberChunks 95 = .ok (.iconst 0, 1) := by decide +kernel
theorem dX3_numberChunks_96 : decode cX3_numberChunks 96 = .ok (.ireturn, 1) := by decide +kernel
theorem dX3_numberChunks_97 : decode cX3_numberChunks 97 = .ok (.aload_n 0, 1) := by decide +kernel
theorem dX3_numberChunks_98 : decode cX3_numberChunks 98 = .ok (.getfield 9, 3) := by decide +kernel
theorem dX3_numberChunks_101 : decode cX3_numberChunks 101 = .ok (.iload_n 2, 1) := by decide +kernel
theorem dX3_numberChunks_102 : decode cX3_numberChunks 102 = .ok (.iload_n 3, 1) := by decide +kernel
theorem dX3_numberChunks_103 : decode cX3_numberChunks 103 = .ok (.iastore, 1) := by decide +kernel
theorem dX3_numberChunks_104 : decode cX3_numberChunks 104 = .ok (.iinc 2 1, 3) := by decide +kernel
theorem dX3_numberChunks_107 : decode cX3_numberChunks 107 = .ok (.goto (-89), 3) := by decide +kernel
theorem dX3_numberChunks_110 : decode cX3_numberChunks 110 = .ok (.iconst 1, 1) := by decide +kernel
theorem dX3_numberChunks_111 : decode cX3_numberChunks 111 = .ok (.ireturn, 1) := by decide +kernel
theorem dX3_alikeBefore_0 : decode cX3_alikeBefore 0 = .ok (.iconst 0, 1) := by decide +kernel
theorem dX3_alikeBefore_1 : decode cX3_alikeBefore 1 = .ok (.istore_n 3, 1) := by decide +kernel
theorem dX3_alikeBefore_2 : decode cX3_alikeBefore 2 = .ok (.iload_n 3, 1) := by decide +kernel
theorem dX3_alikeBefore_3 : decode cX3_alikeBefore 3 = .ok (.iload_n 2, 1) := by decide +kernel
theorem dX3_alikeBefore_4 : decode cX3_alikeBefore 4 = .ok (.if_icmp .ge 25, 3) := by decide +kernel
theorem dX3_alikeBefore_7 : decode cX3_alikeBefore 7 = .ok (.aload_n 0, 1) := by decide +kernel
theorem dX3_alikeBefore_8 : decode cX3_alikeBefore 8 = .ok (.aload_n 1, 1) := by decide +kernel
theorem dX3_alikeBefore_9 : decode cX3_alikeBefore 9 = .ok (.iload_n 3, 1) := by decide +kernel
theorem dX3_alikeBefore_10 : decode cX3_alikeBefore 10 = .ok (.iload_n 2, 1) := by decide +kernel
theorem dX3_alikeBefore_11 : decode cX3_alikeBefore 11 = .ok (.invokevirtual 52, 3) := by decide +kernel
theorem dX3_alikeBefore_14 : decode cX3_alikeBefore 14 = .ok (.ifCond .eq 9, 3) := by decide +kernel
theorem dX3_alikeBefore_17 : decode cX3_alikeBefore 17 = .ok (.aload_n 0, 1) := by decide +kernel
theorem dX3_alikeBefore_18 : decode cX3_alikeBefore 18 = .ok (.iload_n 3, 1) := by decide +kernel
theorem dX3_alikeBefore_19 : decode cX3_alikeBefore 19 = .ok (.invokevirtual 56, 3) := by decide +kernel
theorem dX3_alikeBefore_22 : decode cX3_alikeBefore 22 = .ok (.ireturn, 1) := by decide +kernel
theorem dX3_alikeBefore_23 : decode cX3_alikeBefore 23 = .ok (.iinc 3 1, 3) := by decide +kernel
theorem dX3_alikeBefore_26 : decode cX3_alikeBefore 26 = .ok (.goto (-24), 3) := by decide +kernel
theorem dX3_alikeBefore_29 : decode cX3_alikeBefore 29 = .ok (.iconst (-1), 1) := by decide +kernel
theorem dX3_alikeBefore_30 : decode cX3_alikeBefore 30 = .ok (.ireturn, 1) := by decide +kernel
theorem dX3_areAlike_0 : decode cX3_areAlike 0 = .ok (.iconst 0, 1) := by decide +kernel
theorem dX3_areAlike_1 : decode cX3_areAlike 1 = .ok (.istore 4, 2) := by decide +kernel
theorem dX3_areAlike_3 : decode cX3_areAlike 3 = .ok (.iload 4, 2) := by decide +kernel
theorem dX3_areAlike_5 : decode cX3_areAlike 5 = .ok (.bipush 8, 2) := by decide +kernel
theorem dX3_areAlike_7 : decode cX3_areAlike 7 = .ok (.if_icmp .ge 37, 3) := by decide +kernel
theorem dX3_areAlike_10 : decode cX3_areAlike 10 = .ok (.aload_n 1, 1) := by decide +kernel
theorem dX3_areAlike_11 : decode cX3_areAlike 11 = .ok (.iload_n 2, 1) := by decide +kernel
theorem dX3_areAlike_12 : decode cX3_areAlike 12 = .ok (.bipush 8, 2) := by decide +kernel
theorem dX3_areAlike_14 : decode cX3_areAlike 14 = .ok (.imul, 1) := by decide +kernel
theorem dX3_areAlike_15 : decode cX3_areAlike 15 = .ok (.iload 4, 2) := by decide +kernel
theorem dX3_areAlike_17 : decode cX3_areAlike 17 = .ok (.iadd, 1) := by decide +kernel
theorem dX3_areAlike_18 : decode cX3_areAlike 18 = .ok (.invokevirtual 59, 3) := by decide +kernel
theorem dX3_areAlike_21 : decode cX3_areAlike 21 = .ok (.aload_n 1, 1) := by decide +kernel
theorem dX3_areAlike_22 : decode cX3_areAlike 22 = .ok (.iload_n 3, 1) := by decide +kernel
theorem dX3_areAlike_23 : decode cX3_areAlike 23 = .ok (.bipush 8, 2) := by decide +kernel
theorem dX3_areAlike_25 : decode cX3_areAlike 25 = .ok (.imul, 1) := by decide +kernel
theorem dX3_areAlike_26 : decode cX3_areAlike 26 = .ok (.iload 4, 2) := by decide +kernel
theorem dX3_areAlike_28 : decode cX3_areAlike 28 = .ok (.iadd, 1) := by decide +kernel
theorem dX3_areAlike_29 : decode cX3_areAlike 29 = .ok (.invokevirtual 59, 3) := by decide +kernel
theorem dX3_areAlike_32 : decode cX3_areAlike 32 = .ok (.lcmp, 1) := by decide +kernel
theorem dX3_areAlike_33 : decode cX3_areAlike 33 = .ok (.ifCond .eq 5, 3) := by decide +kernel
theorem dX3_areAlike_36 : decode cX3_areAlike 36 = .ok (.iconst 0, 1) := by decide +kernel
theorem dX3_areAlike_37 : decode cX3_areAlike 37 = .ok (.ireturn, 1) := by decide +kernel
theorem dX3_areAlike_38 : decode cX3_areAlike 38 = .ok (.iinc 4 1, 3) := by decide +kernel
theorem dX3_areAlike_41 : decode cX3_areAlike 41 = .ok (.goto (-38), 3) := by decide +kernel
theorem dX3_areAlike_44 : decode cX3_areAlike 44 = .ok (.iconst 1, 1) := by decide +kernel
theorem dX3_areAlike_45 : decode cX3_areAlike 45 = .ok (.ireturn, 1) := by decide +kernel
theorem dX3_takeLeast_0 : decode cX3_takeLeast 0 = .ok (.iconst 0, 1) := by decide +kernel
theorem dX3_takeLeast_1 : decode cX3_takeLeast 1 = .ok (.istore_n 2, 1) := by decide +kernel
theorem dX3_takeLeast_2 : decode cX3_takeLeast 2 = .ok (.iload_n 2, 1) := by decide +kernel
theorem dX3_takeLeast_3 : decode cX3_takeLeast 3 = .ok (.aload_n 0, 1) := by decide +kernel
theorem dX3_takeLeast_4 : decode cX3_takeLeast 4 = .ok (.getfield 19, 3) := by decide +kernel
theorem dX3_takeLeast_7 : decode cX3_takeLeast 7 = .ok (.arraylength, 1) := by decide +kernel
theorem dX3_takeLeast_8 : decode cX3_takeLeast 8 = .ok (.if_icmp .ge 32, 3) := by decide +kernel
theorem dX3_takeLeast_11 : decode cX3_takeLeast 11 = .ok (.iload_n 2, 1) := by decide +kernel
theorem dX3_takeLeast_12 : decode cX3_takeLeast 12 = .ok (.iload_n 1, 1) := by decide +kernel
theorem dX3_takeLeast_13 : decode cX3_takeLeast 13 = .ok (.if_icmp .ge 27, 3) := by decide +kernel
theorem dX3_takeLeast_16 : decode cX3_takeLeast 16 = .ok (.aload_n 0, 1) := by decide +kernel
theorem dX3_takeLeast_17 : decode cX3_takeLeast 17 = .ok (.getfield 19, 3) := by decide +kernel
theorem dX3_takeLeast_20 : decode cX3_takeLeast 20 = .ok (.iload_n 2, 1) := by decide +kernel
theorem dX3_takeLeast_21 : decode cX3_takeLeast 21 = .ok (.baload, 1) := by decide +kernel
theorem dX3_takeLeast_22 : decode cX3_takeLeast 22 = .ok (.ifCond .ne 12, 3) := by decide +kernel
theorem dX3_takeLeast_25 : decode cX3_takeLeast 25 = .ok (.aload_n 0, 1) := by decide +kernel
theorem dX3_takeLeast_26 : decode cX3_takeLeast 26 = .ok (.getfield 19, 3) := by decide +kernel
theorem dX3_takeLeast_29 : decode cX3_takeLeast 29 = .ok (.iload_n 2, 1) := by decide +kernel
theorem dX3_takeLeast_30 : decode cX3_takeLeast 30 = .ok (.iconst 1, 1) := by decide +kernel
theorem dX3_takeLeast_31 : decode cX3_takeLeast 31 = .ok (.bastore, 1) := by decide +kernel
theorem dX3_takeLeast_32 : decode cX3_takeLeast 32 = .ok (.iload_n 2, 1) := by decide +kernel
theorem dX3_takeLeast_33 : decode cX3_takeLeast 33 = .ok (.ireturn, 1) := by decide +kernel
theorem dX3_takeLeast_34 : decode cX3_takeLeast 34 = .ok (.iinc 2 1, 3) := by decide +kernel
theorem dX3_takeLeast_37 : decode cX3_takeLeast 37 = .ok (.goto (-35), 3) := by decide +kernel
theorem dX3_takeLeast_40 : decode cX3_takeLeast 40 = .ok (.iconst (-1), 1) := by decide +kernel
theorem dX3_takeLeast_41 : decode cX3_takeLeast 41 = .ok (.ireturn, 1) := by decide +kernel
theorem dX4_init_0 : decode cX4_init 0 = .ok (.aload_n 0, 1) := by decide +kernel
theorem dX4_init_1 : decode cX4_init 1 = .ok (.invokespecial 3, 3) := by decide +kernel
theorem dX4_init_4 : decode cX4_init 4 = .ok (.aload_n 0, 1) := by decide +kernel
theorem dX4_init_5 : decode cX4_init 5 = .ok (.new 9, 3) := by decide +kernel
theorem dX4_init_8 : decode cX4_init 8 = .ok (.dup, 1) := by decide +kernel
theorem dX4_init_9 : decode cX4_init 9 = .ok (.invokespecial 11, 3) := by decide +kernel
theorem dX4_init_12 : decode cX4_init 12 = .ok (.putfield 12, 3) := by decide +kernel
theorem dX4_init_15 : decode cX4_init 15 = .ok (.aload_n 0, 1) := by decide +kernel
theorem dX4_init_16 : decode cX4_init 16 = .ok (.new 16, 3) := by decide +kernel
theorem dX4_init_19 : decode cX4_init 19 = .ok (.dup, 1) := by decide +kernel
theorem dX4_init_20 : decode cX4_init 20 = .ok (.invokespecial 18, 3) := by decide +kernel
theorem dX4_init_23 : decode cX4_init 23 = .ok (.putfield 19, 3) := by decide +kernel
theorem dX4_init_26 : decode cX4_init 26 = .ok (.aload_n 0, 1) := by decide +kernel
theorem dX4_init_27 : decode cX4_init 27 = .ok (.new 16, 3) := by decide +kernel
theorem dX4_init_30 : decode cX4_init 30 = .ok (.dup, 1) := by decide +kernel
theorem dX4_init_31 : decode cX4_init 31 = .ok (.invokespecial 18, 3) := by decide +kernel
theorem dX4_init_34 : decode cX4_init 34 = .ok (.putfield 23, 3) := by decide +kernel
theorem dX4_init_37 : decode cX4_init 37 = .ok (.aload_n 0, 1) := by decide +kernel
theorem dX4_init_38 : decode cX4_init 38 = .ok (.new 26, 3) := by decide +kernel
theorem dX4_init_41 : decode cX4_init 41 = .ok (.dup, 1) := by decide +kernel
theorem dX4_init_42 : decode cX4_init 42 = .ok (.invokespecial 28, 3) := by decide +kernel
theorem dX4_init_45 : decode cX4_init 45 = .ok (.putfield 29, 3) := by decide +kernel
theorem dX4_init_48 : decode cX4_init 48 = .ok (.aload_n 0, 1) := by decide +kernel
theorem dX4_init_49 : decode cX4_init 49 = .ok (.bipush 64, 2) := by decide +kernel
theorem dX4_init_51 : decode cX4_init 51 = .ok (.invokevirtual 33, 3) := by decide +kernel
theorem dX4_init_54 : decode cX4_init 54 = .ok (.return_, 1) := by decide +kernel
theorem dX4_begin_0 : decode cX4_begin 0 = .ok (.iload_n 1, 1) := by decide +kernel
theorem dX4_begin_1 : decode cX4_begin 1 = .ok (.ifCond .ge 13, 3) := by decide +kernel
theorem dX4_begin_4 : decode cX4_begin 4 = .ok (.new 37, 3) := by decide +kernel
theorem dX4_begin_7 : decode cX4_begin 7 = .ok (.dup, 1) := by decide +kernel
theorem dX4_begin_8 : decode cX4_begin 8 = .ok (.ldc 39, 2) := by decide +kernel
theorem dX4_begin_10 : decode cX4_begin 10 = .ok (.invokespecial 41, 3) := by decide +kernel
theorem dX4_begin_13 : decode cX4_begin 13 = .ok (.athrow, 1) := by decide +kernel
theorem dX4_begin_14 : decode cX4_begin 14 = .ok (.iload_n 1, 1) := by decide +kernel
theorem dX4_begin_15 : decode cX4_begin 15 = .ok (.ifCond .eq 9, 3) := by decide +kernel
theorem dX4_begin_18 : decode cX4_begin 18 = .ok (.iload_n 1, 1) := by decide +kernel
theorem dX4_begin_19 : decode cX4_begin 19 = .ok (.ldc 44, 2) := by decide +kernel
theorem dX4_begin_21 : decode cX4_begin 21 = .ok (.if_icmp .le 13, 3) := by decide +kernel
theorem dX4_begin_24 : decode cX4_begin 24 = .ok (.new 45, 3) := by decide +kernel
theorem dX4_begin_27 : decode cX4_begin 27 = .ok (.dup, 1) := by decide +kernel
theorem dX4_begin_28 : decode cX4_begin 28 = .ok (.ldc 47, 2) := by decide +kernel
theorem dX4_begin_30 : decode cX4_begin 30 = .ok (.invokespecial 49, 3) := by decide +kernel
theorem dX4_begin_33 : decode cX4_begin 33 = .ok (.athrow, 1) := by decide +kernel
theorem dX4_begin_34 : decode cX4_begin 34 = .ok (.aload_n 0, 1) := by decide +kernel
theorem dX4_begin_35 : decode cX4_begin 35 = .ok (.iload_n 1, 1) := by decide +kernel
theorem dX4_begin_36 : decode cX4_begin 36 = .ok (.invokevirtual 33, 3) := by decide +kernel
theorem dX4_begin_39 : decode cX4_begin 39 = .ok (.return_, 1) := by decide +kernel
theorem dX4_edge_0 : decode cX4_edge 0 = .ok (.aload_n 0, 1) := by decide +kernel
theorem dX4_edge_1 : decode cX4_edge 1 = .ok (.invokevirtual 50, 3) := by decide +kernel
theorem dX4_edge_4 : decode cX4_edge 4 = .ok (.aload_n 0, 1) := by decide +kernel
theorem dX4_edge_5 : decode cX4_edge 5 = .ok (.iload_n 1, 1) := by decide +kernel
theorem dX4_edge_6 : decode cX4_edge 6 = .ok (.invokevirtual 53, 3) := by decide +kernel
theorem dX4_edge_9 : decode cX4_edge 9 = .ok (.aload_n 0, 1) := by decide +kernel
theorem dX4_edge_10 : decode cX4_edge 10 = .ok (.iload_n 2, 1) := by decide +kernel
theorem dX4_edge_11 : decode cX4_edge 11 = .ok (.invokevirtual 53, 3) := by decide +kernel
theorem dX4_edge_14 : decode cX4_edge 14 = .ok (.aload_n 0, 1) := by decide +kernel
theorem dX4_edge_15 : decode cX4_edge 15 = .ok (.getfield 19, 3) := by decide +kernel
theorem dX4_edge_18 : decode cX4_edge 18 = .ok (.iconst (-1), 1) := by decide +kernel
theorem dX4_edge_19 : decode cX4_edge 19 = .ok (.iload_n 1, 1) := by decide +kernel
theorem dX4_edge_20 : decode cX4_edge 20 = .ok (.iload_n 2, 1) := by decide +kernel
theorem dX4_edge_21 : decode cX4_edge 21 = .ok (.invokevirtual 56, 3) := by decide +kernel
theorem dX4_edge_24 : decode cX4_edge 24 = .ok (.iload_n 3, 1) := by decide +kernel
theorem dX4_edge_25 : decode cX4_edge 25 = .ok (.if_icmp .ne 5, 3) := by decide +kernel
theorem dX4_edge_28 : decode cX4_edge 28 = .ok (.iconst 0, 1) := by decide +kernel
theorem dX4_edge_29 : decode cX4_edge 29 = .ok (.ireturn, 1) := by decide +kernel
theorem dX4_edge_30 : decode cX4_edge 30 = .ok (.aload_n 0, 1) := by decide +kernel
theorem dX4_edge_31 : decode cX4_edge 31 = .ok (.bipush 15, 2) := by decide +kernel
theorem dX4_edge_33 : decode cX4_edge 33 = .ok (.invokevirtual 60, 3) := by decide +kernel
theorem dX4_edge_36 : decode cX4_edge 36 = .ok (.ifCond .ne 6, 3) := by decide +kernel
theorem dX4_edge_39 : decode cX4_edge 39 = .ok (.bipush (-3), 2) := by decide +kernel
theorem dX4_edge_41 : decode cX4_edge 41 = .ok (.ireturn, 1) := by decide +kernel
theorem dX4_edge_42 : decode cX4_edge 42 = .ok (.aload_n 0, 1) := by decide +kernel
theorem dX4_edge_43 : decode cX4_edge 43 = .ok (.iconst 2, 1) := by decide +kernel
theorem dX4_edge_44 : decode cX4_edge 44 = .ok (.aload_n 0, 1) := by decide +kernel
theorem dX4_edge_45 : decode cX4_edge 45 = .ok (.getfield 19, 3) := by decide +kernel
theorem dX4_edge_48 : decode cX4_edge 48 = .ok (.getfield 64, 3) := by decide +kernel
theorem dX4_edge_51 : decode cX4_edge 51 = .ok (.invokevirtual 68, 3) := by decide +kernel
theorem dX4_edge_54 : decode cX4_edge 54 = .ok (.aload_n 0, 1) := by decide +kernel
theorem dX4_edge_55 : decode cX4_edge 55 = .ok (.getfield 12, 3) := by decide +kernel
theorem dX4_edge_58 : decode cX4_edge 58 = .ok (.iload_n 1, 1) := by decide +kernel
theorem dX4_edge_59 : decode cX4_edge 59 = .ok (.i2l, 1) := by decide +kernel
theorem dX4_edge_60 : decode cX4_edge 60 = .ok (.iconst 1, 1) := by decide +kernel
theorem dX4_edge_61 : decode cX4_edge 61 = .ok (.invokevirtual 72, 3) := by decide +kernel
theorem dX4_edge_64 : decode cX4_edge 64 = .ok (.aload_n 0, 1) := by decide +kernel
theorem dX4_edge_65 : decode cX4_edge 65 = .ok (.getfield 12, 3) := by decide +kernel
theorem dX4_edge_68 : decode cX4_edge 68 = .ok (.iload_n 2, 1) := by decide +kernel
theorem dX4_edge_69 : decode cX4_edge 69 = .ok (.i2l, 1) := by decide +kernel
theorem dX4_edge_70 : decode cX4_edge 70 = .ok (.iconst 1, 1) := by decide +kernel
theorem dX4_edge_71 : decode cX4_edge 71 = .ok (.invokevirtual 72, 3) := by decide +kernel
theorem dX4_edge_74 : decode cX4_edge 74 = .ok (.aload_n 0, 1) := by decide +kernel
theorem dX4_edge_75 : decode cX4_edge 75 = .ok (.getfield 12, 3) := by decide +kernel
theorem dX4_edge_78 : decode cX4_edge 78 = .ok (.iload_n 3, 1) := by decide +kernel
theorem dX4_edge_79 : decode cX4_edge 79 = .ok (.ifCond .eq 7, 3) := by decide +kernel
theorem dX4_edge_82 : decode cX4_edge 82 = .ok (.lconst 1, 1) := by decide +kernel
theorem dX4_edge_83 : decode cX4_edge 83 = .ok (.goto 4, 3) := by decide +kernel
theorem dX4_edge_86 : decode cX4_edge 86 = .ok (.lconst 0, 1) := by decide +kernel
theorem dX4_edge_87 : decode cX4_edge 87 = .ok (.iconst 1, 1) := by decide +kernel
theorem dX4_edge_88 : decode cX4_edge 88 = .ok (.invokevirtual 72, 3) := by decide +kernel
theorem dX4_edge_91 : decode cX4_edge 91 = .ok (.aload_n 0, 1) := by decide +kernel
theorem dX4_edge_92 : decode cX4_edge 92 = .ok (.invokevirtual 76, 3) := by decide +kernel
theorem dX4_edge_95 : decode cX4_edge 95 = .ok (.iconst 1, 1) := by decide +kernel
theorem dX4_edge_96 : decode cX4_edge 96 = .ok (.ireturn, 1) := by decide +kernel
theorem dX4_version_0 : decode cX4_version 0 = .ok (.aload_n 0, 1) := by decide +kernel
theorem dX4_version_1 : decode cX4_version 1 = .ok (.invokevirtual 50, 3) := by decide +kernel
theorem dX4_version_4 : decode cX4_version 4 = .ok (.aload_n 0, 1) := by decide +kernel
theorem dX4_version_5 : decode cX4_version 5 = .ok (.getfield 19, 3) := by decide +kernel
theorem dX4_version_8 : decode cX4_version 8 = .ok (.getfield 79, 3) := by decide +kernel
theorem dX4_version_11 : decode cX4_version 11 = .ok (.bipush 100, 2) := by decide +kernel
theorem dX4_version_13 : decode cX4_version 13 = .ok (.if_icmp .ge 31, 3) := by decide +kernel
theorem dX4_version_16 : decode cX4_version 16 = .ok (.aload_n 0, 1) := by decide +kernel
theorem dX4_version_17 : decode cX4_version 17 = .ok (.getfield 29, 3) := by decide +kernel
theorem dX4_version_20 : decode cX4_version 20 = .ok (.aload_n 0, 1) := by decide +kernel
theorem dX4_version_21 : decode cX4_version 21 = .ok (.getfield 19, 3) := by decide +kernel
theorem dX4_version_24 : decode cX4_version 24 = .ok (.invokevirtual 82, 3) := by decide +kernel
theorem dX4_version_27 : decode cX4_version 27 = .ok (.ifCond .eq 17, 3) := by decide +kernel
theorem dX4_version_30 : decode cX4_version 30 = .ok (.aload_n 0, 1) := by decide +kernel
theorem dX4_version_31 : decode cX4_version 31 = .ok (.aload_n 0, 1) := by decide +kernel
theorem dX4_version_32 : decode cX4_version 32 = .ok (.getfield 29, 3) := by decide +kernel
theorem dX4_version_35 : decode cX4_version 35 = .ok (.invokevirtual 86, 3) := by decide +kernel
theorem dX4_version_38 : decode cX4_version 38 = .ok (.invokevirtual 60, 3) := by decide +kernel
theorem dX4_version_41 : decode cX4_version 41 = .ok (.ifCond .ne 6, 3) := by decide +kernel
theorem dX4_version_44 : decode cX4_version 44 = .ok (.bipush (-3), 2) := by decide +kernel
theorem dX4_version_46 : decode cX4_version 46 = .ok (.ireturn, 1) := by decide +kernel
theorem dX4_version_47 : decode cX4_version 47 = .ok (.iconst 0, 1) := by decide +kernel
theorem dX4_version_48 : decode cX4_version 48 = .ok (.istore_n 1, 1) := by decide +kernel
theorem dX4_version_49 : decode cX4_version 49 = .ok (.iload_n 1, 1) := by decide +kernel
theorem dX4_version_50 : decode cX4_version 50 = .ok (.bipush 8, 2) := by decide +kernel
theorem dX4_version_52 : decode cX4_version 52 = .ok (.if_icmp .ge 33, 3) := by decide +kernel
theorem dX4_version_55 : decode cX4_version 55 = .ok (.aload_n 0, 1) := by decide +kernel
theorem dX4_version_56 : decode cX4_version 56 = .ok (.getfield 29, 3) := by decide +kernel
theorem dX4_version_59 : decode cX4_version 59 = .ok (.iload_n 1, 1) := by decide +kernel
theorem dX4_version_60 : decode cX4_version 60 = .ok (.invokevirtual 90, 3) := by decide +kernel
theorem dX4_version_63 : decode cX4_version 63 = .ok (.ifCond .eq 16, 3) := by decide +kernel
theorem dX4_version_66 : decode cX4_version 66 = .ok (.aload_n 0, 1) := by decide +kernel
theorem dX4_version_67 : decode cX4_version 67 = .ok (.iload_n 1, 1) := by decide +kernel
theorem dX4_version_68 : decode cX4_version 68 = .ok (.aload_n 0, 1) := by decide +kernel
theorem dX4_version_69 : decode cX4_version 69 = .ok (.getfield 29, 3) := by decide +kernel
theorem dX4_version_72 : decode cX4_version 72 = .ok (.iload_n 1, 1) := by decide +kernel
theorem dX4_version_73 : decode cX4_version 73 = .ok (.invokevirtual 93, 3) := by decide +kernel
theorem dX4_version_76 : decode cX4_version 76 = .ok (.invokevirtual 97, 3) := by decide +kernel
theorem dX4_version_79 : decode cX4_version 79 = .ok (.iinc 1 1, 3) := by decide +kernel
theorem dX4_version_82 : decode cX4_version 82 = .ok (.goto (-33), 3) := by decide +kernel
theorem dX4_version_85 : decode cX4_version 85 = .ok (.aload_n 0, 1) := by decide +kernel
theorem dX4_version_86 : decode cX4_version 86 = .ok (.getfield 19, 3) := by decide +kernel
theorem dX4_version_89 : decode cX4_version 89 = .ok (.getfield 79, 3) := by decide +kernel
theorem dX4_version_92 : decode cX4_version 92 = .ok (.istore_n 1, 1) := by decide +kernel
theorem dX4_version_93 : decode cX4_version 93 = .ok (.aload_n 0, 1) := by decide +kernel
theorem dX4_version_94 : decode cX4_version 94 = .ok (.iconst 3, 1) := by decide +kernel
theorem dX4_version_95 : decode cX4_version 95 = .ok (.iload_n 1, 1) := by decide +kernel
theorem dX4_version_96 : decode cX4_version 96 = .ok (.invokevirtual 68, 3) := by decide +kernel
theorem dX4_version_99 : decode cX4_version 99 = .ok (.iconst 0, 1) := by decide +kernel
theorem dX4_version_100 : decode cX4_version 100 = .ok (.istore_n 2, 1) := by decide +kernel
theorem dX4_version_101 : decode cX4_version 101 = .ok (.iload_n 2, 1) := by decide +kernel
theorem dX4_version_102 : decode cX4_version 102 = .ok (.bipush 8, 2) := by decide +kernel
theorem dX4_version_104 : decode cX4_version 104 = .ok (.if_icmp .ge 26, 3) := by decide +kernel
theorem dX4_version_107 : decode cX4_version 107 = .ok (.aload_n 0, 1) := by decide +kernel
theorem dX4_version_108 : decode cX4_version 108 = .ok (.getfield 12, 3) := by decide +kernel
theorem dX4_version_111 : decode cX4_version 111 = .ok (.aload_n 0, 1) := by decide +kernel
theorem dX4_version_112 : decode cX4_version 112 = .ok (.getfield 29, 3) := by decide +kernel
theorem dX4_version_115 : decode cX4_version 115 = .ok (.iload_n 2, 1) := by decide +kernel
theorem dX4_version_116 : decode cX4_version 116 = .ok (.invokevirtual 93, 3) := by decide +kernel
theorem dX4_version_119 : decode cX4_version 119 = .ok (.i2l, 1) := by decide +kernel
theorem dX4_version_120 : decode cX4_version 120 = .ok (.iconst 2, 1) := by decide +kernel
theorem dX4_version_121 : decode cX4_version 121 = .ok (.invokevirtual 72, 3) := by decide +kernel
theorem dX4_version_124 : decode cX4_version 124 = .ok (.iinc 2 1, 3) := by decide +kernel
theorem dX4_version_127 : decode cX4_version 127 = .ok (.goto (-26), 3) := by decide +kernel
theorem dX4_version_130 : decode cX4_version 130 = .ok (.aload_n 0, 1) := by decide +kernel
theorem dX4_version_131 : decode cX4_version 131 = .ok (.invokevirtual 76, 3) := by decide +kernel
theorem dX4_version_134 : decode cX4_version 134 = .ok (.iload_n 1, 1) := by decide +kernel
theorem dX4_version_135 : decode cX4_version 135 = .ok (.ireturn, 1) := by decide +kernel
theorem dX4_answer_0 : decode cX4_answer 0 = .ok (.aload_n 0, 1) := by decide +kernel
theorem dX4_answer_1 : decode cX4_answer 1 = .ok (.invokevirtual 50, 3) := by decide +kernel
theorem dX4_answer_4 : decode cX4_answer 4 = .ok (.aload_n 0, 1) := by decide +kernel
theorem dX4_answer_5 : decode cX4_answer 5 = .ok (.iload_n 1, 1) := by decide +kernel
theorem dX4_answer_6 : decode cX4_answer 6 = .ok (.invokevirtual 100, 3) := by decide +kernel
theorem dX4_answer_9 : decode cX4_answer 9 = .ok (.aload_n 0, 1) := by decide +kernel
theorem dX4_answer_10 : decode cX4_answer 10 = .ok (.iload_n 2, 1) := by decide +kernel
theorem dX4_answer_11 : decode cX4_answer 11 = .ok (.invokevirtual 53, 3) := by decide +kernel
theorem dX4_answer_14 : decode cX4_answer 14 = .ok (.aload_n 0, 1) := by decide +kernel
theorem dX4_answer_15 : decode cX4_answer 15 = .ok (.getfield 19, 3) := by decide +kernel
theorem dX4_answer_18 : decode cX4_answer 18 = .ok (.getfield 103, 3) := by decide +kernel
theorem dX4_answer_21 : decode cX4_answer 21 = .ok (.bipush 100, 2) := by decide +kernel
theorem dX4_answer_23 : decode cX4_answer 23 = .ok (.if_icmp .ge 12, 3) := by decide +kernel
theorem dX4_answer_26 : decode cX4_answer 26 = .ok (.aload_n 0, 1) := by decide +kernel
theorem dX4_answer_27 : decode cX4_answer 27 = .ok (.bipush 22, 2) := by decide +kernel
theorem dX4_answer_29 : decode cX4_answer 29 = .ok (.invokevirtual 60, 3) := by decide +kernel
theorem dX4_answer_32 : decode cX4_answer 32 = .ok (.ifCond .ne 6, 3) := by decide +kernel
theorem dX4_answer_35 : decode cX4_answer 35 = .ok (.bipush (-3), 2) := by decide +kernel
theorem dX4_answer_37 : decode cX4_answer 37 = .ok (.ireturn, 1) := by decide +kernel
theorem dX4_answer_38 : decode cX4_answer 38 = .ok (.aload_n 0, 1) := by decide +kernel
theorem dX4_answer_39 : decode cX4_answer 39 = .ok (.getfield 19, 3) := by decide +kernel
theorem dX4_answer_42 : decode cX4_answer 42 = .ok (.getfield 103, 3) := by decide +kernel
theorem dX4_answer_45 : decode cX4_answer 45 = .ok (.istore_n 3, 1) := by decide +kernel
theorem dX4_answer_46 : decode cX4_answer 46 = .ok (.aload_n 0, 1) := by decide +kernel
theorem dX4_answer_47 : decode cX4_answer 47 = .ok (.iconst 4, 1) := by decide +kernel
theorem dX4_answer_48 : decode cX4_answer 48 = .ok (.iload_n 3, 1) := by decide +kernel
theorem dX4_answer_49 : decode cX4_answer 49 = .ok (.invokevirtual 68, 3) := by decide +kernel
theorem dX4_answer_52 : decode cX4_answer 52 = .ok (.aload_n 0, 1) := by decide +kernel
theorem dX4_answer_53 : decode cX4_answer 53 = .ok (.getfield 12, 3) := by decide +kernel
theorem dX4_answer_56 : decode cX4_answer 56 = .ok (.iload_n 1, 1) := by decide +kernel
theorem dX4_answer_57 : decode cX4_answer 57 = .ok (.i2l, 1) := by decide +kernel
theorem dX4_answer_58 : decode cX4_answer 58 = .ok (.iconst 1, 1) := by decide +kernel
theorem dX4_answer_59 : decode cX4_answer 59 = .ok (.invokevirtual 72, 3) := by decide +kernel
theorem dX4_answer_62 : decode cX4_answer 62 = .ok (.aload_n 0, 1) := by decide +kernel
theorem dX4_answer_63 : decode cX4_answer 63 = .ok (.getfield 12, 3) := by decide +kernel
theorem dX4_answer_66 : decode cX4_answer 66 = .ok (.iload_n 2, 1) := by decide +kernel
theorem dX4_answer_67 : decode cX4_answer 67 = .ok (.i2l, 1) := by decide +kernel
theorem dX4_answer_68 : decode cX4_answer 68 = .ok (.iconst 1, 1) := by decide +kernel
theorem dX4_answer_69 : decode cX4_answer 69 = .ok (.invokevirtual 72, 3) := by decide +kernel
theorem dX4_answer_72 : decode cX4_answer 72 = .ok (.aload_n 0, 1) := by decide +kernel
theorem dX4_answer_73 : decode cX4_answer 73 = .ok (.getfield 12, 3) := by decide +kernel
theorem dX4_answer_76 : decode cX4_answer 76 = .ok (.aload_n 0, 1) := by decide +kernel
theorem dX4_answer_77 : decode cX4_answer 77 = .ok (.iload_n 1, 1) := by decide +kernel
theorem dX4_answer_78 : decode cX4_answer 78 = .ok (.iload_n 2, 1) := by decide +kernel
theorem dX4_answer_79 : decode cX4_answer 79 = .ok (.invokevirtual 106, 3) := by decide +kernel
theorem dX4_answer_82 : decode cX4_answer 82 = .ok (.bipush 8, 2) := by decide +kernel
theorem dX4_answer_84 : decode cX4_answer 84 = .ok (.invokevirtual 72, 3) := by decide +kernel
theorem dX4_answer_87 : decode cX4_answer 87 = .ok (.aload_n 0, 1) := by decide +kernel
theorem dX4_answer_88 : decode cX4_answer 88 = .ok (.invokevirtual 76, 3) := by decide +kernel
theorem dX4_answer_91 : decode cX4_answer 91 = .ok (.iload_n 3, 1) := by decide +kernel
theorem dX4_answer_92 : decode cX4_answer 92 = .ok (.ireturn, 1) := by decide +kernel
theorem dX4_drop_0 : decode cX4_drop 0 = .ok (.aload_n 0, 1) := by decide +kernel
theorem dX4_drop_1 : decode cX4_drop 1 = .ok (.invokevirtual 50, 3) := by decide +kernel
theorem dX4_drop_4 : decode cX4_drop 4 = .ok (.aload_n 0, 1) := by decide +kernel
theorem dX4_drop_5 : decode cX4_drop 5 = .ok (.iload_n 1, 1) := by decide +kernel
theorem dX4_drop_6 : decode cX4_drop 6 = .ok (.invokevirtual 100, 3) := by decide +kernel
theorem dX4_drop_9 : decode cX4_drop 9 = .ok (.aload_n 0, 1) := by decide +kernel
theorem dX4_drop_10 : decode cX4_drop 10 = .ok (.bipush 12, 2) := by decide +kernel
theorem dX4_drop_12 : decode cX4_drop 12 = .ok (.invokevirtual 60, 3) := by decide +kernel
theorem dX4_drop_15 : decode cX4_drop 15 = .ok (.ifCond .ne 6, 3) := by decide +kernel
theorem dX4_drop_18 : decode cX4_drop 18 = .ok (.bipush (-3), 2) := by decide +kernel
theorem dX4_drop_20 : decode cX4_drop 20 = .ok (.ireturn, 1) := by decide +kernel
theorem dX4_drop_21 : decode cX4_drop 21 = .ok (.aload_n 0, 1) := by decide +kernel
theorem dX4_drop_22 : decode cX4_drop 22 = .ok (.getfield 19, 3) := by decide +kernel
theorem dX4_drop_25 : decode cX4_drop 25 = .ok (.getfield 110, 3) := by decide +kernel
theorem dX4_drop_28 : decode cX4_drop 28 = .ok (.invokevirtual 114, 3) := by decide +kernel
theorem dX4_drop_31 : decode cX4_drop 31 = .ok (.istore_n 2, 1) := by decide +kernel
theorem dX4_drop_32 : decode cX4_drop 32 = .ok (.aload_n 0, 1) := by decide +kernel
theorem dX4_drop_33 : decode cX4_drop 33 = .ok (.iconst 5, 1) := by decide +kernel
theorem dX4_drop_34 : decode cX4_drop 34 = .ok (.iload_n 1, 1) := by decide +kernel
theorem dX4_drop_35 : decode cX4_drop 35 = .ok (.invokevirtual 68, 3) := by decide +kernel
theorem dX4_drop_38 : decode cX4_drop 38 = .ok (.aload_n 0, 1) := by decide +kernel
theorem dX4_drop_39 : decode cX4_drop 39 = .ok (.invokevirtual 76, 3) := by decide +kernel
theorem dX4_drop_42 : decode cX4_drop 42 = .ok (.iload_n 2, 1) := by decide +kernel
theorem dX4_drop_43 : decode cX4_drop 43 = .ok (.aload_n 0, 1) := by decide +kernel
theorem dX4_drop_44 : decode cX4_drop 44 = .ok (.getfield 19, 3) := by decide +kernel
theorem dX4_drop_47 : decode cX4_drop 47 = .ok (.getfield 110, 3) := by decide +kernel
theorem dX4_drop_50 : decode cX4_drop 50 = .ok (.invokevirtual 114, 3) := by decide +kernel
theorem dX4_drop_53 : decode cX4_drop 53 = .ok (.isub, 1) := by decide +kernel
theorem dX4_drop_54 : decode cX4_drop 54 = .ok (.ireturn, 1) := by decide +kernel
theorem dX4_keep_0 : decode cX4_keep 0 = .ok (.aload_n 0, 1) := by decide +kernel
theorem dX4_keep_1 : decode cX4_keep 1 = .ok (.invokevirtual 50, 3) := by decide +kernel
theorem dX4_keep_4 : decode cX4_keep 4 = .ok (.aload_n 0, 1) := by decide +kernel
theorem dX4_keep_5 : decode cX4_keep 5 = .ok (.dup, 1) := by decide +kernel
theorem dX4_keep_6 : decode cX4_keep 6 = .ok (.getfield 119, 3) := by decide +kernel
theorem dX4_keep_9 : decode cX4_keep 9 = .ok (.iconst 1, 1) := by decide +kernel
theorem dX4_keep_10 : decode cX4_keep 10 = .ok (.iadd, 1) := by decide +kernel
theorem dX4_keep_11 : decode cX4_keep 11 = .ok (.putfield 119, 3) := by decide +kernel
theorem dX4_keep_14 : decode cX4_keep 14 = .ok (.aload_n 0, 1) := by decide +kernel
theorem dX4_keep_15 : decode cX4_keep 15 = .ok (.invokevirtual 122, 3) := by decide +kernel
theorem dX4_keep_18 : decode cX4_keep 18 = .ok (.aload_n 0, 1) := by decide +kernel
theorem dX4_keep_19 : decode cX4_keep 19 = .ok (.getfield 119, 3) := by decide +kernel
theorem dX4_keep_22 : decode cX4_keep 22 = .ok (.ireturn, 1) := by decide +kernel
theorem dX4_crash_0 : decode cX4_crash 0 = .ok (.aload_n 0, 1) := by decide +kernel
theorem dX4_crash_1 : decode cX4_crash 1 = .ok (.getfield 125, 3) := by decide +kernel
theorem dX4_crash_4 : decode cX4_crash 4 = .ok (.ifCond .ne 5, 3) := by decide +kernel
theorem dX4_crash_7 : decode cX4_crash 7 = .ok (.iconst 0, 1) := by decide +kernel
theorem dX4_crash_8 : decode cX4_crash 8 = .ok (.ireturn, 1) := by decide +kernel
theorem dX4_crash_9 : decode cX4_crash 9 = .ok (.aload_n 0, 1) := by decide +kernel
theorem dX4_crash_10 : decode cX4_crash 10 = .ok (.iconst 0, 1) := by decide +kernel
theorem dX4_crash_11 : decode cX4_crash 11 = .ok (.putfield 125, 3) := by decide +kernel
theorem dX4_crash_14 : decode cX4_crash 14 = .ok (.aload_n 0, 1) := by decide +kernel
theorem dX4_crash_15 : decode cX4_crash 15 = .ok (.getfield 12, 3) := by decide +kernel
theorem dX4_crash_18 : decode cX4_crash 18 = .ok (.iload_n 1, 1) := by decide +kernel
theorem dX4_crash_19 : decode cX4_crash 19 = .ok (.invokevirtual 129, 3) := by decide +kernel
theorem dX4_crash_22 : decode cX4_crash 22 = .ok (.ireturn, 1) := by decide +kernel
theorem dX4_open_0 : decode cX4_open 0 = .ok (.aload_n 0, 1) := by decide +kernel
theorem dX4_open_1 : decode cX4_open 1 = .ok (.iconst 0, 1) := by decide +kernel
theorem dX4_open_2 : decode cX4_open 2 = .ok (.putfield 125, 3) := by decide +kernel
theorem dX4_open_5 : decode cX4_open 5 = .ok (.aload_n 0, 1) := by decide +kernel
theorem dX4_open_6 : decode cX4_open 6 = .ok (.invokevirtual 132, 3) := by decide +kernel
theorem dX4_open_9 : decode cX4_open 9 = .ok (.istore_n 1, 1) := by decide +kernel
theorem dX4_open_10 : decode cX4_open 10 = .ok (.iload_n 1, 1) := by decide +kernel
theorem dX4_open_11 : decode cX4_open 11 = .ok (.iconst (-1), 1) := by decide +kernel
theorem dX4_open_12 : decode cX4_open 12 = .ok (.if_icmp .ne 5, 3) := by decide +kernel
theorem dX4_open_15 : decode cX4_open 15 = .ok (.iconst (-1), 1) := by decide +kernel
theorem dX4_open_16 : decode cX4_open 16 = .ok (.ireturn, 1) := by decide +kernel
theorem dX4_open_17 : decode cX4_open 17 = .ok (.aload_n 0, 1) := by decide +kernel
theorem dX4_open_18 : decode cX4_open 18 = .ok (.getfield 19, 3) := by decide +kernel
theorem dX4_open_21 : decode cX4_open 21 = .ok (.aload_n 0, 1) := by decide +kernel
theorem dX4_open_22 : decode cX4_open 22 = .ok (.getfield 12, 3) := by decide +kernel
theorem dX4_open_25 : decode cX4_open 25 = .ok (.aload_n 0, 1) := by decide +kernel
theorem dX4_open_26 : decode cX4_open 26 = .ok (.getfield 12, 3) := by decide +kernel
theorem dX4_open_29 : decode cX4_open 29 = .ok (.iload_n 1, 1) := by decide +kernel
theorem dX4_open_30 : decode cX4_open 30 = .ok (.iconst 4, 1) := by decide +kernel
theorem dX4_open_31 : decode cX4_open 31 = .ok (.iadd, 1) := by decide +kernel
theorem dX4_open_32 : decode cX4_open 32 = .ok (.iconst 4, 1) := by decide +kernel
theorem dX4_open_33 : decode cX4_open 33 = .ok (.invokevirtual 135, 3) := by decide +kernel
theorem dX4_open_36 : decode cX4_open 36 = .ok (.l2i, 1) := by decide +kernel
theorem dX4_open_37 : decode cX4_open 37 = .ok (.aload_n 0, 1) := by decide +kernel
theorem dX4_open_38 : decode cX4_open 38 = .ok (.getfield 19, 3) := by decide +kernel
theorem dX4_open_41 : decode cX4_open 41 = .ok (.getfield 138, 3) := by decide +kernel
theorem dX4_open_44 : decode cX4_open 44 = .ok (.invokevirtual 141, 3) := by decide +kernel
theorem dX4_open_47 : decode cX4_open 47 = .ok (.istore_n 2, 1) := by decide +kernel
theorem dX4_open_48 : decode cX4_open 48 = .ok (.iload_n 2, 1) := by decide +kernel
theorem dX4_open_49 : decode cX4_open 49 = .ok (.iconst (-1), 1) := by decide +kernel
theorem dX4_open_50 : decode cX4_open 50 = .ok (.if_icmp .eq 8, 3) := by decide +kernel
theorem dX4_open_53 : decode cX4_open 53 = .ok (.bipush (-2), 2) := by decide +kernel
theorem dX4_open_55 : decode cX4_open 55 = .ok (.iload_n 2, 1) := by decide +kernel
theorem dX4_open_56 : decode cX4_open 56 = .ok (.isub, 1) := by decide +kernel
theorem dX4_open_57 : decode cX4_open 57 = .ok (.ireturn, 1) := by decide +kernel
theorem dX4_open_58 : decode cX4_open 58 = .ok (.aload_n 0, 1) := by decide +kernel
theorem dX4_open_59 : decode cX4_open 59 = .ok (.aload_n 0, 1) := by decide +kernel
theorem dX4_open_60 : decode cX4_open 60 = .ok (.getfield 12, 3) := by decide +kernel
theorem dX4_open_63 : decode cX4_open 63 = .ok (.iload_n 1, 1) := by decide +kernel
theorem dX4_open_64 : decode cX4_open 64 = .ok (.iconst 4, 1) := by decide +kernel
theorem dX4_open_65 : decode cX4_open 65 = .ok (.invokevirtual 135, 3) := by decide +kernel
theorem dX4_open_68 : decode cX4_open 68 = .ok (.l2i, 1) := by decide +kernel
theorem dX4_open_69 : decode cX4_open 69 = .ok (.putfield 119, 3) := by decide +kernel
theorem dX4_open_72 : decode cX4_open 72 = .ok (.aload_n 0, 1) := by decide +kernel
theorem dX4_open_73 : decode cX4_open 73 = .ok (.getfield 12, 3) := by decide +kernel
theorem dX4_open_76 : decode cX4_open 76 = .ok (.invokevirtual 145, 3) := by decide +kernel
theorem dX4_open_79 : decode cX4_open 79 = .ok (.aload_n 0, 1) := by decide +kernel
theorem dX4_open_80 : decode cX4_open 80 = .ok (.iconst 1, 1) := by decide +kernel
theorem dX4_open_81 : decode cX4_open 81 = .ok (.putfield 125, 3) := by decide +kernel
theorem dX4_open_84 : decode cX4_open 84 = .ok (.aload_n 0, 1) := by decide +kernel
theorem dX4_open_85 : decode cX4_open 85 = .ok (.getfield 19, 3) := by decide +kernel
theorem dX4_open_88 : decode cX4_open 88 = .ok (.invokevirtual 148, 3) := by decide +kernel
theorem dX4_open_91 : decode cX4_open 91 = .ok (.ireturn, 1) := by decide +kernel
theorem dX4_poke_0 : decode cX4_poke 0 = .ok (.aload_n 0, 1) := by decide +kernel
theorem dX4_poke_1 : decode cX4_poke 1 = .ok (.iload_n 1, 1) := by decide +kernel
theorem dX4_poke_2 : decode cX4_poke 2 = .ok (.invokevirtual 151, 3) := by decide +kernel
theorem dX4_poke_5 : decode cX4_poke 5 = .ok (.aload_n 0, 1) := by decide +kernel
theorem dX4_poke_6 : decode cX4_poke 6 = .ok (.getfield 12, 3) := by decide +kernel
theorem dX4_poke_9 : decode cX4_poke 9 = .ok (.iload_n 1, 1) := by decide +kernel
theorem dX4_poke_10 : decode cX4_poke 10 = .ok (.invokevirtual 154, 3) := by decide +kernel
theorem dX4_poke_13 : decode cX4_poke 13 = .ok (.istore_n 3, 1) := by decide +kernel
theorem dX4_poke_14 : decode cX4_poke 14 = .ok (.aload_n 0, 1) := by decide +kernel
theorem dX4_poke_15 : decode cX4_poke 15 = .ok (.getfield 12, 3) := by decide +kernel
theorem dX4_poke_18 : decode cX4_poke 18 = .ok (.iload_n 1, 1) := by decide +kernel
theorem dX4_poke_19 : decode cX4_poke 19 = .ok (.iload_n 3, 1) := by decide +kernel
theorem dX4_poke_20 : decode cX4_poke 20 = .ok (.iload_n 2, 1) := by decide +kernel
theorem dX4_poke_21 : decode cX4_poke 21 = .ok (.ixor, 1) := by decide +kernel
theorem dX4_poke_22 : decode cX4_poke 22 = .ok (.invokevirtual 157, 3) := by decide +kernel
theorem dX4_poke_25 : decode cX4_poke 25 = .ok (.iload_n 3, 1) := by decide +kernel
theorem dX4_poke_26 : decode cX4_poke 26 = .ok (.ireturn, 1) := by decide +kernel
theorem dX4_byteAt_0 : decode cX4_byteAt 0 = .ok (.aload_n 0, 1) := by decide +kernel
theorem dX4_byteAt_1 : decode cX4_byteAt 1 = .ok (.iload_n 1, 1) := by decide +kernel
theorem dX4_byteAt_2 : decode cX4_byteAt 2 = .ok (.invokevirtual 151, 3) := by decide +kernel
theorem dX4_byteAt_5 : decode cX4_byteAt 5 = .ok (.aload_n 0, 1) := by decide +kernel
theorem dX4_byteAt_6 : decode cX4_byteAt 6 = .ok (.getfield 12, 3) := by decide +kernel
theorem dX4_byteAt_9 : decode cX4_byteAt 9 = .ok (.iload_n 1, 1) := by decide +kernel
theorem dX4_byteAt_10 : decode cX4_byteAt 10 = .ok (.invokevirtual 154, 3) := by decide +kernel
theorem dX4_byteAt_13 : decode cX4_byteAt 13 = .ok (.ireturn, 1) := by decide +kernel
theorem dX4_badAt_0 : decode cX4_badAt 0 = .ok (.aload_n 0, 1) := by decide +kernel
theorem dX4_badAt_1 : decode cX4_badAt 1 = .ok (.invokevirtual 50, 3) := by decide +kernel
theorem dX4_badAt_4 : decode cX4_badAt 4 = .ok (.aload_n 0, 1) := by decide +kernel
theorem dX4_badAt_5 : decode cX4_badAt 5 = .ok (.getfield 23, 3) := by decide +kernel
theorem dX4_badAt_8 : decode cX4_badAt 8 = .ok (.aload_n 0, 1) := by decide +kernel
theorem dX4_badAt_9 : decode cX4_badAt 9 = .ok (.getfield 12, 3) := by decide +kernel
theorem dX4_badAt_12 : decode cX4_badAt 12 = .ok (.aload_n 0, 1) := by decide +kernel
theorem dX4_badAt_13 : decode cX4_badAt 13 = .ok (.getfield 19, 3) := by decide +kernel
theorem dX4_badAt_16 : decode cX4_badAt 16 = .ok (.getfield 160, 3) := by decide +kernel
theorem dX4_badAt_19 : decode cX4_badAt 19 = .ok (.aload_n 0, 1) := by decide +kernel
theorem dX4_badAt_20 : decode cX4_badAt 20 = .ok (.getfield 19, 3) := by decide +kernel
theorem dX4_badAt_23 : decode cX4_badAt 23 = .ok (.getfield 138, 3) := by decide +kernel
theorem dX4_badAt_26 : decode cX4_badAt 26 = .ok (.invokevirtual 141, 3) := by decide +kernel
theorem dX4_badAt_29 : decode cX4_badAt 29 = .ok (.ireturn, 1) := by decide +kernel
theorem dX4_has_0 : decode cX4_has 0 = .ok (.aload_n 0, 1) := by decide +kernel
theorem dX4_has_1 : decode cX4_has 1 = .ok (.invokevirtual 50, 3) := by decide +kernel
theorem dX4_has_4 : decode cX4_has 4 = .ok (.aload_n 0, 1) := by decide +kernel
theorem dX4_has_5 : decode cX4_has 5 = .ok (.iload_n 1, 1) := by decide +kernel
theorem dX4_has_6 : decode cX4_has 6 = .ok (.invokevirtual 163, 3) := by decide +kernel
theorem dX4_has_9 : decode cX4_has 9 = .ok (.aload_n 0, 1) := by decide +kernel
theorem dX4_has_10 : decode cX4_has 10 = .ok (.iload_n 2, 1) := by decide +kernel
theorem dX4_has_11 : decode cX4_has 11 = .ok (.invokevirtual 53, 3) := by decide +kernel
theorem dX4_has_14 : decode cX4_has 14 = .ok (.aload_n 0, 1) := by decide +kernel
theorem dX4_has_15 : decode cX4_has 15 = .ok (.iload_n 3, 1) := by decide +kernel
theorem dX4_has_16 : decode cX4_has 16 = .ok (.invokevirtual 53, 3) := by decide +kernel
theorem dX4_has_19 : decode cX4_has 19 = .ok (.aload_n 0, 1) := by decide +kernel
theorem dX4_has_20 : decode cX4_has 20 = .ok (.getfield 19, 3) := by decide +kernel
theorem dX4_has_23 : decode cX4_has 23 = .ok (.iload_n 1, 1) := by decide +kernel
theorem dX4_has_24 : decode cX4_has 24 = .ok (.iload_n 2, 1) := by decide +kernel
theorem dX4_has_25 : decode cX4_has 25 = .ok (.iload_n 3, 1) := by decide +kernel
theorem dX4_has_26 : decode cX4_has 26 = .ok (.invokevirtual 56, 3) := by decide +kernel
theorem dX4_has_29 : decode cX4_has 29 = .ok (.ireturn, 1) := by decide +kernel
theorem dX4_chunk_0 : decode cX4_chunk 0 = .ok (.aload_n 0, 1) := by decide +kernel
theorem dX4_chunk_1 : decode cX4_chunk 1 = .ok (.invokevirtual 50, 3) := by decide +kernel
theorem dX4_chunk_4 : decode cX4_chunk 4 = .ok (.aload_n 0, 1) := by decide +kernel
theorem dX4_chunk_5 : decode cX4_chunk 5 = .ok (.iload_n 1, 1) := by decide +kernel
theorem dX4_chunk_6 : decode cX4_chunk 6 = .ok (.invokevirtual 100, 3) := by decide +kernel
theorem dX4_chunk_9 : decode cX4_chunk 9 = .ok (.iload_n 2, 1) := by decide +kernel
theorem dX4_chunk_10 : decode cX4_chunk 10 = .ok (.ifCond .lt 9, 3) := by decide +kernel
theorem dX4_chunk_13 : decode cX4_chunk 13 = .ok (.iload_n 2, 1) := by decide +kernel
theorem dX4_chunk_14 : decode cX4_chunk 14 = .ok (.bipush 8, 2) := by decide +kernel
theorem dX4_chunk_16 : decode cX4_chunk 16 = .ok (.if_icmp .lt 13, 3) := by decide +kernel
theorem dX4_chunk_19 : decode cX4_chunk 19 = .ok (.new 166, 3) := by decide +kernel
theorem dX4_chunk_22 : decode cX4_chunk 22 = .ok (.dup, 1) := by decide +kernel
theorem dX4_chunk_23 : decode cX4_chunk 23 = .ok (.ldc 168, 2) := by decide +kernel
theorem dX4_chunk_25 : decode cX4_chunk 25 = .ok (.invokespecial 170, 3) := by decide +kernel
theorem dX4_chunk_28 : decode cX4_chunk 28 = .ok (.athrow, 1) := by decide +kernel
theorem dX4_chunk_29 : decode cX4_chunk 29 = .ok (.aload_n 0, 1) := by decide +kernel
theorem dX4_chunk_30 : decode cX4_chunk 30 = .ok (.getfield 19, 3) := by decide +kernel
theorem dX4_chunk_33 : decode cX4_chunk 33 = .ok (.getfield 110, 3) := by decide +kernel
theorem dX4_chunk_36 : decode cX4_chunk 36 = .ok (.aload_n 0, 1) := by decide +kernel
theorem dX4_chunk_37 : decode cX4_chunk 37 = .ok (.getfield 19, 3) := by decide +kernel
theorem dX4_chunk_40 : decode cX4_chunk 40 = .ok (.iload_n 1, 1) := by decide +kernel
theorem dX4_chunk_41 : decode cX4_chunk 41 = .ok (.iload_n 2, 1) := by decide +kernel
theorem dX4_chunk_42 : decode cX4_chunk 42 = .ok (.invokevirtual 171, 3) := by decide +kernel
theorem dX4_chunk_45 : decode cX4_chunk 45 = .ok (.invokevirtual 175, 3) := by decide +kernel
theorem dX4_chunk_48 : decode cX4_chunk 48 = .ok (.ireturn, 1) := by decide +kernel
theorem dX4_named_0 : decode cX4_named 0 = .ok (.aload_n 0, 1) := by decide +kernel
theorem dX4_named_1 : decode cX4_named 1 = .ok (.invokevirtual 50, 3) := by decide +kernel
theorem dX4_named_4 : decode cX4_named 4 = .ok (.iload_n 1, 1) := by decide +kernel
theorem dX4_named_5 : decode cX4_named 5 = .ok (.ifCond .lt 14, 3) := by decide +kernel
theorem dX4_named_8 : decode cX4_named 8 = .ok (.iload_n 1, 1) := by decide +kernel
theorem dX4_named_9 : decode cX4_named 9 = .ok (.aload_n 0, 1) := by decide +kernel
theorem dX4_named_10 : decode cX4_named 10 = .ok (.getfield 19, 3) := by decide +kernel
theorem dX4_named_13 : decode cX4_named 13 = .ok (.getfield 138, 3) := by decide +kernel
theorem dX4_named_16 : decode cX4_named 16 = .ok (.if_icmp .lt 13, 3) := by decide +kernel
theorem dX4_named_19 : decode cX4_named 19 = .ok (.new 166, 3) := by decide +kernel
theorem dX4_named_22 : decode cX4_named 22 = .ok (.dup, 1) := by decide +kernel
theorem dX4_named_23 : decode cX4_named 23 = .ok (.ldc 178, 2) := by decide +kernel
theorem dX4_named_25 : decode cX4_named 25 = .ok (.invokespecial 170, 3) := by decide +kernel
theorem dX4_named_28 : decode cX4_named 28 = .ok (.athrow, 1) := by decide +kernel
theorem dX4_named_29 : decode cX4_named 29 = .ok (.aload_n 0, 1) := by decide +kernel
theorem dX4_named_30 : decode cX4_named 30 = .ok (.getfield 19, 3) := by decide +kernel
theorem dX4_named_33 : decode cX4_named 33 = .ok (.getfield 110, 3) := by decide +kernel
theorem dX4_named_36 : decode cX4_named 36 = .ok (.aload_n 0, 1) := by decide +kernel
theorem dX4_named_37 : decode cX4_named 37 = .ok (.getfield 19, 3) := by decide +kernel
theorem dX4_named_40 : decode cX4_named 40 = .ok (.getfield 110, 3) := by decide +kernel
theorem dX4_named_43 : decode cX4_named 43 = .ok (.iload_n 1, 1) := by decide +kernel
theorem dX4_named_44 : decode cX4_named 44 = .ok (.invokevirtual 180, 3) := by decide +kernel
theorem dX4_named_47 : decode cX4_named 47 = .ok (.invokevirtual 183, 3) := by decide +kernel
theorem dX4_named_50 : decode cX4_named 50 = .ok (.ireturn, 1) := by decide +kernel
theorem dX4_differ_0 : decode cX4_differ 0 = .ok (.aload_n 0, 1) := by decide +kernel
theorem dX4_differ_1 : decode cX4_differ 1 = .ok (.invokevirtual 50, 3) := by decide +kernel
theorem dX4_differ_4 : decode cX4_differ 4 = .ok (.aload_n 0, 1) := by decide +kernel
theorem dX4_differ_5 : decode cX4_differ 5 = .ok (.iload_n 1, 1) := by decide +kernel
theorem dX4_differ_6 : decode cX4_differ 6 = .ok (.invokevirtual 163, 3) := by decide +kernel
theorem dX4_differ_9 : decode cX4_differ 9 = .ok (.aload_n 0, 1) := by decide +kernel
theorem dX4_differ_10 : decode cX4_differ 10 = .ok (.iload_n 2, 1) := by decide +kernel
theorem dX4_differ_11 : decode cX4_differ 11 = .ok (.invokevirtual 163, 3) := by decide +kernel
theorem dX4_differ_14 : decode cX4_differ 14 = .ok (.iconst 0, 1) := by decide +kernel
theorem dX4_differ_15 : decode cX4_differ 15 = .ok (.istore_n 3, 1) := by decide +kernel
theorem dX4_differ_16 : decode cX4_differ 16 = .ok (.iconst 0, 1) := by decide +kernel
theorem dX4_differ_17 : decode cX4_differ 17 = .ok (.istore 4, 2) := by decide +kernel
theorem dX4_differ_19 : decode cX4_differ 19 = .ok (.iload 4, 2) := by decide +kernel
theorem dX4_differ_21 : decode cX4_differ 21 = .ok (.bipush 64, 2) := by decide +kernel
theorem dX4_differ_23 : decode cX4_differ 23 = .ok (.if_icmp .ge 36, 3) := by decide +kernel
theorem dX4_differ_26 : decode cX4_differ 26 = .ok (.iload_n 3, 1) := by decide +kernel
theorem dX4_differ_27 : decode cX4_differ 27 = .ok (.aload_n 0, 1) := by decide +kernel
theorem dX4_differ_28 : decode cX4_differ 28 = .ok (.getfield 19, 3) := by decide +kernel
theorem dX4_differ_31 : decode cX4_differ 31 = .ok (.iload_n 1, 1) := by decide +kernel
theorem dX4_differ_32 : decode cX4_differ 32 = .ok (.iload 4, 2) := by decide +kernel
theorem dX4_differ_34 : decode cX4_differ 34 = .ok (.invokevirtual 186, 3) := by decide +kernel
theorem dX4_differ_37 : decode cX4_differ 37 = .ok (.aload_n 0, 1) := by decide +kernel
theorem dX4_differ_38 : decode cX4_differ 38 = .ok (.getfield 19, 3) := by decide +kernel
theorem dX4_differ_41 : decode cX4_differ 41 = .ok (.iload_n 2, 1) := by decide +kernel
theorem dX4_differ_42 : decode cX4_differ 42 = .ok (.iload 4, 2) := by decide +kernel
theorem dX4_differ_44 : decode cX4_differ 44 = .ok (.invokevirtual 186, 3) := by decide +kernel
theorem dX4_differ_47 : decode cX4_differ 47 = .ok (.lxor, 1) := by decide +kernel
theorem dX4_differ_48 : decode cX4_differ 48 = .ok (.invokestatic 189, 3) := by decide +kernel
theorem dX4_differ_51 : decode cX4_differ 51 = .ok (.iadd, 1) := by decide +kernel
theorem dX4_differ_52 : decode cX4_differ 52 = .ok (.istore_n 3, 1) := by decide +kernel
theorem dX4_differ_53 : decode cX4_differ 53 = .ok (.iinc 4 1, 3) := by decide +kernel
theorem dX4_differ_56 : decode cX4_differ 56 = .ok (.goto (-37), 3) := by decide +kernel
theorem dX4_differ_59 : decode cX4_differ 59 = .ok (.iload_n 3, 1) := by decide +kernel
theorem dX4_differ_60 : decode cX4_differ 60 = .ok (.ireturn, 1) := by decide +kernel
theorem dX4_far_0 : decode cX4_far 0 = .ok (.aload_n 0, 1) := by decide +kernel
theorem dX4_far_1 : decode cX4_far 1 = .ok (.invokevirtual 50, 3) := by decide +kernel
theorem dX4_far_4 : decode cX4_far 4 = .ok (.aload_n 0, 1) := by decide +kernel
theorem dX4_far_5 : decode cX4_far 5 = .ok (.iload_n 1, 1) := by decide +kernel
theorem dX4_far_6 : decode cX4_far 6 = .ok (.invokevirtual 163, 3) := by decide +kernel
theorem dX4_far_9 : decode cX4_far 9 = .ok (.aload_n 0, 1) := by decide +kernel
theorem dX4_far_10 : decode cX4_far 10 = .ok (.iload_n 2, 1) := by decide +kernel
theorem dX4_far_11 : decode cX4_far 11 = .ok (.invokevirtual 53, 3) := by decide +kernel
theorem dX4_far_14 : decode cX4_far 14 = .ok (.aload_n 0, 1) := by decide +kernel
theorem dX4_far_15 : decode cX4_far 15 = .ok (.iload_n 3, 1) := by decide +kernel
theorem dX4_far_16 : decode cX4_far 16 = .ok (.invokevirtual 53, 3) := by decide +kernel
theorem dX4_far_19 : decode cX4_far 19 = .ok (.lconst 1, 1) := by decide +kernel
theorem dX4_far_20 : decode cX4_far 20 = .ok (.iload_n 2, 1) := by decide +kernel
theorem dX4_far_21 : decode cX4_far 21 = .ok (.lshl, 1) := by decide +kernel
theorem dX4_far_22 : decode cX4_far 22 = .ok (.lstore 4, 2) := by decide +kernel
theorem dX4_far_24 : decode cX4_far 24 = .ok (.lload 4, 2) := by decide +kernel
theorem dX4_far_26 : decode cX4_far 26 = .ok (.lstore 6, 2) := by decide +kernel
theorem dX4_far_28 : decode cX4_far 28 = .ok (.iconst 0, 1) := by decide +kernel
theorem dX4_far_29 : decode cX4_far 29 = .ok (.istore 8, 2) := by decide +kernel
theorem dX4_far_31 : decode cX4_far 31 = .ok (.iload 8, 2) := by decide +kernel
theorem dX4_far_33 : decode cX4_far 33 = .ok (.bipush 64, 2) := by decide +kernel
theorem dX4_far_35 : decode cX4_far 35 = .ok (.if_icmp .ge 46, 3) := by decide +kernel
theorem dX4_far_38 : decode cX4_far 38 = .ok (.lload 6, 2) := by decide +kernel
theorem dX4_far_40 : decode cX4_far 40 = .ok (.iload_n 3, 1) := by decide +kernel
theorem dX4_far_41 : decode cX4_far 41 = .ok (.lushr, 1) := by decide +kernel
theorem dX4_far_42 : decode cX4_far 42 = .ok (.lconst 1, 1) := by decide +kernel
theorem dX4_far_43 : decode cX4_far 43 = .ok (.land, 1) := by decide +kernel
theorem dX4_far_44 : decode cX4_far 44 = .ok (.lconst 0, 1) := by decide +kernel
theorem dX4_far_45 : decode cX4_far 45 = .ok (.lcmp, 1) := by decide +kernel
theorem dX4_far_46 : decode cX4_far 46 = .ok (.ifCond .eq 6, 3) := by decide +kernel
theorem dX4_far_49 : decode cX4_far 49 = .ok (.iload 8, 2) := by decide +kernel
theorem dX4_far_51 : decode cX4_far 51 = .ok (.ireturn, 1) := by decide +kernel
theorem dX4_far_52 : decode cX4_far 52 = .ok (.aload_n 0, 1) := by decide +kernel
theorem dX4_far_53 : decode cX4_far 53 = .ok (.iload_n 1, 1) := by decide +kernel
theorem dX4_far_54 : decode cX4_far 54 = .ok (.lload 6, 2) := by decide +kernel
theorem dX4_far_56 : decode cX4_far 56 = .ok (.invokevirtual 195, 3) := by decide +kernel
theorem dX4_far_59 : decode cX4_far 59 = .ok (.lload 4, 2) := by decide +kernel
theorem dX4_far_61 : decode cX4_far 61 = .ok (.ldc2_w 199, 3) := by decide +kernel
theorem dX4_far_64 : decode cX4_far 64 = .ok (.lxor, 1) := by decide +kernel
theorem dX4_far_65 : decode cX4_far 65 = .ok (.land, 1) := by decide +kernel
theorem dX4_far_66 : decode cX4_far 66 = .ok (.lstore 6, 2) := by decide +kernel
theorem dX4_far_68 : decode cX4_far 68 = .ok (.lload 4, 2) := by decide +kernel
theorem dX4_far_70 : decode cX4_far 70 = .ok (.lload 6, 2) := by decide +kernel
theorem dX4_far_72 : decode cX4_far 72 = .ok (.lor, 1) := by decide +kernel
theorem dX4_far_73 : decode cX4_far 73 = .ok (.lstore 4, 2) := by decide +kernel
theorem dX4_far_75 : decode cX4_far 75 = .ok (.iinc 8 1, 3) := by decide +kernel
theorem dX4_far_78 : decode cX4_far 78 = .ok (.goto (-47), 3) := by decide +kernel
theorem dX4_far_81 : decode cX4_far 81 = .ok (.iconst (-1), 1) := by decide +kernel
theorem dX4_far_82 : decode cX4_far 82 = .ok (.ireturn, 1) := by decide +kernel
theorem dX4_usable_0 : decode cX4_usable 0 = .ok (.aload_n 0, 1) := by decide +kernel
theorem dX4_usable_1 : decode cX4_usable 1 = .ok (.invokevirtual 50, 3) := by decide +kernel
theorem dX4_usable_4 : decode cX4_usable 4 = .ok (.aload_n 0, 1) := by decide +kernel
theorem dX4_usable_5 : decode cX4_usable 5 = .ok (.iload_n 1, 1) := by decide +kernel
theorem dX4_usable_6 : decode cX4_usable 6 = .ok (.invokevirtual 201, 3) := by decide +kernel
theorem dX4_usable_9 : decode cX4_usable 9 = .ok (.aload_n 0, 1) := by decide +kernel
theorem dX4_usable_10 : decode cX4_usable 10 = .ok (.getfield 19, 3) := by decide +kernel
theorem dX4_usable_13 : decode cX4_usable 13 = .ok (.aload_n 0, 1) := by decide +kernel
theorem dX4_usable_14 : decode cX4_usable 14 = .ok (.getfield 19, 3) := by decide +kernel
theorem dX4_usable_17 : decode cX4_usable 17 = .ok (.iload_n 1, 1) := by decide +kernel
theorem dX4_usable_18 : decode cX4_usable 18 = .ok (.invokevirtual 204, 3) := by decide +kernel
theorem dX4_usable_21 : decode cX4_usable 21 = .ok (.invokevirtual 207, 3) := by decide +kernel
theorem dX4_usable_24 : decode cX4_usable 24 = .ok (.ireturn, 1) := by decide +kernel
theorem dX4_mask_0 : decode cX4_mask 0 = .ok (.aload_n 0, 1) := by decide +kernel
theorem dX4_mask_1 : decode cX4_mask 1 = .ok (.invokevirtual 50, 3) := by decide +kernel
theorem dX4_mask_4 : decode cX4_mask 4 = .ok (.aload_n 0, 1) := by decide +kernel
theorem dX4_mask_5 : decode cX4_mask 5 = .ok (.iload_n 1, 1) := by decide +kernel
theorem dX4_mask_6 : decode cX4_mask 6 = .ok (.invokevirtual 201, 3) := by decide +kernel
theorem dX4_mask_9 : decode cX4_mask 9 = .ok (.aload_n 0, 1) := by decide +kernel
theorem dX4_mask_10 : decode cX4_mask 10 = .ok (.getfield 19, 3) := by decide +kernel
theorem dX4_mask_13 : decode cX4_mask 13 = .ok (.iload_n 1, 1) := by decide +kernel
theorem dX4_mask_14 : decode cX4_mask 14 = .ok (.invokevirtual 210, 3) := by decide +kernel
theorem dX4_mask_17 : decode cX4_mask 17 = .ok (.lreturn, 1) := by decide +kernel
theorem dX4_told_0 : decode cX4_told 0 = .ok (.aload_n 0, 1) := by decide +kernel
theorem dX4_told_1 : decode cX4_told 1 = .ok (.invokevirtual 50, 3) := by decide +kernel
theorem dX4_told_4 : decode cX4_told 4 = .ok (.iload_n 1, 1) := by decide +kernel
theorem dX4_told_5 : decode cX4_told 5 = .ok (.tableswitch 135 0 9 #[55, 63, 71, 79, 87, 95, 100, 108, 119, 127], 55) := by decide +kernel
theorem dX4_told_60 : decode cX4_told 60 = .ok (.aload_n 0, 1) := by decide +kernel
theorem dX4_told_61 : decode cX4_told 61 = .ok (.getfield 19, 3) := by decide +kernel
theorem dX4_told_64 : decode cX4_told 64 = .ok (.invokevirtual 148, 3) := by decide +kernel
theorem dX4_told_67 : decode cX4_told 67 = .ok (.ireturn, 1) := by decide +kernel
theorem dX4_told_68 : decode cX4_told 68 = .ok (.aload_n 0, 1) := by decide +kernel
theorem dX4_told_69 : decode cX4_told 69 = .ok (.getfield 19, 3) := by decide +kernel
theorem dX4_told_72 : decode cX4_told 72 = .ok (.getfield 79, 3) := by decide +kernel
theorem dX4_told_75 : decode cX4_told 75 = .ok (.ireturn, 1) := by decide +kernel
theorem dX4_told_76 : decode cX4_told 76 = .ok (.aload_n 0, 1) := by decide +kernel
theorem dX4_told_77 : decode cX4_told 77 = .ok (.getfield 19, 3) := by decide +kernel
theorem dX4_told_80 : decode cX4_told 80 = .ok (.getfield 103, 3) := by decide +kernel
theorem dX4_told_83 : decode cX4_told 83 = .ok (.ireturn, 1) := by decide +kernel
theorem dX4_told_84 : decode cX4_told 84 = .ok (.aload_n 0, 1) := by decide +kernel
theorem dX4_told_85 : decode cX4_told 85 = .ok (.getfield 19, 3) := by decide +kernel
theorem dX4_told_88 : decode cX4_told 88 = .ok (.getfield 160, 3) := by decide +kernel
theorem dX4_told_91 : decode cX4_told 91 = .ok (.ireturn, 1) := by decide +kernel
theorem dX4_told_92 : decode cX4_told 92 = .ok (.aload_n 0, 1) := by decide +kernel
theorem dX4_told_93 : decode cX4_told 93 = .ok (.getfield 19, 3) := by decide +kernel
theorem dX4_told_96 : decode cX4_told 96 = .ok (.getfield 64, 3) := by decide +kernel
theorem dX4_told_99 : decode cX4_told 99 = .ok (.ireturn, 1) := by decide +kernel
theorem dX4_told_100 : decode cX4_told 100 = .ok (.aload_n 0, 1) := by decide +kernel
theorem dX4_told_101 : decode cX4_told 101 = .ok (.getfield 119, 3) := by decide +kernel
theorem dX4_told_104 : decode cX4_told 104 = .ok (.ireturn, 1) := by decide +kernel
theorem dX4_told_105 : decode cX4_told 105 = .ok (.aload_n 0, 1) := by decide +kernel
theorem dX4_told_106 : decode cX4_told 106 = .ok (.getfield 19, 3) := by decide +kernel
theorem dX4_told_109 : decode cX4_told 109 = .ok (.invokevirtual 214, 3) := by decide +kernel
theorem dX4_told_112 : decode cX4_told 112 = .ok (.ireturn, 1) := by decide +kernel
theorem dX4_told_113 : decode cX4_told 113 = .ok (.aload_n 0, 1) := by decide +kernel
theorem dX4_told_114 : decode cX4_told 114 = .ok (.getfield 19, 3) := by decide +kernel
theorem dX4_told_117 : decode cX4_told 117 = .ok (.getfield 110, 3) := by decide +kernel
theorem dX4_told_120 : decode cX4_told 120 = .ok (.invokevirtual 114, 3) := by decide +kernel
theorem dX4_told_123 : decode cX4_told 123 = .ok (.ireturn, 1) := by decide +kernel
theorem dX4_told_124 : decode cX4_told 124 = .ok (.aload_n 0, 1) := by decide +kernel
theorem dX4_told_125 : decode cX4_told 125 = .ok (.getfield 19, 3) := by decide +kernel
theorem dX4_told_128 : decode cX4_told 128 = .ok (.getfield 217, 3) := by decide +kernel
theorem dX4_told_131 : decode cX4_told 131 = .ok (.ireturn, 1) := by decide +kernel
theorem dX4_told_132 : decode cX4_told 132 = .ok (.aload_n 0, 1) := by decide +kernel
theorem dX4_told_133 : decode cX4_told 133 = .ok (.getfield 12, 3) := by decide +kernel
theorem dX4_told_136 : decode cX4_told 136 = .ok (.getfield 220, 3) := by decide +kernel
theorem dX4_told_139 : decode cX4_told 139 = .ok (.ireturn, 1) := by decide +kernel
theorem dX4_told_140 : decode cX4_told 140 = .ok (.new 166, 3) := by decide +kernel
theorem dX4_told_143 : decode cX4_told 143 = .ok (.dup, 1) := by decide +kernel
theorem dX4_told_144 : decode cX4_told 144 = .ok (.ldc 223, 2) := by decide +kernel
theorem dX4_told_146 : decode cX4_told 146 = .ok (.invokespecial 170, 3) := by decide +kernel
theorem dX4_told_149 : decode cX4_told 149 = .ok (.athrow, 1) := by decide +kernel
theorem dX4_isOpen_0 : decode cX4_isOpen 0 = .ok (.aload_n 0, 1) := by decide +kernel
theorem dX4_isOpen_1 : decode cX4_isOpen 1 = .ok (.getfield 125, 3) := by decide +kernel
theorem dX4_isOpen_4 : decode cX4_isOpen 4 = .ok (.ireturn, 1) := by decide +kernel
theorem dX4_requireOpen_0 : decode cX4_requireOpen 0 = .ok (.aload_n 0, 1) := by decide +kernel
theorem dX4_requireOpen_1 : decode cX4_requireOpen 1 = .ok (.getfield 125, 3) := by decide +kernel
theorem dX4_requireOpen_4 : decode cX4_requireOpen 4 = .ok (.ifCond .ne 13, 3) := by decide +kernel
theorem dX4_requireOpen_7 : decode cX4_requireOpen 7 = .ok (.new 225, 3) := by decide +kernel
theorem dX4_requireOpen_10 : decode cX4_requireOpen 10 = .ok (.dup, 1) := by decide +kernel
theorem dX4_requireOpen_11 : decode cX4_requireOpen 11 = .ok (.ldc 227, 2) := by decide +kernel
theorem dX4_requireOpen_13 : decode cX4_requireOpen 13 = .ok (.invokespecial 229, 3) := by decide +kernel
theorem dX4_requireOpen_16 : decode cX4_requireOpen 16 = .ok (.athrow, 1) := by decide +kernel
theorem dX4_requireOpen_17 : decode cX4_requireOpen 17 = .ok (.return_, 1) := by decide +kernel
theorem dX4_requireNode_0 : decode cX4_requireNode 0 = .ok (.iload_n 1, 1) := by decide +kernel
theorem dX4_requireNode_1 : decode cX4_requireNode 1 = .ok (.ifCond .lt 9, 3) := by decide +kernel
theorem dX4_requireNode_4 : decode cX4_requireNode 4 = .ok (.iload_n 1, 1) := by decide +kernel
theorem dX4_requireNode_5 : decode cX4_requireNode 5 = .ok (.bipush 64, 2) := by decide +kernel
theorem dX4_requireNode_7 : decode cX4_requireNode 7 = .ok (.if_icmp .lt 13, 3) := by decide +kernel
theorem dX4_requireNode_10 : decode cX4_requireNode 10 = .ok (.new 166, 3) := by decide +kernel
theorem dX4_requireNode_13 : decode cX4_requireNode 13 = .ok (.dup, 1) := by decide +kernel
theorem dX4_requireNode_14 : decode cX4_requireNode 14 = .ok (.ldc 230, 2) := by decide +kernel
theorem dX4_requireNode_16 : decode cX4_requireNode 16 = .ok (.invokespecial 170, 3) := by decide +kernel
theorem dX4_requireNode_19 : decode cX4_requireNode 19 = .ok (.athrow, 1) := by decide +kernel
theorem dX4_requireNode_20 : decode cX4_requireNode 20 = .ok (.return_, 1) := by decide +kernel
theorem dX4_requireVersion_0 : decode cX4_requireVersion 0 = .ok (.aload_n 0, 1) := by decide +kernel
theorem dX4_requireVersion_1 : decode cX4_requireVersion 1 = .ok (.getfield 19, 3) := by decide +kernel
theorem dX4_requireVersion_4 : decode cX4_requireVersion 4 = .ok (.iload_n 1, 1) := by decide +kernel
theorem dX4_requireVersion_5 : decode cX4_requireVersion 5 = .ok (.invokevirtual 207, 3) := by decide +kernel
theorem dX4_requireVersion_8 : decode cX4_requireVersion 8 = .ok (.ifCond .ne 13, 3) := by decide +kernel
theorem dX4_requireVersion_11 : decode cX4_requireVersion 11 = .ok (.new 166, 3) := by decide +kernel
theorem dX4_requireVersion_14 : decode cX4_requireVersion 14 = .ok (.dup, 1) := by decide +kernel
theorem dX4_requireVersion_15 : decode cX4_requireVersion 15 = .ok (.ldc 232, 2) := by decide +kernel
theorem dX4_requireVersion_17 : decode cX4_requireVersion 17 = .ok (.invokespecial 170, 3) := by decide +kernel
theorem dX4_requireVersion_20 : decode cX4_requireVersion 20 = .ok (.athrow, 1) := by decide +kernel
theorem dX4_requireVersion_21 : decode cX4_requireVersion 21 = .ok (.return_, 1) := by decide +kernel
theorem dX4_requireGraph_0 : decode cX4_requireGraph 0 = .ok (.iload_n 1, 1) := by decide +kernel
theorem dX4_requireGraph_1 : decode cX4_requireGraph 1 = .ok (.iconst (-1), 1) := by decide +kernel
theorem dX4_requireGraph_2 : decode cX4_requireGraph 2 = .ok (.if_icmp .eq 8, 3) := by decide +kernel
theorem dX4_requireGraph_5 : decode cX4_requireGraph 5 = .ok (.aload_n 0, 1) := by decide +kernel
theorem dX4_requireGraph_6 : decode cX4_requireGraph 6 = .ok (.iload_n 1, 1) := by decide +kernel
theorem dX4_requireGraph_7 : decode cX4_requireGraph 7 = .ok (.invokevirtual 100, 3) := by decide +kernel
theorem dX4_requireGraph_10 : decode cX4_requireGraph 10 = .ok (.return_, 1) := by decide +kernel
theorem dX4_requireAnswer_0 : decode cX4_requireAnswer 0 = .ok (.iload_n 1, 1) := by decide +kernel
theorem dX4_requireAnswer_1 : decode cX4_requireAnswer 1 = .ok (.ifCond .lt 14, 3) := by decide +kernel
theorem dX4_requireAnswer_4 : decode cX4_requireAnswer 4 = .ok (.iload_n 1, 1) := by decide +kernel
theorem dX4_requireAnswer_5 : decode cX4_requireAnswer 5 = .ok (.aload_n 0, 1) := by decide +kernel
theorem dX4_requireAnswer_6 : decode cX4_requireAnswer 6 = .ok (.getfield 19, 3) := by decide +kernel
theorem dX4_requireAnswer_9 : decode cX4_requireAnswer 9 = .ok (.getfield 103, 3) := by decide +kernel
theorem dX4_requireAnswer_12 : decode cX4_requireAnswer 12 = .ok (.if_icmp .lt 13, 3) := by decide +kernel
theorem dX4_requireAnswer_15 : decode cX4_requireAnswer 15 = .ok (.new 166, 3) := by decide +kernel
theorem dX4_requireAnswer_18 : decode cX4_requireAnswer 18 = .ok (.dup, 1) := by decide +kernel
theorem dX4_requireAnswer_19 : decode cX4_requireAnswer 19 = .ok (.ldc 234, 2) := by decide +kernel
theorem dX4_requireAnswer_21 : decode cX4_requireAnswer 21 = .ok (.invokespecial 170, 3) := by decide +kernel
theorem dX4_requireAnswer_24 : decode cX4_requireAnswer 24 = .ok (.athrow, 1) := by decide +kernel
theorem dX4_requireAnswer_25 : decode cX4_requireAnswer 25 = .ok (.return_, 1) := by decide +kernel
theorem dX4_requirePlace_0 : decode cX4_requirePlace 0 = .ok (.iload_n 1, 1) := by decide +kernel
theorem dX4_requirePlace_1 : decode cX4_requirePlace 1 = .ok (.ifCond .lt 10, 3) := by decide +kernel
theorem dX4_requirePlace_4 : decode cX4_requirePlace 4 = .ok (.iload_n 1, 1) := by decide +kernel
theorem dX4_requirePlace_5 : decode cX4_requirePlace 5 = .ok (.sipush 24032, 3) := by decide +kernel
theorem dX4_requirePlace_8 : decode cX4_requirePlace 8 = .ok (.if_icmp .lt 13, 3) := by decide +kernel
theorem dX4_requirePlace_11 : decode cX4_requirePlace 11 = .ok (.new 166, 3) := by decide +kernel
theorem dX4_requirePlace_14 : decode cX4_requirePlace 14 = .ok (.dup, 1) := by decide +kernel
theorem dX4_requirePlace_15 : decode cX4_requirePlace 15 = .ok (.ldc 236, 2) := by decide +kernel
theorem dX4_requirePlace_17 : decode cX4_requirePlace 17 = .ok (.invokespecial 170, 3) := by decide +kernel
theorem dX4_requirePlace_20 : decode cX4_requirePlace 20 = .ok (.athrow, 1) := by decide +kernel
theorem dX4_requirePlace_21 : decode cX4_requirePlace 21 = .ok (.return_, 1) := by decide +kernel
theorem dX4_startAnew_0 : decode cX4_startAnew 0 = .ok (.aload_n 0, 1) := by decide +kernel
theorem dX4_startAnew_1 : decode cX4_startAnew 1 = .ok (.getfield 12, 3) := by decide +kernel
theorem dX4_startAnew_4 : decode cX4_startAnew 4 = .ok (.invokevirtual 238, 3) := by decide +kernel
theorem dX4_startAnew_7 : decode cX4_startAnew 7 = .ok (.aload_n 0, 1) := by decide +kernel
theorem dX4_startAnew_8 : decode cX4_startAnew 8 = .ok (.getfield 19, 3) := by decide +kernel
theorem dX4_startAnew_11 : decode cX4_startAnew 11 = .ok (.iload_n 1, 1) := by decide +kernel
theorem dX4_startAnew_12 : decode cX4_startAnew 12 = .ok (.invokevirtual 241, 3) := by decide +kernel
theorem dX4_startAnew_15 : decode cX4_startAnew 15 = .ok (.aload_n 0, 1) := by decide +kernel
theorem dX4_startAnew_16 : decode cX4_startAnew 16 = .ok (.iconst 0, 1) := by decide +kernel
theorem dX4_startAnew_17 : decode cX4_startAnew 17 = .ok (.putfield 119, 3) := by decide +kernel
theorem dX4_startAnew_20 : decode cX4_startAnew 20 = .ok (.aload_n 0, 1) := by decide +kernel
theorem dX4_startAnew_21 : decode cX4_startAnew 21 = .ok (.invokevirtual 122, 3) := by decide +kernel
theorem dX4_startAnew_24 : decode cX4_startAnew 24 = .ok (.aload_n 0, 1) := by decide +kernel
theorem dX4_startAnew_25 : decode cX4_startAnew 25 = .ok (.getfield 12, 3) := by decide +kernel
theorem dX4_startAnew_28 : decode cX4_startAnew 28 = .ok (.invokevirtual 145, 3) := by decide +kernel
theorem dX4_startAnew_31 : decode cX4_startAnew 31 = .ok (.aload_n 0, 1) := by decide +kernel
theorem dX4_startAnew_32 : decode cX4_startAnew 32 = .ok (.iconst 1, 1) := by decide +kernel
theorem dX4_startAnew_33 : decode cX4_startAnew 33 = .ok (.putfield 125, 3) := by decide +kernel
theorem dX4_startAnew_36 : decode cX4_startAnew 36 = .ok (.return_, 1) := by decide +kernel
theorem dX4_logHasRoom_0 : decode cX4_logHasRoom 0 = .ok (.aload_n 0, 1) := by decide +kernel
theorem dX4_logHasRoom_1 : decode cX4_logHasRoom 1 = .ok (.getfield 19, 3) := by decide +kernel
theorem dX4_logHasRoom_4 : decode cX4_logHasRoom 4 = .ok (.getfield 160, 3) := by decide +kernel
theorem dX4_logHasRoom_7 : decode cX4_logHasRoom 7 = .ok (.iload_n 1, 1) := by decide +kernel
theorem dX4_logHasRoom_8 : decode cX4_logHasRoom 8 = .ok (.iadd, 1) := by decide +kernel
theorem dX4_logHasRoom_9 : decode cX4_logHasRoom 9 = .ok (.sipush 24000, 3) := by decide +kernel
theorem dX4_logHasRoom_12 : decode cX4_logHasRoom 12 = .ok (.if_icmp .gt 7, 3) := by decide +kernel
theorem dX4_logHasRoom_15 : decode cX4_logHasRoom 15 = .ok (.iconst 1, 1) := by decide +kernel
theorem dX4_logHasRoom_16 : decode cX4_logHasRoom 16 = .ok (.goto 4, 3) := by decide +kernel
theorem dX4_logHasRoom_19 : decode cX4_logHasRoom 19 = .ok (.iconst 0, 1) := by decide +kernel
theorem dX4_logHasRoom_20 : decode cX4_logHasRoom 20 = .ok (.ireturn, 1) := by decide +kernel
theorem dX4_startRow_0 : decode cX4_startRow 0 = .ok (.aload_n 0, 1) := by decide +kernel
theorem dX4_startRow_1 : decode cX4_startRow 1 = .ok (.getfield 12, 3) := by decide +kernel
theorem dX4_startRow_4 : decode cX4_startRow 4 = .ok (.bipush 32, 2) := by decide +kernel
theorem dX4_startRow_6 : decode cX4_startRow 6 = .ok (.aload_n 0, 1) := by decide +kernel
theorem dX4_startRow_7 : decode cX4_startRow 7 = .ok (.getfield 19, 3) := by decide +kernel
theorem dX4_startRow_10 : decode cX4_startRow 10 = .ok (.getfield 160, 3) := by decide +kernel
theorem dX4_startRow_13 : decode cX4_startRow 13 = .ok (.iadd, 1) := by decide +kernel
theorem dX4_startRow_14 : decode cX4_startRow 14 = .ok (.invokevirtual 244, 3) := by decide +kernel
theorem dX4_startRow_17 : decode cX4_startRow 17 = .ok (.aload_n 0, 1) := by decide +kernel
theorem dX4_startRow_18 : decode cX4_startRow 18 = .ok (.getfield 12, 3) := by decide +kernel
theorem dX4_startRow_21 : decode cX4_startRow 21 = .ok (.iload_n 1, 1) := by decide +kernel
theorem dX4_startRow_22 : decode cX4_startRow 22 = .ok (.i2l, 1) := by decide +kernel
theorem dX4_startRow_23 : decode cX4_startRow 23 = .ok (.iconst 1, 1) := by decide +kernel
theorem dX4_startRow_24 : decode cX4_startRow 24 = .ok (.invokevirtual 72, 3) := by decide +kernel
theorem dX4_startRow_27 : decode cX4_startRow 27 = .ok (.aload_n 0, 1) := by decide +kernel
theorem dX4_startRow_28 : decode cX4_startRow 28 = .ok (.getfield 12, 3) := by decide +kernel
theorem dX4_startRow_31 : decode cX4_startRow 31 = .ok (.iload_n 2, 1) := by decide +kernel
theorem dX4_startRow_32 : decode cX4_startRow 32 = .ok (.i2l, 1) := by decide +kernel
theorem dX4_startRow_33 : decode cX4_startRow 33 = .ok (.iconst 2, 1) := by decide +kernel
theorem dX4_startRow_34 : decode cX4_startRow 34 = .ok (.invokevirtual 72, 3) := by decide +kernel
theorem dX4_startRow_37 : decode cX4_startRow 37 = .ok (.aload_n 0, 1) := by decide +kernel
theorem dX4_startRow_38 : decode cX4_startRow 38 = .ok (.getfield 12, 3) := by decide +kernel
theorem dX4_startRow_41 : decode cX4_startRow 41 = .ok (.iload_n 1, 1) := by decide +kernel
theorem dX4_startRow_42 : decode cX4_startRow 42 = .ok (.invokestatic 247, 3) := by decide +kernel
theorem dX4_startRow_45 : decode cX4_startRow 45 = .ok (.i2l, 1) := by decide +kernel
theorem dX4_startRow_46 : decode cX4_startRow 46 = .ok (.iconst 1, 1) := by decide +kernel
theorem dX4_startRow_47 : decode cX4_startRow 47 = .ok (.invokevirtual 72, 3) := by decide +kernel
theorem dX4_startRow_50 : decode cX4_startRow 50 = .ok (.return_, 1) := by decide +kernel
theorem dX4_endRow_0 : decode cX4_endRow 0 = .ok (.bipush 32, 2) := by decide +kernel
theorem dX4_endRow_2 : decode cX4_endRow 2 = .ok (.aload_n 0, 1) := by decide +kernel
theorem dX4_endRow_3 : decode cX4_endRow 3 = .ok (.getfield 19, 3) := by decide +kernel
theorem dX4_endRow_6 : decode cX4_endRow 6 = .ok (.getfield 160, 3) := by decide +kernel
theorem dX4_endRow_9 : decode cX4_endRow 9 = .ok (.iadd, 1) := by decide +kernel
theorem dX4_endRow_10 : decode cX4_endRow 10 = .ok (.istore_n 1, 1) := by decide +kernel
theorem dX4_endRow_11 : decode cX4_endRow 11 = .ok (.aload_n 0, 1) := by decide +kernel
theorem dX4_endRow_12 : decode cX4_endRow 12 = .ok (.getfield 12, 3) := by decide +kernel
theorem dX4_endRow_15 : decode cX4_endRow 15 = .ok (.aload_n 0, 1) := by decide +kernel
theorem dX4_endRow_16 : decode cX4_endRow 16 = .ok (.getfield 12, 3) := by decide +kernel
theorem dX4_endRow_19 : decode cX4_endRow 19 = .ok (.iload_n 1, 1) := by decide +kernel
theorem dX4_endRow_20 : decode cX4_endRow 20 = .ok (.aload_n 0, 1) := by decide +kernel
theorem dX4_endRow_21 : decode cX4_endRow 21 = .ok (.getfield 12, 3) := by decide +kernel
theorem dX4_endRow_24 : decode cX4_endRow 24 = .ok (.getfield 250, 3) := by decide +kernel
theorem dX4_endRow_27 : decode cX4_endRow 27 = .ok (.iload_n 1, 1) := by decide +kernel
theorem dX4_endRow_28 : decode cX4_endRow 28 = .ok (.i2l, 1) := by decide +kernel
theorem dX4_endRow_29 : decode cX4_endRow 29 = .ok (.invokevirtual 253, 3) := by decide +kernel
theorem dX4_endRow_32 : decode cX4_endRow 32 = .ok (.bipush 8, 2) := by decide +kernel
theorem dX4_endRow_34 : decode cX4_endRow 34 = .ok (.invokevirtual 72, 3) := by decide +kernel
theorem dX4_endRow_37 : decode cX4_endRow 37 = .ok (.aload_n 0, 1) := by decide +kernel
theorem dX4_endRow_38 : decode cX4_endRow 38 = .ok (.getfield 19, 3) := by decide +kernel
theorem dX4_endRow_41 : decode cX4_endRow 41 = .ok (.aload_n 0, 1) := by decide +kernel
theorem dX4_endRow_42 : decode cX4_endRow 42 = .ok (.getfield 12, 3) := by decide +kernel
theorem dX4_endRow_45 : decode cX4_endRow 45 = .ok (.iload_n 1, 1) := by decide +kernel
theorem dX4_endRow_46 : decode cX4_endRow 46 = .ok (.invokevirtual 257, 3) := by decide +kernel
theorem dX4_endRow_49 : decode cX4_endRow 49 = .ok (.return_, 1) := by decide +kernel
theorem dX4_writeChunk_0 : decode cX4_writeChunk 0 = .ok (.aload_n 0, 1) := by decide +kernel
theorem dX4_writeChunk_1 : decode cX4_writeChunk 1 = .ok (.iconst 1, 1) := by decide +kernel
theorem dX4_writeChunk_2 : decode cX4_writeChunk 2 = .ok (.iload_n 2, 1) := by decide +kernel
theorem dX4_writeChunk_3 : decode cX4_writeChunk 3 = .ok (.invokevirtual 68, 3) := by decide +kernel
theorem dX4_writeChunk_6 : decode cX4_writeChunk 6 = .ok (.iconst 0, 1) := by decide +kernel
theorem dX4_writeChunk_7 : decode cX4_writeChunk 7 = .ok (.istore_n 3, 1) := by decide +kernel
theorem dX4_writeChunk_8 : decode cX4_writeChunk 8 = .ok (.iload_n 3, 1) := by decide +kernel
theorem dX4_writeChunk_9 : decode cX4_writeChunk 9 = .ok (.bipush 8, 2) := by decide +kernel
theorem dX4_writeChunk_11 : decode cX4_writeChunk 11 = .ok (.if_icmp .ge 31, 3) := by decide +kernel
theorem dX4_writeChunk_14 : decode cX4_writeChunk 14 = .ok (.aload_n 0, 1) := by decide +kernel
theorem dX4_writeChunk_15 : decode cX4_writeChunk 15 = .ok (.getfield 12, 3) := by decide +kernel
theorem dX4_writeChunk_18 : decode cX4_writeChunk 18 = .ok (.aload_n 0, 1) := by decide +kernel
theorem dX4_writeChunk_19 : decode cX4_writeChunk 19 = .ok (.getfield 19, 3) := by decide +kernel
theorem dX4_writeChunk_22 : decode cX4_writeChunk 22 = .ok (.iload_n 1, 1) := by decide +kernel
theorem dX4_writeChunk_23 : decode cX4_writeChunk 23 = .ok (.bipush 8, 2) := by decide +kernel
theorem dX4_writeChunk_25 : decode cX4_writeChunk 25 = .ok (.imul, 1) := by decide +kernel
theorem dX4_writeChunk_26 : decode cX4_writeChunk 26 = .ok (.iload_n 3, 1) := by decide +kernel
theorem dX4_writeChunk_27 : decode cX4_writeChunk 27 = .ok (.iadd, 1) := by decide +kernel
theorem dX4_writeChunk_28 : decode cX4_writeChunk 28 = .ok (.invokevirtual 261, 3) := by decide +kernel
theorem dX4_writeChunk_31 : decode cX4_writeChunk 31 = .ok (.bipush 8, 2) := by decide +kernel
theorem dX4_writeChunk_33 : decode cX4_writeChunk 33 = .ok (.invokevirtual 72, 3) := by decide +kernel
theorem dX4_writeChunk_36 : decode cX4_writeChunk 36 = .ok (.iinc 3 1, 3) := by decide +kernel
theorem dX4_writeChunk_39 : decode cX4_writeChunk 39 = .ok (.goto (-31), 3) := by decide +kernel
theorem dX4_writeChunk_42 : decode cX4_writeChunk 42 = .ok (.aload_n 0, 1) := by decide +kernel
theorem dX4_writeChunk_43 : decode cX4_writeChunk 43 = .ok (.invokevirtual 76, 3) := by decide +kernel
theorem dX4_writeChunk_46 : decode cX4_writeChunk 46 = .ok (.return_, 1) := by decide +kernel
theorem dX4_writeHead_0 : decode cX4_writeHead 0 = .ok (.aload_n 0, 1) := by decide +kernel
theorem dX4_writeHead_1 : decode cX4_writeHead 1 = .ok (.getfield 119, 3) := by decide +kernel
theorem dX4_writeHead_4 : decode cX4_writeHead 4 = .ok (.iconst 1, 1) := by decide +kernel
theorem dX4_writeHead_5 : decode cX4_writeHead 5 = .ok (.iand, 1) := by decide +kernel
theorem dX4_writeHead_6 : decode cX4_writeHead 6 = .ok (.iconst 1, 1) := by decide +kernel
theorem dX4_writeHead_7 : decode cX4_writeHead 7 = .ok (.if_icmp .ne 8, 3) := by decide +kernel
theorem dX4_writeHead_10 : decode cX4_writeHead 10 = .ok (.bipush 16, 2) := by decide +kernel
theorem dX4_writeHead_12 : decode cX4_writeHead 12 = .ok (.goto 4, 3) := by decide +kernel
theorem dX4_writeHead_15 : decode cX4_writeHead 15 = .ok (.iconst 0, 1) := by decide +kernel
theorem dX4_writeHead_16 : decode cX4_writeHead 16 = .ok (.istore_n 1, 1) := by decide +kernel
theorem dX4_writeHead_17 : decode cX4_writeHead 17 = .ok (.aload_n 0, 1) := by decide +kernel
theorem dX4_writeHead_18 : decode cX4_writeHead 18 = .ok (.getfield 12, 3) := by decide +kernel
theorem dX4_writeHead_21 : decode cX4_writeHead 21 = .ok (.iload_n 1, 1) := by decide +kernel
theorem dX4_writeHead_22 : decode cX4_writeHead 22 = .ok (.invokevirtual 244, 3) := by decide +kernel
theorem dX4_writeHead_25 : decode cX4_writeHead 25 = .ok (.aload_n 0, 1) := by decide +kernel
theorem dX4_writeHead_26 : decode cX4_writeHead 26 = .ok (.getfield 12, 3) := by decide +kernel
theorem dX4_writeHead_29 : decode cX4_writeHead 29 = .ok (.aload_n 0, 1) := by decide +kernel
theorem dX4_writeHead_30 : decode cX4_writeHead 30 = .ok (.getfield 119, 3) := by decide +kernel
theorem dX4_writeHead_33 : decode cX4_writeHead 33 = .ok (.i2l, 1) := by decide +kernel
theorem dX4_writeHead_34 : decode cX4_writeHead 34 = .ok (.iconst 4, 1) := by decide +kernel
theorem dX4_writeHead_35 : decode cX4_writeHead 35 = .ok (.invokevirtual 72, 3) := by decide +kernel
theorem dX4_writeHead_38 : decode cX4_writeHead 38 = .ok (.aload_n 0, 1) := by decide +kernel
theorem dX4_writeHead_39 : decode cX4_writeHead 39 = .ok (.getfield 12, 3) := by decide +kernel
theorem dX4_writeHead_42 : decode cX4_writeHead 42 = .ok (.aload_n 0, 1) := by decide +kernel
theorem dX4_writeHead_43 : decode cX4_writeHead 43 = .ok (.getfield 19, 3) := by decide +kernel
theorem dX4_writeHead_46 : decode cX4_writeHead 46 = .ok (.getfield 160, 3) := by decide +kernel
theorem dX4_writeHead_49 : decode cX4_writeHead 49 = .ok (.i2l, 1) := by decide +kernel
theorem dX4_writeHead_50 : decode cX4_writeHead 50 = .ok (.iconst 4, 1) := by decide +kernel
theorem dX4_writeHead_51 : decode cX4_writeHead 51 = .ok (.invokevirtual 72, 3) := by decide +kernel
theorem dX4_writeHead_54 : decode cX4_writeHead 54 = .ok (.aload_n 0, 1) := by decide +kernel
theorem dX4_writeHead_55 : decode cX4_writeHead 55 = .ok (.getfield 12, 3) := by decide +kernel
theorem dX4_writeHead_58 : decode cX4_writeHead 58 = .ok (.aload_n 0, 1) := by decide +kernel
theorem dX4_writeHead_59 : decode cX4_writeHead 59 = .ok (.getfield 12, 3) := by decide +kernel
theorem dX4_writeHead_62 : decode cX4_writeHead 62 = .ok (.iload_n 1, 1) := by decide +kernel
theorem dX4_writeHead_63 : decode cX4_writeHead 63 = .ok (.aload_n 0, 1) := by decide +kernel
theorem dX4_writeHead_64 : decode cX4_writeHead 64 = .ok (.getfield 12, 3) := by decide +kernel
theorem dX4_writeHead_67 : decode cX4_writeHead 67 = .ok (.getfield 250, 3) := by decide +kernel
theorem dX4_writeHead_70 : decode cX4_writeHead 70 = .ok (.lconst 1, 1) := by decide +kernel
theorem dX4_writeHead_71 : decode cX4_writeHead 71 = .ok (.invokevirtual 253, 3) := by decide +kernel
theorem dX4_writeHead_74 : decode cX4_writeHead 74 = .ok (.bipush 8, 2) := by decide +kernel
theorem dX4_writeHead_76 : decode cX4_writeHead 76 = .ok (.invokevirtual 72, 3) := by decide +kernel
theorem dX4_writeHead_79 : decode cX4_writeHead 79 = .ok (.return_, 1) := by decide +kernel
theorem dX4_headToTake_0 : decode cX4_headToTake 0 = .ok (.aload_n 0, 1) := by decide +kernel
theorem dX4_headToTake_1 : decode cX4_headToTake 1 = .ok (.iconst 0, 1) := by decide +kernel
theorem dX4_headToTake_2 : decode cX4_headToTake 2 = .ok (.invokevirtual 264, 3) := by decide +kernel
theorem dX4_headToTake_5 : decode cX4_headToTake 5 = .ok (.istore_n 1, 1) := by decide +kernel
theorem dX4_headToTake_6 : decode cX4_headToTake 6 = .ok (.aload_n 0, 1) := by decide +kernel
theorem dX4_headToTake_7 : decode cX4_headToTake 7 = .ok (.bipush 16, 2) := by decide +kernel
theorem dX4_headToTake_9 : decode cX4_headToTake 9 = .ok (.invokevirtual 264, 3) := by decide +kernel
theorem dX4_headToTake_12 : decode cX4_headToTake 12 = .ok (.istore_n 2, 1) := by decide +kernel
theorem dX4_headToTake_13 : decode cX4_headToTake 13 = .ok (.iload_n 1, 1) := by decide +kernel
theorem dX4_headToTake_14 : decode cX4_headToTake 14 = .ok (.ifCond .eq 37, 3) := by decide +kernel
theorem dX4_headToTake_17 : decode cX4_headToTake 17 = .ok (.iload_n 2, 1) := by decide +kernel
theorem dX4_headToTake_18 : decode cX4_headToTake 18 = .ok (.ifCond .eq 33, 3) := by decide +kernel
theorem dX4_headToTake_21 : decode cX4_headToTake 21 = .ok (.aload_n 0, 1) := by decide +kernel
theorem dX4_headToTake_22 : decode cX4_headToTake 22 = .ok (.getfield 12, 3) := by decide +kernel
theorem dX4_headToTake_25 : decode cX4_headToTake 25 = .ok (.bipush 16, 2) := by decide +kernel
theorem dX4_headToTake_27 : decode cX4_headToTake 27 = .ok (.iconst 4, 1) := by decide +kernel
theorem dX4_headToTake_28 : decode cX4_headToTake 28 = .ok (.invokevirtual 135, 3) := by decide +kernel
theorem dX4_headToTake_31 : decode cX4_headToTake 31 = .ok (.aload_n 0, 1) := by decide +kernel
theorem dX4_headToTake_32 : decode cX4_headToTake 32 = .ok (.getfield 12, 3) := by decide +kernel
theorem dX4_headToTake_35 : decode cX4_headToTake 35 = .ok (.iconst 0, 1) := by decide +kernel
theorem dX4_headToTake_36 : decode cX4_headToTake 36 = .ok (.iconst 4, 1) := by decide +kernel
theorem dX4_headToTake_37 : decode cX4_headToTake 37 = .ok (.invokevirtual 135, 3) := by decide +kernel
theorem dX4_headToTake_40 : decode cX4_headToTake 40 = .ok (.lcmp, 1) := by decide +kernel
theorem dX4_headToTake_41 : decode cX4_headToTake 41 = .ok (.ifCond .le 8, 3) := by decide +kernel
theorem dX4_headToTake_44 : decode cX4_headToTake 44 = .ok (.bipush 16, 2) := by decide +kernel
theorem dX4_headToTake_46 : decode cX4_headToTake 46 = .ok (.goto 4, 3) := by decide +kernel
theorem dX4_headToTake_49 : decode cX4_headToTake 49 = .ok (.iconst 0, 1) := by decide +kernel
theorem dX4_headToTake_50 : decode cX4_headToTake 50 = .ok (.ireturn, 1) := by decide +kernel
theorem dX4_headToTake_51 : decode cX4_headToTake 51 = .ok (.iload_n 1, 1) := by decide +kernel
theorem dX4_headToTake_52 : decode cX4_headToTake 52 = .ok (.ifCond .eq 5, 3) := by decide +kernel
theorem dX4_headToTake_55 : decode cX4_headToTake 55 = .ok (.iconst 0, 1) := by decide +kernel
theorem dX4_headToTake_56 : decode cX4_headToTake 56 = .ok (.ireturn, 1) := by decide +kernel
theorem dX4_headToTake_57 : decode cX4_headToTake 57 = .ok (.iload_n 2, 1) := by decide +kernel
theorem dX4_headToTake_58 : decode cX4_headToTake 58 = .ok (.ifCond .eq 8, 3) := by decide +kernel
theorem dX4_headToTake_61 : decode cX4_headToTake 61 = .ok (.bipush 16, 2) := by decide +kernel
theorem dX4_headToTake_63 : decode cX4_headToTake 63 = .ok (.goto 4, 3) := by decide +kernel
theorem dX4_headToTake_66 : decode cX4_headToTake 66 = .ok (.iconst (-1), 1) := by decide +kernel
theorem dX4_headToTake_67 : decode cX4_headToTake 67 = .ok (.ireturn, 1) := by decide +kernel
theorem dX4_isHeadRight_0 : decode cX4_isHeadRight 0 = .ok (.iload_n 1, 1) := by decide +kernel
theorem dX4_isHeadRight_1 : decode cX4_isHeadRight 1 = .ok (.bipush 16, 2) := by decide +kernel
theorem dX4_isHeadRight_3 : decode cX4_isHeadRight 3 = .ok (.iadd, 1) := by decide +kernel
theorem dX4_isHeadRight_4 : decode cX4_isHeadRight 4 = .ok (.bipush 8, 2) := by decide +kernel
theorem dX4_isHeadRight_6 : decode cX4_isHeadRight 6 = .ok (.isub, 1) := by decide +kernel
theorem dX4_isHeadRight_7 : decode cX4_isHeadRight 7 = .ok (.istore_n 2, 1) := by decide +kernel
theorem dX4_isHeadRight_8 : decode cX4_isHeadRight 8 = .ok (.aload_n 0, 1) := by decide +kernel
theorem dX4_isHeadRight_9 : decode cX4_isHeadRight 9 = .ok (.getfield 12, 3) := by decide +kernel
theorem dX4_isHeadRight_12 : decode cX4_isHeadRight 12 = .ok (.iload_n 1, 1) := by decide +kernel
theorem dX4_isHeadRight_13 : decode cX4_isHeadRight 13 = .ok (.iload_n 2, 1) := by decide +kernel
theorem dX4_isHeadRight_14 : decode cX4_isHeadRight 14 = .ok (.lconst 1, 1) := by decide +kernel
theorem dX4_isHeadRight_15 : decode cX4_isHeadRight 15 = .ok (.invokevirtual 253, 3) := by decide +kernel
theorem dX4_isHeadRight_18 : decode cX4_isHeadRight 18 = .ok (.aload_n 0, 1) := by decide +kernel
theorem dX4_isHeadRight_19 : decode cX4_isHeadRight 19 = .ok (.getfield 12, 3) := by decide +kernel
theorem dX4_isHeadRight_22 : decode cX4_isHeadRight 22 = .ok (.iload_n 2, 1) := by decide +kernel
theorem dX4_isHeadRight_23 : decode cX4_isHeadRight 23 = .ok (.bipush 8, 2) := by decide +kernel
theorem dX4_isHeadRight_25 : decode cX4_isHeadRight 25 = .ok (.invokevirtual 135, 3) := by decide +kernel
theorem dX4_isHeadRight_28 : decode cX4_isHeadRight 28 = .ok (.lcmp, 1) := by decide +kernel
theorem dX4_isHeadRight_29 : decode cX4_isHeadRight 29 = .ok (.ifCond .ne 25, 3) := by decide +kernel
theorem dX4_isHeadRight_32 : decode cX4_isHeadRight 32 = .ok (.aload_n 0, 1) := by decide +kernel
theorem dX4_isHeadRight_33 : decode cX4_isHeadRight 33 = .ok (.getfield 12, 3) := by decide +kernel
theorem dX4_isHeadRight_36 : decode cX4_isHeadRight 36 = .ok (.iload_n 1, 1) := by decide +kernel
theorem dX4_isHeadRight_37 : decode cX4_isHeadRight 37 = .ok (.iconst 4, 1) := by decide +kernel
theorem dX4_isHeadRight_38 : decode cX4_isHeadRight 38 = .ok (.iadd, 1) := by decide +kernel
theorem dX4_isHeadRight_39 : decode cX4_isHeadRight 39 = .ok (.iconst 4, 1) := by decide +kernel
theorem dX4_isHeadRight_40 : decode cX4_isHeadRight 40 = .ok (.invokevirtual 135, 3) := by decide +kernel
theorem dX4_isHeadRight_43 : decode cX4_isHeadRight 43 = .ok (.ldc2_w 267, 3) := by decide +kernel
theorem dX4_isHeadRight_46 : decode cX4_isHeadRight 46 = .ok (.lcmp, 1) := by decide +kernel
theorem dX4_isHeadRight_47 : decode cX4_isHeadRight 47 = .ok (.ifCond .gt 7, 3) := by decide +kernel
theorem dX4_isHeadRight_50 : decode cX4_isHeadRight 50 = .ok (.iconst 1, 1) := by decide +kernel
theorem dX4_isHeadRight_51 : decode cX4_isHeadRight 51 = .ok (.goto 4, 3) := by decide +kernel
theorem dX4_isHeadRight_54 : decode cX4_isHeadRight 54 = .ok (.iconst 0, 1) := by decide +kernel
theorem dX4_isHeadRight_55 : decode cX4_isHeadRight 55 = .ok (.ireturn, 1) := by decide +kernel
theorem dX4_reachedFrom_0 : decode cX4_reachedFrom 0 = .ok (.lconst 1, 1) := by decide +kernel
theorem dX4_reachedFrom_1 : decode cX4_reachedFrom 1 = .ok (.iload_n 2, 1) := by decide +kernel
theorem dX4_reachedFrom_2 : decode cX4_reachedFrom 2 = .ok (.lshl, 1) := by decide +kernel
theorem dX4_reachedFrom_3 : decode cX4_reachedFrom 3 = .ok (.lstore_n 3, 1) := by decide +kernel
theorem dX4_reachedFrom_4 : decode cX4_reachedFrom 4 = .ok (.lload_n 3, 1) := by decide +kernel
theorem dX4_reachedFrom_5 : decode cX4_reachedFrom 5 = .ok (.lstore 5, 2) := by decide +kernel
theorem dX4_reachedFrom_7 : decode cX4_reachedFrom 7 = .ok (.iconst 0, 1) := by decide +kernel
theorem dX4_reachedFrom_8 : decode cX4_reachedFrom 8 = .ok (.istore 7, 2) := by decide +kernel
theorem dX4_reachedFrom_10 : decode cX4_reachedFrom 10 = .ok (.iload 7, 2) := by decide +kernel
theorem dX4_reachedFrom_12 : decode cX4_reachedFrom 12 = .ok (.bipush 64, 2) := by decide +kernel
theorem dX4_reachedFrom_14 : decode cX4_reachedFrom 14 = .ok (.if_icmp .ge 36, 3) := by decide +kernel
theorem dX4_reachedFrom_17 : decode cX4_reachedFrom 17 = .ok (.lload 5, 2) := by decide +kernel
theorem dX4_reachedFrom_19 : decode cX4_reachedFrom 19 = .ok (.lconst 0, 1) := by decide +kernel
theorem dX4_reachedFrom_20 : decode cX4_reachedFrom 20 = .ok (.lcmp, 1) := by decide +kernel
theorem dX4_reachedFrom_21 : decode cX4_reachedFrom 21 = .ok (.ifCond .eq 29, 3) := by decide +kernel
theorem dX4_reachedFrom_24 : decode cX4_reachedFrom 24 = .ok (.aload_n 0, 1) := by decide +kernel
theorem dX4_reachedFrom_25 : decode cX4_reachedFrom 25 = .ok (.iload_n 1, 1) := by decide +kernel
theorem dX4_reachedFrom_26 : decode cX4_reachedFrom 26 = .ok (.lload 5, 2) := by decide +kernel
theorem dX4_reachedFrom_28 : decode cX4_reachedFrom 28 = .ok (.invokevirtual 195, 3) := by decide +kernel
theorem dX4_reachedFrom_31 : decode cX4_reachedFrom 31 = .ok (.lload_n 3, 1) := by decide +kernel
theorem dX4_reachedFrom_32 : decode cX4_reachedFrom 32 = .ok (.ldc2_w 199, 3) := by decide +kernel
theorem dX4_reachedFrom_35 : decode cX4_reachedFrom 35 = .ok (.lxor, 1) := by decide +kernel
theorem dX4_reachedFrom_36 : decode cX4_reachedFrom 36 = .ok (.land, 1) := by decide +kernel
theorem dX4_reachedFrom_37 : decode cX4_reachedFrom 37 = .ok (.lstore 5, 2) := by decide +kernel
theorem dX4_reachedFrom_39 : decode cX4_reachedFrom 39 = .ok (.lload_n 3, 1) := by decide +kernel
theorem dX4_reachedFrom_40 : decode cX4_reachedFrom 40 = .ok (.lload 5, 2) := by decide +kernel
theorem dX4_reachedFrom_42 : decode cX4_reachedFrom 42 = .ok (.lor, 1) := by decide +kernel
theorem dX4_reachedFrom_43 : decode cX4_reachedFrom 43 = .ok (.lstore_n 3, 1) := by decide +kernel
theorem dX4_reachedFrom_44 : decode cX4_reachedFrom 44 = .ok (.iinc 7 1, 3) := by decide +kernel
theorem dX4_reachedFrom_47 : decode cX4_reachedFrom 47 = .ok (.goto (-37), 3) := by decide +kernel
theorem dX4_reachedFrom_50 : decode cX4_reachedFrom 50 = .ok (.lload_n 3, 1) := by decide +kernel
theorem dX4_reachedFrom_51 : decode cX4_reachedFrom 51 = .ok (.lreturn, 1) := by decide +kernel
theorem dX4_oneEdgeOn_0 : decode cX4_oneEdgeOn 0 = .ok (.lconst 0, 1) := by decide +kernel
theorem dX4_oneEdgeOn_1 : decode cX4_oneEdgeOn 1 = .ok (.lstore 4, 2) := by decide +kernel
theorem dX4_oneEdgeOn_3 : decode cX4_oneEdgeOn 3 = .ok (.iconst 0, 1) := by decide +kernel
theorem dX4_oneEdgeOn_4 : decode cX4_oneEdgeOn 4 = .ok (.istore 6, 2) := by decide +kernel
theorem dX4_oneEdgeOn_6 : decode cX4_oneEdgeOn 6 = .ok (.iload 6, 2) := by decide +kernel
theorem dX4_oneEdgeOn_8 : decode cX4_oneEdgeOn 8 = .ok (.bipush 64, 2) := by decide +kernel
theorem dX4_oneEdgeOn_10 : decode cX4_oneEdgeOn 10 = .ok (.if_icmp .ge 35, 3) := by decide +kernel
theorem dX4_oneEdgeOn_13 : decode cX4_oneEdgeOn 13 = .ok (.lload_n 2, 1) := by decide +kernel
theorem dX4_oneEdgeOn_14 : decode cX4_oneEdgeOn 14 = .ok (.iload 6, 2) := by decide +kernel
theorem dX4_oneEdgeOn_16 : decode cX4_oneEdgeOn 16 = .ok (.lushr, 1) := by decide +kernel
theorem dX4_oneEdgeOn_17 : decode cX4_oneEdgeOn 17 = .ok (.lconst 1, 1) := by decide +kernel
theorem dX4_oneEdgeOn_18 : decode cX4_oneEdgeOn 18 = .ok (.land, 1) := by decide +kernel
theorem dX4_oneEdgeOn_19 : decode cX4_oneEdgeOn 19 = .ok (.lconst 0, 1) := by decide +kernel
theorem dX4_oneEdgeOn_20 : decode cX4_oneEdgeOn 20 = .ok (.lcmp, 1) := by decide +kernel
theorem dX4_oneEdgeOn_21 : decode cX4_oneEdgeOn 21 = .ok (.ifCond .eq 18, 3) := by decide +kernel
theorem dX4_oneEdgeOn_24 : decode cX4_oneEdgeOn 24 = .ok (.lload 4, 2) := by decide +kernel
theorem dX4_oneEdgeOn_26 : decode cX4_oneEdgeOn 26 = .ok (.aload_n 0, 1) := by decide +kernel
theorem dX4_oneEdgeOn_27 : decode cX4_oneEdgeOn 27 = .ok (.getfield 19, 3) := by decide +kernel
theorem dX4_oneEdgeOn_30 : decode cX4_oneEdgeOn 30 = .ok (.iload_n 1, 1) := by decide +kernel
theorem dX4_oneEdgeOn_31 : decode cX4_oneEdgeOn 31 = .ok (.iload 6, 2) := by decide +kernel
theorem dX4_oneEdgeOn_33 : decode cX4_oneEdgeOn 33 = .ok (.invokevirtual 186, 3) := by decide +kernel
theorem dX4_oneEdgeOn_36 : decode cX4_oneEdgeOn 36 = .ok (.lor, 1) := by decide +kernel
theorem dX4_oneEdgeOn_37 : decode cX4_oneEdgeOn 37 = .ok (.lstore 4, 2) := by decide +kernel
theorem dX4_oneEdgeOn_39 : decode cX4_oneEdgeOn 39 = .ok (.iinc 6 1, 3) := by decide +kernel
theorem dX4_oneEdgeOn_42 : decode cX4_oneEdgeOn 42 = .ok (.goto (-36), 3) := by decide +kernel
theorem dX4_oneEdgeOn_45 : decode cX4_oneEdgeOn 45 = .ok (.lload 4, 2) := by decide +kernel
theorem dX4_oneEdgeOn_47 : decode cX4_oneEdgeOn 47 = .ok (.lreturn, 1) := by decide +kernel
theorem dX4_sizeOf_0 : decode cX4_sizeOf 0 = .ok (.iload_n 0, 1) := by decide +kernel
theorem dX4_sizeOf_1 : decode cX4_sizeOf 1 = .ok (.tableswitch 48 1 5 #[35, 38, 40, 43, 46], 35) := by decide +kernel
theorem dX4_sizeOf_36 : decode cX4_sizeOf 36 = .ok (.bipush 64, 2) := by decide +kernel
theorem dX4_sizeOf_38 : decode cX4_sizeOf 38 = .ok (.ireturn, 1) := by decide +kernel
theorem dX4_sizeOf_39 : decode cX4_sizeOf 39 = .ok (.iconst 3, 1) := by decide +kernel
theorem dX4_sizeOf_40 : decode cX4_sizeOf 40 = .ok (.ireturn, 1) := by decide +kernel
theorem dX4_sizeOf_41 : decode cX4_sizeOf 41 = .ok (.bipush 16, 2) := by decide +kernel
theorem dX4_sizeOf_43 : decode cX4_sizeOf 43 = .ok (.ireturn, 1) := by decide +kernel
theorem dX4_sizeOf_44 : decode cX4_sizeOf 44 = .ok (.bipush 10, 2) := by decide +kernel
theorem dX4_sizeOf_46 : decode cX4_sizeOf 46 = .ok (.ireturn, 1) := by decide +kernel
theorem dX4_sizeOf_47 : decode cX4_sizeOf 47 = .ok (.iconst 0, 1) := by decide +kernel
theorem dX4_sizeOf_48 : decode cX4_sizeOf 48 = .ok (.ireturn, 1) := by decide +kernel
theorem dX4_sizeOf_49 : decode cX4_sizeOf 49 = .ok (.iconst (-1), 1) := by decide +kernel
theorem dX4_sizeOf_50 : decode cX4_sizeOf 50 = .ok (.ireturn, 1) := by decide +kernel
theorem dJ13_bitCount_95d88_0 : decode cJ13_bitCount_95d88 0 = .ok (.lload_n 0, 1) := by decide +kernel
theorem dJ13_bitCount_95d88_1 : decode cJ13_bitCount_95d88 1 = .ok (.lload_n 0, 1) := by decide +kernel
theorem dJ13_bitCount_95d88_2 : decode cJ13_bitCount_95d88 2 = .ok (.iconst 1, 1) := by decide +kernel
theorem dJ13_bitCount_95d88_3 : decode cJ13_bitCount_95d88 3 = .ok (.lushr, 1) := by decide +kernel
theorem dJ13_bitCount_95d88_4 : decode cJ13_bitCount_95d88 4 = .ok (.ldc2_w 314, 3) := by decide +kernel
theorem dJ13_bitCount_95d88_7 : decode cJ13_bitCount_95d88 7 = .ok (.land, 1) := by decide +kernel
theorem dJ13_bitCount_95d88_8 : decode cJ13_bitCount_95d88 8 = .ok (.lsub, 1) := by decide +kernel
theorem dJ13_bitCount_95d88_9 : decode cJ13_bitCount_95d88 9 = .ok (.lstore_n 0, 1) := by decide +kernel
theorem dJ13_bitCount_95d88_10 : decode cJ13_bitCount_95d88 10 = .ok (.lload_n 0, 1) := by decide +kernel
theorem dJ13_bitCount_95d88_11 : decode cJ13_bitCount_95d88 11 = .ok (.ldc2_w 316, 3) := by decide +kernel
theorem dJ13_bitCount_95d88_14 : decode cJ13_bitCount_95d88 14 = .ok (.land, 1) := by decide +kernel
theorem dJ13_bitCount_95d88_15 : decode cJ13_bitCount_95d88 15 = .ok (.lload_n 0, 1) := by decide +kernel
theorem dJ13_bitCount_95d88_16 : decode cJ13_bitCount_95d88 16 = .ok (.iconst 2, 1) := by decide +kernel
theorem dJ13_bitCount_95d88_17 : decode cJ13_bitCount_95d88 17 = .ok (.lushr, 1) := by decide +kernel
theorem dJ13_bitCount_95d88_18 : decode cJ13_bitCount_95d88 18 = .ok (.ldc2_w 316, 3) := by decide +kernel
theorem dJ13_bitCount_95d88_21 : decode cJ13_bitCount_95d88 21 = .ok (.land, 1) := by decide +kernel
theorem dJ13_bitCount_95d88_22 : decode cJ13_bitCount_95d88 22 = .ok (.ladd, 1) := by decide +kernel
theorem dJ13_bitCount_95d88_23 : decode cJ13_bitCount_95d88 23 = .ok (.lstore_n 0, 1) := by decide +kernel
theorem dJ13_bitCount_95d88_24 : decode cJ13_bitCount_95d88 24 = .ok (.lload_n 0, 1) := by decide +kernel
theorem dJ13_bitCount_95d88_25 : decode cJ13_bitCount_95d88 25 = .ok (.lload_n 0, 1) := by decide +kernel
theorem dJ13_bitCount_95d88_26 : decode cJ13_bitCount_95d88 26 = .ok (.iconst 4, 1) := by decide +kernel
theorem dJ13_bitCount_95d88_27 : decode cJ13_bitCount_95d88 27 = .ok (.lushr, 1) := by decide +kernel
theorem dJ13_bitCount_95d88_28 : decode cJ13_bitCount_95d88 28 = .ok (.ladd, 1) := by decide +kernel
theorem dJ13_bitCount_95d88_29 : decode cJ13_bitCount_95d88 29 = .ok (.ldc2_w 318, 3) := by decide +kernel
theorem dJ13_bitCount_95d88_32 : decode cJ13_bitCount_95d88 32 = .ok (.land, 1) := by decide +kernel
theorem dJ13_bitCount_95d88_33 : decode cJ13_bitCount_95d88 33 = .ok (.lstore_n 0, 1) := by decide +kernel
theorem dJ13_bitCount_95d88_34 : decode cJ13_bitCount_95d88 34 = .ok (.lload_n 0, 1) := by decide +kernel
theorem dJ13_bitCount_95d88_35 : decode cJ13_bitCount_95d88 35 = .ok (.lload_n 0, 1) := by decide +kernel
theorem dJ13_bitCount_95d88_36 : decode cJ13_bitCount_95d88 36 = .ok (.bipush 8, 2) := by decide +kernel
theorem dJ13_bitCount_95d88_38 : decode cJ13_bitCount_95d88 38 = .ok (.lushr, 1) := by decide +kernel
theorem dJ13_bitCount_95d88_39 : decode cJ13_bitCount_95d88 39 = .ok (.ladd, 1) := by decide +kernel
theorem dJ13_bitCount_95d88_40 : decode cJ13_bitCount_95d88 40 = .ok (.lstore_n 0, 1) := by decide +kernel
theorem dJ13_bitCount_95d88_41 : decode cJ13_bitCount_95d88 41 = .ok (.lload_n 0, 1) := by decide +kernel
theorem dJ13_bitCount_95d88_42 : decode cJ13_bitCount_95d88 42 = .ok (.lload_n 0, 1) := by decide +kernel
theorem dJ13_bitCount_95d88_43 : decode cJ13_bitCount_95d88 43 = .ok (.bipush 16, 2) := by decide +kernel
theorem dJ13_bitCount_95d88_45 : decode cJ13_bitCount_95d88 45 = .ok (.lushr, 1) := by decide +kernel
theorem dJ13_bitCount_95d88_46 : decode cJ13_bitCount_95d88 46 = .ok (.ladd, 1) := by decide +kernel
theorem dJ13_bitCount_95d88_47 : decode cJ13_bitCount_95d88 47 = .ok (.lstore_n 0, 1) := by decide +kernel
theorem dJ13_bitCount_95d88_48 : decode cJ13_bitCount_95d88 48 = .ok (.lload_n 0, 1) := by decide +kernel
theorem dJ13_bitCount_95d88_49 : decode cJ13_bitCount_95d88 49 = .ok (.lload_n 0, 1) := by decide +kernel
theorem dJ13_bitCount_95d88_50 : decode cJ13_bitCount_95d88 50 = .ok (.bipush 32, 2) := by decide +kernel
theorem dJ13_bitCount_95d88_52 : decode cJ13_bitCount_95d88 52 = .ok (.lushr, 1) := by decide +kernel
theorem dJ13_bitCount_95d88_53 : decode cJ13_bitCount_95d88 53 = .ok (.ladd, 1) := by decide +kernel
theorem dJ13_bitCount_95d88_54 : decode cJ13_bitCount_95d88 54 = .ok (.lstore_n 0, 1) := by decide +kernel
theorem dJ13_bitCount_95d88_55 : decode cJ13_bitCount_95d88 55 = .ok (.lload_n 0, 1) := by decide +kernel
theorem dJ13_bitCount_95d88_56 : decode cJ13_bitCount_95d88 56 = .ok (.l2i, 1) := by decide +kernel
theorem dJ13_bitCount_95d88_57 : decode cJ13_bitCount_95d88 57 = .ok (.bipush 127, 2) := by decide +kernel
theorem dJ13_bitCount_95d88_59 : decode cJ13_bitCount_95d88 59 = .ok (.iand, 1) := by decide +kernel
theorem dJ13_bitCount_95d88_60 : decode cJ13_bitCount_95d88 60 = .ok (.ireturn, 1) := by decide +kernel
theorem dJ9_max_7cf53_0 : decode cJ9_max_7cf53 0 = .ok (.iload_n 0, 1) := by decide +kernel
theorem dJ9_max_7cf53_1 : decode cJ9_max_7cf53 1 = .ok (.iload_n 1, 1) := by decide +kernel
theorem dJ9_max_7cf53_2 : decode cJ9_max_7cf53 2 = .ok (.if_icmp .lt 7, 3) := by decide +kernel
theorem dJ9_max_7cf53_5 : decode cJ9_max_7cf53 5 = .ok (.iload_n 0, 1) := by decide +kernel
theorem dJ9_max_7cf53_6 : decode cJ9_max_7cf53 6 = .ok (.goto 4, 3) := by decide +kernel
theorem dJ9_max_7cf53_9 : decode cJ9_max_7cf53 9 = .ok (.iload_n 1, 1) := by decide +kernel
theorem dJ9_max_7cf53_10 : decode cJ9_max_7cf53 10 = .ok (.ireturn, 1) := by decide +kernel
theorem dJ9_min_7cf53_0 : decode cJ9_min_7cf53 0 = .ok (.iload_n 0, 1) := by decide +kernel
theorem dJ9_min_7cf53_1 : decode cJ9_min_7cf53 1 = .ok (.iload_n 1, 1) := by decide +kernel
theorem dJ9_min_7cf53_2 : decode cJ9_min_7cf53 2 = .ok (.if_icmp .gt 7, 3) := by decide +kernel
theorem dJ9_min_7cf53_5 : decode cJ9_min_7cf53 5 = .ok (.iload_n 0, 1) := by decide +kernel
theorem dJ9_min_7cf53_6 : decode cJ9_min_7cf53 6 = .ok (.goto 4, 3) := by decide +kernel
theorem dJ9_min_7cf53_9 : decode cJ9_min_7cf53 9 = .ok (.iload_n 1, 1) := by decide +kernel
theorem dJ9_min_7cf53_10 : decode cJ9_min_7cf53 10 = .ok (.ireturn, 1) := by decide +kernel
theorem dJxde1cd_init_a7421_0 : decode cJxde1cd_init_a7421 0 = .ok (.aload_n 0, 1) := by decide +kernel
theorem dJxde1cd_init_a7421_1 : decode cJxde1cd_init_a7421 1 = .ok (.aload_n 1, 1) := by decide +kernel
theorem dJxde1cd_init_a7421_2 : decode cJxde1cd_init_a7421 2 = .ok (.invokespecial 7, 3) := by decide +kernel
theorem dJxde1cd_init_a7421_5 : decode cJxde1cd_init_a7421 5 = .ok (.return_, 1) := by decide +kernel
theorem dJ7_fill_d0a16_0 : decode cJ7_fill_d0a16 0 = .ok (.iconst 0, 1) := by decide +kernel
theorem dJ7_fill_d0a16_1 : decode cJ7_fill_d0a16 1 = .ok (.istore_n 3, 1) := by decide +kernel
theorem dJ7_fill_d0a16_2 : decode cJ7_fill_d0a16 2 = .ok (.aload_n 0, 1) := by decide +kernel
theorem dJ7_fill_d0a16_3 : decode cJ7_fill_d0a16 3 = .ok (.arraylength, 1) := by decide +kernel
theorem dJ7_fill_d0a16_4 : decode cJ7_fill_d0a16 4 = .ok (.istore 4, 2) := by decide +kernel
theorem dJ7_fill_d0a16_6 : decode cJ7_fill_d0a16 6 = .ok (.iload_n 3, 1) := by decide +kernel
theorem dJ7_fill_d0a16_7 : decode cJ7_fill_d0a16 7 = .ok (.iload 4, 2) := by decide +kernel
theorem dJ7_fill_d0a16_9 : decode cJ7_fill_d0a16 9 = .ok (.if_icmp .ge 13, 3) := by decide +kernel
theorem dJ7_fill_d0a16_12 : decode cJ7_fill_d0a16 12 = .ok (.aload_n 0, 1) := by decide +kernel
theorem dJ7_fill_d0a16_13 : decode cJ7_fill_d0a16 13 = .ok (.iload_n 3, 1) := by decide +kernel
theorem dJ7_fill_d0a16_14 : decode cJ7_fill_d0a16 14 = .ok (.lload_n 1, 1) := by decide +kernel
theorem dJ7_fill_d0a16_15 : decode cJ7_fill_d0a16 15 = .ok (.lastore, 1) := by decide +kernel
theorem dJ7_fill_d0a16_16 : decode cJ7_fill_d0a16 16 = .ok (.iinc 3 1, 3) := by decide +kernel
theorem dJ7_fill_d0a16_19 : decode cJ7_fill_d0a16 19 = .ok (.goto (-13), 3) := by decide +kernel
theorem dJ7_fill_d0a16_22 : decode cJ7_fill_d0a16 22 = .ok (.return_, 1) := by decide +kernel
theorem dJ7_fill_031fb_0 : decode cJ7_fill_031fb 0 = .ok (.iconst 0, 1) := by decide +kernel
theorem dJ7_fill_031fb_1 : decode cJ7_fill_031fb 1 = .ok (.istore_n 2, 1) := by decide +kernel
theorem dJ7_fill_031fb_2 : decode cJ7_fill_031fb 2 = .ok (.aload_n 0, 1) := by decide +kernel
theorem dJ7_fill_031fb_3 : decode cJ7_fill_031fb 3 = .ok (.arraylength, 1) := by decide +kernel
theorem dJ7_fill_031fb_4 : decode cJ7_fill_031fb 4 = .ok (.istore_n 3, 1) := by decide +kernel
theorem dJ7_fill_031fb_5 : decode cJ7_fill_031fb 5 = .ok (.iload_n 2, 1) := by decide +kernel
theorem dJ7_fill_031fb_6 : decode cJ7_fill_031fb 6 = .ok (.iload_n 3, 1) := by decide +kernel
theorem dJ7_fill_031fb_7 : decode cJ7_fill_031fb 7 = .ok (.if_icmp .ge 13, 3) := by decide +kernel
theorem dJ7_fill_031fb_10 : decode cJ7_fill_031fb 10 = .ok (.aload_n 0, 1) := by decide +kernel
theorem dJ7_fill_031fb_11 : decode cJ7_fill_031fb 11 = .ok (.iload_n 2, 1) := by decide +kernel
theorem dJ7_fill_031fb_12 : decode cJ7_fill_031fb 12 = .ok (.iload_n 1, 1) := by decide +kernel
theorem dJ7_fill_031fb_13 : decode cJ7_fill_031fb 13 = .ok (.bastore, 1) := by decide +kernel
theorem dJ7_fill_031fb_14 : decode cJ7_fill_031fb 14 = .ok (.iinc 2 1, 3) := by decide +kernel
theorem dJ7_fill_031fb_17 : decode cJ7_fill_031fb 17 = .ok (.goto (-12), 3) := by decide +kernel
theorem dJ7_fill_031fb_20 : decode cJ7_fill_031fb 20 = .ok (.return_, 1) := by decide +kernel
theorem dL_begin_0 : decode cL_begin 0 = .ok (.aload_n 0, 1) := by decide +kernel
theorem dL_begin_1 : decode cL_begin 1 = .ok (.iload_n 1, 1) := by decide +kernel
theorem dL_begin_2 : decode cL_begin 2 = .ok (.invokevirtual 7, 3) := by decide +kernel
theorem dL_begin_5 : decode cL_begin 5 = .ok (.goto 9, 3) := by decide +kernel
theorem dL_begin_8 : decode cL_begin 8 = .ok (.astore_n 2, 1) := by decide +kernel
theorem dL_begin_9 : decode cL_begin 9 = .ok (.iconst 1, 1) := by decide +kernel
theorem dL_begin_10 : decode cL_begin 10 = .ok (.ireturn, 1) := by decide +kernel
theorem dL_begin_11 : decode cL_begin 11 = .ok (.astore_n 2, 1) := by decide +kernel
theorem dL_begin_12 : decode cL_begin 12 = .ok (.iconst 2, 1) := by decide +kernel
theorem dL_begin_13 : decode cL_begin 13 = .ok (.ireturn, 1) := by decide +kernel
theorem dL_begin_14 : decode cL_begin 14 = .ok (.iconst 0, 1) := by decide +kernel
theorem dL_begin_15 : decode cL_begin 15 = .ok (.ireturn, 1) := by decide +kernel
theorem dL_edge_0 : decode cL_edge 0 = .ok (.aload 4, 2) := by decide +kernel
theorem dL_edge_2 : decode cL_edge 2 = .ok (.iconst 0, 1) := by decide +kernel
theorem dL_edge_3 : decode cL_edge 3 = .ok (.aload_n 0, 1) := by decide +kernel
theorem dL_edge_4 : decode cL_edge 4 = .ok (.iload_n 1, 1) := by decide +kernel
theorem dL_edge_5 : decode cL_edge 5 = .ok (.iload_n 2, 1) := by decide +kernel
theorem dL_edge_6 : decode cL_edge 6 = .ok (.iload_n 3, 1) := by decide +kernel
theorem dL_edge_7 : decode cL_edge 7 = .ok (.invokevirtual 17, 3) := by decide +kernel
theorem dL_edge_10 : decode cL_edge 10 = .ok (.i2l, 1) := by decide +kernel
theorem dL_edge_11 : decode cL_edge 11 = .ok (.lastore, 1) := by decide +kernel
theorem dL_edge_12 : decode cL_edge 12 = .ok (.goto 11, 3) := by decide +kernel
theorem dL_edge_15 : decode cL_edge 15 = .ok (.astore 5, 2) := by decide +kernel
theorem dL_edge_17 : decode cL_edge 17 = .ok (.iconst 1, 1) := by decide +kernel
theorem dL_edge_18 : decode cL_edge 18 = .ok (.ireturn, 1) := by decide +kernel
theorem dL_edge_19 : decode cL_edge 19 = .ok (.astore 5, 2) := by decide +kernel
theorem dL_edge_21 : decode cL_edge 21 = .ok (.iconst 2, 1) := by decide +kernel
theorem dL_edge_22 : decode cL_edge 22 = .ok (.ireturn, 1) := by decide +kernel
theorem dL_edge_23 : decode cL_edge 23 = .ok (.iconst 0, 1) := by decide +kernel
theorem dL_edge_24 : decode cL_edge 24 = .ok (.ireturn, 1) := by decide +kernel
theorem dL_version_0 : decode cL_version 0 = .ok (.aload_n 1, 1) := by decide +kernel
theorem dL_version_1 : decode cL_version 1 = .ok (.iconst 0, 1) := by decide +kernel
theorem dL_version_2 : decode cL_version 2 = .ok (.aload_n 0, 1) := by decide +kernel
theorem dL_version_3 : decode cL_version 3 = .ok (.invokevirtual 25, 3) := by decide +kernel
theorem dL_version_6 : decode cL_version 6 = .ok (.i2l, 1) := by decide +kernel
theorem dL_version_7 : decode cL_version 7 = .ok (.lastore, 1) := by decide +kernel
theorem dL_version_8 : decode cL_version 8 = .ok (.goto 6, 3) := by decide +kernel
theorem dL_version_11 : decode cL_version 11 = .ok (.astore_n 2, 1) := by decide +kernel
theorem dL_version_12 : decode cL_version 12 = .ok (.iconst 1, 1) := by decide +kernel
theorem dL_version_13 : decode cL_version 13 = .ok (.ireturn, 1) := by decide +kernel
theorem dL_version_14 : decode cL_version 14 = .ok (.iconst 0, 1) := by decide +kernel
theorem dL_version_15 : decode cL_version 15 = .ok (.ireturn, 1) := by decide +kernel
theorem dL_answer_0 : decode cL_answer 0 = .ok (.aload_n 3, 1) := by decide +kernel
theorem dL_answer_1 : decode cL_answer 1 = .ok (.iconst 0, 1) := by decide +kernel
theorem dL_answer_2 : decode cL_answer 2 = .ok (.aload_n 0, 1) := by decide +kernel
theorem dL_answer_3 : decode cL_answer 3 = .ok (.iload_n 1, 1) := by decide +kernel
theorem dL_answer_4 : decode cL_answer 4 = .ok (.iload_n 2, 1) := by decide +kernel
theorem dL_answer_5 : decode cL_answer 5 = .ok (.invokevirtual 29, 3) := by decide +kernel
theorem dL_answer_8 : decode cL_answer 8 = .ok (.i2l, 1) := by decide +kernel
theorem dL_answer_9 : decode cL_answer 9 = .ok (.lastore, 1) := by decide +kernel
theorem dL_answer_10 : decode cL_answer 10 = .ok (.goto 11, 3) := by decide +kernel
theorem dL_answer_13 : decode cL_answer 13 = .ok (.astore 4, 2) := by decide +kernel
theorem dL_answer_15 : decode cL_answer 15 = .ok (.iconst 1, 1) := by decide +kernel
theorem dL_answer_16 : decode cL_answer 16 = .ok (.ireturn, 1) := by decide +kernel
theorem dL_answer_17 : decode cL_answer 17 = .ok (.astore 4, 2) := by decide +kernel
theorem dL_answer_19 : decode cL_answer 19 = .ok (.iconst 2, 1) := by decide +kernel
theorem dL_answer_20 : decode cL_answer 20 = .ok (.ireturn, 1) := by decide +kernel
theorem dL_answer_21 : decode cL_answer 21 = .ok (.iconst 0, 1) := by decide +kernel
theorem dL_answer_22 : decode cL_answer 22 = .ok (.ireturn, 1) := by decide +kernel
theorem dL_drop_0 : decode cL_drop 0 = .ok (.aload_n 2, 1) := by decide +kernel
theorem dL_drop_1 : decode cL_drop 1 = .ok (.iconst 0, 1) := by decide +kernel
theorem dL_drop_2 : decode cL_drop 2 = .ok (.aload_n 0, 1) := by decide +kernel
theorem dL_drop_3 : decode cL_drop 3 = .ok (.iload_n 1, 1) := by decide +kernel
theorem dL_drop_4 : decode cL_drop 4 = .ok (.invokevirtual 33, 3) := by decide +kernel
theorem dL_drop_7 : decode cL_drop 7 = .ok (.i2l, 1) := by decide +kernel
theorem dL_drop_8 : decode cL_drop 8 = .ok (.lastore, 1) := by decide +kernel
theorem dL_drop_9 : decode cL_drop 9 = .ok (.goto 9, 3) := by decide +kernel
theorem dL_drop_12 : decode cL_drop 12 = .ok (.astore_n 3, 1) := by decide +kernel
theorem dL_drop_13 : decode cL_drop 13 = .ok (.iconst 1, 1) := by decide +kernel
theorem dL_drop_14 : decode cL_drop 14 = .ok (.ireturn, 1) := by decide +kernel
theorem dL_drop_15 : decode cL_drop 15 = .ok (.astore_n 3, 1) := by decide +kernel
theorem dL_drop_16 : decode cL_drop 16 = .ok (.iconst 2, 1) := by decide +kernel
theorem dL_drop_17 : decode cL_drop 17 = .ok (.ireturn, 1) := by decide +kernel
theorem dL_drop_18 : decode cL_drop 18 = .ok (.iconst 0, 1) := by decide +kernel
theorem dL_drop_19 : decode cL_drop 19 = .ok (.ireturn, 1) := by decide +kernel
theorem dL_keep_0 : decode cL_keep 0 = .ok (.aload_n 1, 1) := by decide +kernel
theorem dL_keep_1 : decode cL_keep 1 = .ok (.iconst 0, 1) := by decide +kernel
theorem dL_keep_2 : decode cL_keep 2 = .ok (.aload_n 0, 1) := by decide +kernel
theorem dL_keep_3 : decode cL_keep 3 = .ok (.invokevirtual 37, 3) := by decide +kernel
theorem dL_keep_6 : decode cL_keep 6 = .ok (.i2l, 1) := by decide +kernel
theorem dL_keep_7 : decode cL_keep 7 = .ok (.lastore, 1) := by decide +kernel
theorem dL_keep_8 : decode cL_keep 8 = .ok (.goto 6, 3) := by decide +kernel
theorem dL_keep_11 : decode cL_keep 11 = .ok (.astore_n 2, 1) := by decide +kernel
theorem dL_keep_12 : decode cL_keep 12 = .ok (.iconst 1, 1) := by decide +kernel
theorem dL_keep_13 : decode cL_keep 13 = .ok (.ireturn, 1) := by decide +kernel
theorem dL_keep_14 : decode cL_keep 14 = .ok (.iconst 0, 1) := by decide +kernel
theorem dL_keep_15 : decode cL_keep 15 = .ok (.ireturn, 1) := by decide +kernel
theorem dL_poke_0 : decode cL_poke 0 = .ok (.aload_n 3, 1) := by decide +kernel
theorem dL_poke_1 : decode cL_poke 1 = .ok (.iconst 0, 1) := by decide +kernel
theorem dL_poke_2 : decode cL_poke 2 = .ok (.aload_n 0, 1) := by decide +kernel
theorem dL_poke_3 : decode cL_poke 3 = .ok (.iload_n 1, 1) := by decide +kernel
theorem dL_poke_4 : decode cL_poke 4 = .ok (.iload_n 2, 1) := by decide +kernel
theorem dL_poke_5 : decode cL_poke 5 = .ok (.invokevirtual 40, 3) := by decide +kernel
theorem dL_poke_8 : decode cL_poke 8 = .ok (.i2l, 1) := by decide +kernel
theorem dL_poke_9 : decode cL_poke 9 = .ok (.lastore, 1) := by decide +kernel
theorem dL_poke_10 : decode cL_poke 10 = .ok (.goto 7, 3) := by decide +kernel
theorem dL_poke_13 : decode cL_poke 13 = .ok (.astore 4, 2) := by decide +kernel
theorem dL_poke_15 : decode cL_poke 15 = .ok (.iconst 1, 1) := by decide +kernel
theorem dL_poke_16 : decode cL_poke 16 = .ok (.ireturn, 1) := by decide +kernel
theorem dL_poke_17 : decode cL_poke 17 = .ok (.iconst 0, 1) := by decide +kernel
theorem dL_poke_18 : decode cL_poke 18 = .ok (.ireturn, 1) := by decide +kernel
theorem dL_byteAt_0 : decode cL_byteAt 0 = .ok (.aload_n 2, 1) := by decide +kernel
theorem dL_byteAt_1 : decode cL_byteAt 1 = .ok (.iconst 0, 1) := by decide +kernel
theorem dL_byteAt_2 : decode cL_byteAt 2 = .ok (.aload_n 0, 1) := by decide +kernel
theorem dL_byteAt_3 : decode cL_byteAt 3 = .ok (.iload_n 1, 1) := by decide +kernel
theorem dL_byteAt_4 : decode cL_byteAt 4 = .ok (.invokevirtual 43, 3) := by decide +kernel
theorem dL_byteAt_7 : decode cL_byteAt 7 = .ok (.i2l, 1) := by decide +kernel
theorem dL_byteAt_8 : decode cL_byteAt 8 = .ok (.lastore, 1) := by decide +kernel
theorem dL_byteAt_9 : decode cL_byteAt 9 = .ok (.goto 6, 3) := by decide +kernel
theorem dL_byteAt_12 : decode cL_byteAt 12 = .ok (.astore_n 3, 1) := by decide +kernel
theorem dL_byteAt_13 : decode cL_byteAt 13 = .ok (.iconst 1, 1) := by decide +kernel
theorem dL_byteAt_14 : decode cL_byteAt 14 = .ok (.ireturn, 1) := by decide +kernel
theorem dL_byteAt_15 : decode cL_byteAt 15 = .ok (.iconst 0, 1) := by decide +kernel
theorem dL_byteAt_16 : decode cL_byteAt 16 = .ok (.ireturn, 1) := by decide +kernel
theorem dL_badAt_0 : decode cL_badAt 0 = .ok (.aload_n 1, 1) := by decide +kernel
theorem dL_badAt_1 : decode cL_badAt 1 = .ok (.iconst 0, 1) := by decide +kernel
theorem dL_badAt_2 : decode cL_badAt 2 = .ok (.aload_n 0, 1) := by decide +kernel
theorem dL_badAt_3 : decode cL_badAt 3 = .ok (.invokevirtual 46, 3) := by decide +kernel
theorem dL_badAt_6 : decode cL_badAt 6 = .ok (.i2l, 1) := by decide +kernel
theorem dL_badAt_7 : decode cL_badAt 7 = .ok (.lastore, 1) := by decide +kernel
theorem dL_badAt_8 : decode cL_badAt 8 = .ok (.goto 6, 3) := by decide +kernel
theorem dL_badAt_11 : decode cL_badAt 11 = .ok (.astore_n 2, 1) := by decide +kernel
theorem dL_badAt_12 : decode cL_badAt 12 = .ok (.iconst 1, 1) := by decide +kernel
theorem dL_badAt_13 : decode cL_badAt 13 = .ok (.ireturn, 1) := by decide +kernel
theorem dL_badAt_14 : decode cL_badAt 14 = .ok (.iconst 0, 1) := by decide +kernel
theorem dL_badAt_15 : decode cL_badAt 15 = .ok (.ireturn, 1) := by decide +kernel
theorem dL_has_0 : decode cL_has 0 = .ok (.aload 4, 2) := by decide +kernel
theorem dL_has_2 : decode cL_has 2 = .ok (.iconst 0, 1) := by decide +kernel
theorem dL_has_3 : decode cL_has 3 = .ok (.aload_n 0, 1) := by decide +kernel
theorem dL_has_4 : decode cL_has 4 = .ok (.iload_n 1, 1) := by decide +kernel
theorem dL_has_5 : decode cL_has 5 = .ok (.iload_n 2, 1) := by decide +kernel
theorem dL_has_6 : decode cL_has 6 = .ok (.iload_n 3, 1) := by decide +kernel
theorem dL_has_7 : decode cL_has 7 = .ok (.invokevirtual 49, 3) := by decide +kernel
theorem dL_has_10 : decode cL_has 10 = .ok (.ifCond .eq 7, 3) := by decide +kernel
theorem dL_has_13 : decode cL_has 13 = .ok (.lconst 1, 1) := by decide +kernel
theorem dL_has_14 : decode cL_has 14 = .ok (.goto 4, 3) := by decide +kernel
theorem dL_has_17 : decode cL_has 17 = .ok (.lconst 0, 1) := by decide +kernel
theorem dL_has_18 : decode cL_has 18 = .ok (.lastore, 1) := by decide +kernel
theorem dL_has_19 : decode cL_has 19 = .ok (.goto 11, 3) := by decide +kernel
theorem dL_has_22 : decode cL_has 22 = .ok (.astore 5, 2) := by decide +kernel
theorem dL_has_24 : decode cL_has 24 = .ok (.iconst 1, 1) := by decide +kernel
theorem dL_has_25 : decode cL_has 25 = .ok (.ireturn, 1) := by decide +kernel
theorem dL_has_26 : decode cL_has 26 = .ok (.astore 5, 2) := by decide +kernel
theorem dL_has_28 : decode cL_has 28 = .ok (.iconst 2, 1) := by decide +kernel
theorem dL_has_29 : decode cL_has 29 = .ok (.ireturn, 1) := by decide +kernel
theorem dL_has_30 : decode cL_has 30 = .ok (.iconst 0, 1) := by decide +kernel
theorem dL_has_31 : decode cL_has 31 = .ok (.ireturn, 1) := by decide +kernel
theorem dL_chunk_0 : decode cL_chunk 0 = .ok (.aload_n 3, 1) := by decide +kernel
theorem dL_chunk_1 : decode cL_chunk 1 = .ok (.iconst 0, 1) := by decide +kernel
theorem dL_chunk_2 : decode cL_chunk 2 = .ok (.aload_n 0, 1) := by decide +kernel
theorem dL_chunk_3 : decode cL_chunk 3 = .ok (.iload_n 1, 1) := by decide +kernel
theorem dL_chunk_4 : decode cL_chunk 4 = .ok (.iload_n 2, 1) := by decide +kernel
theorem dL_chunk_5 : decode cL_chunk 5 = .ok (.invokevirtual 53, 3) := by decide +kernel
theorem dL_chunk_8 : decode cL_chunk 8 = .ok (.i2l, 1) := by decide +kernel
theorem dL_chunk_9 : decode cL_chunk 9 = .ok (.lastore, 1) := by decide +kernel
theorem dL_chunk_10 : decode cL_chunk 10 = .ok (.goto 11, 3) := by decide +kernel
theorem dL_chunk_13 : decode cL_chunk 13 = .ok (.astore 4, 2) := by decide +kernel
theorem dL_chunk_15 : decode cL_chunk 15 = .ok (.iconst 1, 1) := by decide +kernel
theorem dL_chunk_16 : decode cL_chunk 16 = .ok (.ireturn, 1) := by decide +kernel
theorem dL_chunk_17 : decode cL_chunk 17 = .ok (.astore 4, 2) := by decide +kernel
theorem dL_chunk_19 : decode cL_chunk 19 = .ok (.iconst 2, 1) := by decide +kernel
theorem dL_chunk_20 : decode cL_chunk 20 = .ok (.ireturn, 1) := by decide +kernel
theorem dL_chunk_21 : decode cL_chunk 21 = .ok (.iconst 0, 1) := by decide +kernel
theorem dL_chunk_22 : decode cL_chunk 22 = .ok (.ireturn, 1) := by decide +kernel
theorem dL_named_0 : decode cL_named 0 = .ok (.aload_n 2, 1) := by decide +kernel
theorem dL_named_1 : decode cL_named 1 = .ok (.iconst 0, 1) := by decide +kernel
theorem dL_named_2 : decode cL_named 2 = .ok (.aload_n 0, 1) := by decide +kernel
theorem dL_named_3 : decode cL_named 3 = .ok (.iload_n 1, 1) := by decide +kernel
theorem dL_named_4 : decode cL_named 4 = .ok (.invokevirtual 56, 3) := by decide +kernel
theorem dL_named_7 : decode cL_named 7 = .ok (.i2l, 1) := by decide +kernel
theorem dL_named_8 : decode cL_named 8 = .ok (.lastore, 1) := by decide +kernel
theorem dL_named_9 : decode cL_named 9 = .ok (.goto 9, 3) := by decide +kernel
theorem dL_named_12 : decode cL_named 12 = .ok (.astore_n 3, 1) := by decide +kernel
theorem dL_named_13 : decode cL_named 13 = .ok (.iconst 1, 1) := by decide +kernel
theorem dL_named_14 : decode cL_named 14 = .ok (.ireturn, 1) := by decide +kernel
theorem dL_named_15 : decode cL_named 15 = .ok (.astore_n 3, 1) := by decide +kernel
theorem dL_named_16 : decode cL_named 16 = .ok (.iconst 2, 1) := by decide +kernel
theorem dL_named_17 : decode cL_named 17 = .ok (.ireturn, 1) := by decide +kernel
theorem dL_named_18 : decode cL_named 18 = .ok (.iconst 0, 1) := by decide +kernel
theorem dL_named_19 : decode cL_named 19 = .ok (.ireturn, 1) := by decide +kernel
theorem dL_differ_0 : decode cL_differ 0 = .ok (.aload_n 3, 1) := by decide +kernel
theorem dL_differ_1 : decode cL_differ 1 = .ok (.iconst 0, 1) := by decide +kernel
theorem dL_differ_2 : decode cL_differ 2 = .ok (.aload_n 0, 1) := by decide +kernel
theorem dL_differ_3 : decode cL_differ 3 = .ok (.iload_n 1, 1) := by decide +kernel
theorem dL_differ_4 : decode cL_differ 4 = .ok (.iload_n 2, 1) := by decide +kernel
theorem dL_differ_5 : decode cL_differ 5 = .ok (.invokevirtual 59, 3) := by decide +kernel
theorem dL_differ_8 : decode cL_differ 8 = .ok (.i2l, 1) := by decide +kernel
theorem dL_differ_9 : decode cL_differ 9 = .ok (.lastore, 1) := by decide +kernel
theorem dL_differ_10 : decode cL_differ 10 = .ok (.goto 11, 3) := by decide +kernel
theorem dL_differ_13 : decode cL_differ 13 = .ok (.astore 4, 2) := by decide +kernel
theorem dL_differ_15 : decode cL_differ 15 = .ok (.iconst 1, 1) := by decide +kernel
theorem dL_differ_16 : decode cL_differ 16 = .ok (.ireturn, 1) := by decide +kernel
theorem dL_differ_17 : decode cL_differ 17 = .ok (.astore 4, 2) := by decide +kernel
theorem dL_differ_19 : decode cL_differ 19 = .ok (.iconst 2, 1) := by decide +kernel
theorem dL_differ_20 : decode cL_differ 20 = .ok (.ireturn, 1) := by decide +kernel
theorem dL_differ_21 : decode cL_differ 21 = .ok (.iconst 0, 1) := by decide +kernel
theorem dL_differ_22 : decode cL_differ 22 = .ok (.ireturn, 1) := by decide +kernel
theorem dL_far_0 : decode cL_far 0 = .ok (.aload 4, 2) := by decide +kernel
theorem dL_far_2 : decode cL_far 2 = .ok (.iconst 0, 1) := by decide +kernel
theorem dL_far_3 : decode cL_far 3 = .ok (.aload_n 0, 1) := by decide +kernel
theorem dL_far_4 : decode cL_far 4 = .ok (.iload_n 1, 1) := by decide +kernel
theorem dL_far_5 : decode cL_far 5 = .ok (.iload_n 2, 1) := by decide +kernel
theorem dL_far_6 : decode cL_far 6 = .ok (.iload_n 3, 1) := by decide +kernel
theorem dL_far_7 : decode cL_far 7 = .ok (.invokevirtual 62, 3) := by decide +kernel
theorem dL_far_10 : decode cL_far 10 = .ok (.i2l, 1) := by decide +kernel
theorem dL_far_11 : decode cL_far 11 = .ok (.lastore, 1) := by decide +kernel
theorem dL_far_12 : decode cL_far 12 = .ok (.goto 11, 3) := by decide +kernel
theorem dL_far_15 : decode cL_far 15 = .ok (.astore 5, 2) := by decide +kernel
theorem dL_far_17 : decode cL_far 17 = .ok (.iconst 1, 1) := by decide +kernel
theorem dL_far_18 : decode cL_far 18 = .ok (.ireturn, 1) := by decide +kernel
theorem dL_far_19 : decode cL_far 19 = .ok (.astore 5, 2) := by decide +kernel
theorem dL_far_21 : decode cL_far 21 = .ok (.iconst 2, 1) := by decide +kernel
theorem dL_far_22 : decode cL_far 22 = .ok (.ireturn, 1) := by decide +kernel
theorem dL_far_23 : decode cL_far 23 = .ok (.iconst 0, 1) := by decide +kernel
theorem dL_far_24 : decode cL_far 24 = .ok (.ireturn, 1) := by decide +kernel
theorem dL_usable_0 : decode cL_usable 0 = .ok (.aload_n 2, 1) := by decide +kernel
theorem dL_usable_1 : decode cL_usable 1 = .ok (.iconst 0, 1) := by decide +kernel
theorem dL_usable_2 : decode cL_usable 2 = .ok (.aload_n 0, 1) := by decide +kernel
theorem dL_usable_3 : decode cL_usable 3 = .ok (.iload_n 1, 1) := by decide +kernel
theorem dL_usable_4 : decode cL_usable 4 = .ok (.invokevirtual 66, 3) := by decide +kernel
theorem dL_usable_7 : decode cL_usable 7 = .ok (.ifCond .eq 7, 3) := by decide +kernel
theorem dL_usable_10 : decode cL_usable 10 = .ok (.lconst 1, 1) := by decide +kernel
theorem dL_usable_11 : decode cL_usable 11 = .ok (.goto 4, 3) := by decide +kernel
theorem dL_usable_14 : decode cL_usable 14 = .ok (.lconst 0, 1) := by decide +kernel
theorem dL_usable_15 : decode cL_usable 15 = .ok (.lastore, 1) := by decide +kernel
theorem dL_usable_16 : decode cL_usable 16 = .ok (.goto 9, 3) := by decide +kernel
theorem dL_usable_19 : decode cL_usable 19 = .ok (.astore_n 3, 1) := by decide +kernel
theorem dL_usable_20 : decode cL_usable 20 = .ok (.iconst 1, 1) := by decide +kernel
theorem dL_usable_21 : decode cL_usable 21 = .ok (.ireturn, 1) := by decide +kernel
theorem dL_usable_22 : decode cL_usable 22 = .ok (.astore_n 3, 1) := by decide +kernel
theorem dL_usable_23 : decode cL_usable 23 = .ok (.iconst 2, 1) := by decide +kernel
theorem dL_usable_24 : decode cL_usable 24 = .ok (.ireturn, 1) := by decide +kernel
theorem dL_usable_25 : decode cL_usable 25 = .ok (.iconst 0, 1) := by decide +kernel
theorem dL_usable_26 : decode cL_usable 26 = .ok (.ireturn, 1) := by decide +kernel
theorem dL_mask_0 : decode cL_mask 0 = .ok (.aload_n 2, 1) := by decide +kernel
theorem dL_mask_1 : decode cL_mask 1 = .ok (.iconst 0, 1) := by decide +kernel
theorem dL_mask_2 : decode cL_mask 2 = .ok (.aload_n 0, 1) := by decide +kernel
theorem dL_mask_3 : decode cL_mask 3 = .ok (.iload_n 1, 1) := by decide +kernel
theorem dL_mask_4 : decode cL_mask 4 = .ok (.invokevirtual 70, 3) := by decide +kernel
theorem dL_mask_7 : decode cL_mask 7 = .ok (.lastore, 1) := by decide +kernel
theorem dL_mask_8 : decode cL_mask 8 = .ok (.goto 9, 3) := by decide +kernel
theorem dL_mask_11 : decode cL_mask 11 = .ok (.astore_n 3, 1) := by decide +kernel
theorem dL_mask_12 : decode cL_mask 12 = .ok (.iconst 1, 1) := by decide +kernel
theorem dL_mask_13 : decode cL_mask 13 = .ok (.ireturn, 1) := by decide +kernel
theorem dL_mask_14 : decode cL_mask 14 = .ok (.astore_n 3, 1) := by decide +kernel
theorem dL_mask_15 : decode cL_mask 15 = .ok (.iconst 2, 1) := by decide +kernel
theorem dL_mask_16 : decode cL_mask 16 = .ok (.ireturn, 1) := by decide +kernel
theorem dL_mask_17 : decode cL_mask 17 = .ok (.iconst 0, 1) := by decide +kernel
theorem dL_mask_18 : decode cL_mask 18 = .ok (.ireturn, 1) := by decide +kernel
theorem dL_told_0 : decode cL_told 0 = .ok (.aload_n 2, 1) := by decide +kernel
theorem dL_told_1 : decode cL_told 1 = .ok (.iconst 0, 1) := by decide +kernel
theorem dL_told_2 : decode cL_told 2 = .ok (.aload_n 0, 1) := by decide +kernel
theorem dL_told_3 : decode cL_told 3 = .ok (.iload_n 1, 1) := by decide +kernel
theorem dL_told_4 : decode cL_told 4 = .ok (.invokevirtual 74, 3) := by decide +kernel
theorem dL_told_7 : decode cL_told 7 = .ok (.i2l, 1) := by decide +kernel
theorem dL_told_8 : decode cL_told 8 = .ok (.lastore, 1) := by decide +kernel
theorem dL_told_9 : decode cL_told 9 = .ok (.goto 9, 3) := by decide +kernel
theorem dL_told_12 : decode cL_told 12 = .ok (.astore_n 3, 1) := by decide +kernel
theorem dL_told_13 : decode cL_told 13 = .ok (.iconst 1, 1) := by decide +kernel
theorem dL_told_14 : decode cL_told 14 = .ok (.ireturn, 1) := by decide +kernel
theorem dL_told_15 : decode cL_told 15 = .ok (.astore_n 3, 1) := by decide +kernel
theorem dL_told_16 : decode cL_told 16 = .ok (.iconst 2, 1) := by decide +kernel
theorem dL_told_17 : decode cL_told 17 = .ok (.ireturn, 1) := by decide +kernel
theorem dL_told_18 : decode cL_told 18 = .ok (.iconst 0, 1) := by decide +kernel
theorem dL_told_19 : decode cL_told 19 = .ok (.ireturn, 1) := by decide +kernel
