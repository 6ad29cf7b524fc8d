theorem dX5_init_0 : decode cX5_init 0 = .ok (.aload_n 0, 1) := by decide +kernel
theorem dX5_init_1 : decode cX5_init 1 = .ok (.invokespecial 1, 3) := by decide +kernel
theorem dX5_init_4 : decode cX5_init 4 = .ok (.aload_n 0, 1) := by decide +kernel
theorem dX5_init_5 : decode cX5_init 5 = .ok (.sipush 24032, 3) := by decide +kernel
theorem dX5_init_8 : decode cX5_init 8 = .ok (.newarray .int, 2) := by decide +kernel
theorem dX5_init_10 : decode cX5_init 10 = .ok (.putfield 7, 3) := by decide +kernel
theorem dX5_init_13 : decode cX5_init 13 = .ok (.aload_n 0, 1) := by decide +kernel
theorem dX5_init_14 : decode cX5_init 14 = .ok (.ldc 13, 2) := by decide +kernel
theorem dX5_init_16 : decode cX5_init 16 = .ok (.newarray .int, 2) := by decide +kernel
theorem dX5_init_18 : decode cX5_init 18 = .ok (.putfield 14, 3) := by decide +kernel
theorem dX5_init_21 : decode cX5_init 21 = .ok (.aload_n 0, 1) := by decide +kernel
theorem dX5_init_22 : decode cX5_init 22 = .ok (.ldc 13, 2) := by decide +kernel
theorem dX5_init_24 : decode cX5_init 24 = .ok (.newarray .int, 2) := by decide +kernel
theorem dX5_init_26 : decode cX5_init 26 = .ok (.putfield 17, 3) := by decide +kernel
theorem dX5_init_29 : decode cX5_init 29 = .ok (.aload_n 0, 1) := by decide +kernel
theorem dX5_init_30 : decode cX5_init 30 = .ok (.bipush 64, 2) := by decide +kernel
theorem dX5_init_32 : decode cX5_init 32 = .ok (.newarray .long, 2) := by decide +kernel
theorem dX5_init_34 : decode cX5_init 34 = .ok (.putfield 20, 3) := by decide +kernel
theorem dX5_init_37 : decode cX5_init 37 = .ok (.aload_n 0, 1) := by decide +kernel
theorem dX5_init_38 : decode cX5_init 38 = .ok (.ldc 24, 2) := by decide +kernel
theorem dX5_init_40 : decode cX5_init 40 = .ok (.newarray .int, 2) := by decide +kernel
theorem dX5_init_42 : decode cX5_init 42 = .ok (.putfield 25, 3) := by decide +kernel
theorem dX5_init_45 : decode cX5_init 45 = .ok (.aload_n 0, 1) := by decide +kernel
theorem dX5_init_46 : decode cX5_init 46 = .ok (.sipush 2560, 3) := by decide +kernel
theorem dX5_init_49 : decode cX5_init 49 = .ok (.newarray .long, 2) := by decide +kernel
theorem dX5_init_51 : decode cX5_init 51 = .ok (.putfield 28, 3) := by decide +kernel
theorem dX5_init_54 : decode cX5_init 54 = .ok (.aload_n 0, 1) := by decide +kernel
theorem dX5_init_55 : decode cX5_init 55 = .ok (.bipush 100, 2) := by decide +kernel
theorem dX5_init_57 : decode cX5_init 57 = .ok (.newarray .boolean, 2) := by decide +kernel
theorem dX5_init_59 : decode cX5_init 59 = .ok (.putfield 31, 3) := by decide +kernel
theorem dX5_init_62 : decode cX5_init 62 = .ok (.aload_n 0, 1) := by decide +kernel
theorem dX5_init_63 : decode cX5_init 63 = .ok (.sipush 800, 3) := by decide +kernel
theorem dX5_init_66 : decode cX5_init 66 = .ok (.newarray .int, 2) := by decide +kernel
theorem dX5_init_68 : decode cX5_init 68 = .ok (.putfield 35, 3) := by decide +kernel
theorem dX5_init_71 : decode cX5_init 71 = .ok (.aload_n 0, 1) := by decide +kernel
theorem dX5_init_72 : decode cX5_init 72 = .ok (.bipush 100, 2) := by decide +kernel
theorem dX5_init_74 : decode cX5_init 74 = .ok (.newarray .int, 2) := by decide +kernel
theorem dX5_init_76 : decode cX5_init 76 = .ok (.putfield 38, 3) := by decide +kernel
theorem dX5_init_79 : decode cX5_init 79 = .ok (.aload_n 0, 1) := by decide +kernel
theorem dX5_init_80 : decode cX5_init 80 = .ok (.bipush 100, 2) := by decide +kernel
theorem dX5_init_82 : decode cX5_init 82 = .ok (.newarray .long, 2) := by decide +kernel
theorem dX5_init_84 : decode cX5_init 84 = .ok (.putfield 41, 3) := by decide +kernel
theorem dX5_init_87 : decode cX5_init 87 = .ok (.aload_n 0, 1) := by decide +kernel
theorem dX5_init_88 : decode cX5_init 88 = .ok (.bipush 8, 2) := by decide +kernel
theorem dX5_init_90 : decode cX5_init 90 = .ok (.newarray .int, 2) := by decide +kernel
theorem dX5_init_92 : decode cX5_init 92 = .ok (.putfield 44, 3) := by decide +kernel
theorem dX5_init_95 : decode cX5_init 95 = .ok (.aload_n 0, 1) := by decide +kernel
theorem dX5_init_96 : decode cX5_init 96 = .ok (.bipush 8, 2) := by decide +kernel
theorem dX5_init_98 : decode cX5_init 98 = .ok (.newarray .boolean, 2) := by decide +kernel
theorem dX5_init_100 : decode cX5_init 100 = .ok (.putfield 47, 3) := by decide +kernel
theorem dX5_init_103 : decode cX5_init 103 = .ok (.aload_n 0, 1) := by decide +kernel
theorem dX5_init_104 : decode cX5_init 104 = .ok (.bipush 64, 2) := by decide +kernel
theorem dX5_init_106 : decode cX5_init 106 = .ok (.newarray .long, 2) := by decide +kernel
theorem dX5_init_108 : decode cX5_init 108 = .ok (.putfield 50, 3) := by decide +kernel
theorem dX5_init_111 : decode cX5_init 111 = .ok (.aload_n 0, 1) := by decide +kernel
theorem dX5_init_112 : decode cX5_init 112 = .ok (.ldc 24, 2) := by decide +kernel
theorem dX5_init_114 : decode cX5_init 114 = .ok (.newarray .int, 2) := by decide +kernel
theorem dX5_init_116 : decode cX5_init 116 = .ok (.putfield 53, 3) := by decide +kernel
theorem dX5_init_119 : decode cX5_init 119 = .ok (.aload_n 0, 1) := by decide +kernel
theorem dX5_init_120 : decode cX5_init 120 = .ok (.sipush 2560, 3) := by decide +kernel
theorem dX5_init_123 : decode cX5_init 123 = .ok (.newarray .long, 2) := by decide +kernel
theorem dX5_init_125 : decode cX5_init 125 = .ok (.putfield 56, 3) := by decide +kernel
theorem dX5_init_128 : decode cX5_init 128 = .ok (.aload_n 0, 1) := by decide +kernel
theorem dX5_init_129 : decode cX5_init 129 = .ok (.bipush 100, 2) := by decide +kernel
theorem dX5_init_131 : decode cX5_init 131 = .ok (.newarray .boolean, 2) := by decide +kernel
theorem dX5_init_133 : decode cX5_init 133 = .ok (.putfield 59, 3) := by decide +kernel
theorem dX5_init_136 : decode cX5_init 136 = .ok (.aload_n 0, 1) := by decide +kernel
theorem dX5_init_137 : decode cX5_init 137 = .ok (.sipush 800, 3) := by decide +kernel
theorem dX5_init_140 : decode cX5_init 140 = .ok (.newarray .int, 2) := by decide +kernel
theorem dX5_init_142 : decode cX5_init 142 = .ok (.putfield 62, 3) := by decide +kernel
theorem dX5_init_145 : decode cX5_init 145 = .ok (.aload_n 0, 1) := by decide +kernel
theorem dX5_init_146 : decode cX5_init 146 = .ok (.bipush 100, 2) := by decide +kernel
theorem dX5_init_148 : decode cX5_init 148 = .ok (.newarray .int, 2) := by decide +kernel
theorem dX5_init_150 : decode cX5_init 150 = .ok (.putfield 65, 3) := by decide +kernel
theorem dX5_init_153 : decode cX5_init 153 = .ok (.aload_n 0, 1) := by decide +kernel
theorem dX5_init_154 : decode cX5_init 154 = .ok (.bipush 100, 2) := by decide +kernel
theorem dX5_init_156 : decode cX5_init 156 = .ok (.newarray .long, 2) := by decide +kernel
theorem dX5_init_158 : decode cX5_init 158 = .ok (.putfield 68, 3) := by decide +kernel
theorem dX5_init_161 : decode cX5_init 161 = .ok (.aload_n 0, 1) := by decide +kernel
theorem dX5_init_162 : decode cX5_init 162 = .ok (.bipush 64, 2) := by decide +kernel
theorem dX5_init_164 : decode cX5_init 164 = .ok (.invokevirtual 71, 3) := by decide +kernel
theorem dX5_init_167 : decode cX5_init 167 = .ok (.return_, 1) := by decide +kernel
theorem dX5_begin_0 : decode cX5_begin 0 = .ok (.aload_n 0, 1) := by decide +kernel
theorem dX5_begin_1 : decode cX5_begin 1 = .ok (.iload_n 1, 1) := by decide +kernel
theorem dX5_begin_2 : decode cX5_begin 2 = .ok (.ifCond .ge 7, 3) := by decide +kernel
theorem dX5_begin_5 : decode cX5_begin 5 = .ok (.iconst 1, 1) := by decide +kernel
theorem dX5_begin_6 : decode cX5_begin 6 = .ok (.goto 18, 3) := by decide +kernel
theorem dX5_begin_9 : decode cX5_begin 9 = .ok (.iload_n 1, 1) := by decide +kernel
theorem dX5_begin_10 : decode cX5_begin 10 = .ok (.ifCond .eq 9, 3) := by decide +kernel
theorem dX5_begin_13 : decode cX5_begin 13 = .ok (.iload_n 1, 1) := by decide +kernel
theorem dX5_begin_14 : decode cX5_begin 14 = .ok (.ldc 24, 2) := by decide +kernel
theorem dX5_begin_16 : decode cX5_begin 16 = .ok (.if_icmp .le 7, 3) := by decide +kernel
theorem dX5_begin_19 : decode cX5_begin 19 = .ok (.iconst 2, 1) := by decide +kernel
theorem dX5_begin_20 : decode cX5_begin 20 = .ok (.goto 4, 3) := by decide +kernel
theorem dX5_begin_23 : decode cX5_begin 23 = .ok (.iconst 0, 1) := by decide +kernel
theorem dX5_begin_24 : decode cX5_begin 24 = .ok (.putfield 75, 3) := by decide +kernel
theorem dX5_begin_27 : decode cX5_begin 27 = .ok (.aload_n 0, 1) := by decide +kernel
theorem dX5_begin_28 : decode cX5_begin 28 = .ok (.getfield 75, 3) := by decide +kernel
theorem dX5_begin_31 : decode cX5_begin 31 = .ok (.ifCond .ne 8, 3) := by decide +kernel
theorem dX5_begin_34 : decode cX5_begin 34 = .ok (.aload_n 0, 1) := by decide +kernel
theorem dX5_begin_35 : decode cX5_begin 35 = .ok (.iload_n 1, 1) := by decide +kernel
theorem dX5_begin_36 : decode cX5_begin 36 = .ok (.invokevirtual 71, 3) := by decide +kernel
theorem dX5_begin_39 : decode cX5_begin 39 = .ok (.return_, 1) := by decide +kernel
theorem dX5_anew_0 : decode cX5_anew 0 = .ok (.aload_n 0, 1) := by decide +kernel
theorem dX5_anew_1 : decode cX5_anew 1 = .ok (.iload_n 1, 1) := by decide +kernel
theorem dX5_anew_2 : decode cX5_anew 2 = .ok (.putfield 79, 3) := by decide +kernel
theorem dX5_anew_5 : decode cX5_anew 5 = .ok (.iconst 0, 1) := by decide +kernel
theorem dX5_anew_6 : decode cX5_anew 6 = .ok (.istore_n 2, 1) := by decide +kernel
theorem dX5_anew_7 : decode cX5_anew 7 = .ok (.iload_n 2, 1) := by decide +kernel
theorem dX5_anew_8 : decode cX5_anew 8 = .ok (.sipush 24032, 3) := by decide +kernel
theorem dX5_anew_11 : decode cX5_anew 11 = .ok (.if_icmp .ge 16, 3) := by decide +kernel
theorem dX5_anew_14 : decode cX5_anew 14 = .ok (.aload_n 0, 1) := by decide +kernel
theorem dX5_anew_15 : decode cX5_anew 15 = .ok (.getfield 7, 3) := by decide +kernel
theorem dX5_anew_18 : decode cX5_anew 18 = .ok (.iload_n 2, 1) := by decide +kernel
theorem dX5_anew_19 : decode cX5_anew 19 = .ok (.iconst 0, 1) := by decide +kernel
theorem dX5_anew_20 : decode cX5_anew 20 = .ok (.iastore, 1) := by decide +kernel
theorem dX5_anew_21 : decode cX5_anew 21 = .ok (.iinc 2 1, 3) := by decide +kernel
theorem dX5_anew_24 : decode cX5_anew 24 = .ok (.goto (-17), 3) := by decide +kernel
theorem dX5_anew_27 : decode cX5_anew 27 = .ok (.aload_n 0, 1) := by decide +kernel
theorem dX5_anew_28 : decode cX5_anew 28 = .ok (.invokevirtual 82, 3) := by decide +kernel
theorem dX5_anew_31 : decode cX5_anew 31 = .ok (.aload_n 0, 1) := by decide +kernel
theorem dX5_anew_32 : decode cX5_anew 32 = .ok (.iconst 0, 1) := by decide +kernel
theorem dX5_anew_33 : decode cX5_anew 33 = .ok (.putfield 85, 3) := by decide +kernel
theorem dX5_anew_36 : decode cX5_anew 36 = .ok (.aload_n 0, 1) := by decide +kernel
theorem dX5_anew_37 : decode cX5_anew 37 = .ok (.iconst 0, 1) := by decide +kernel
theorem dX5_anew_38 : decode cX5_anew 38 = .ok (.putfield 88, 3) := by decide +kernel
theorem dX5_anew_41 : decode cX5_anew 41 = .ok (.aload_n 0, 1) := by decide +kernel
theorem dX5_anew_42 : decode cX5_anew 42 = .ok (.iconst 0, 1) := by decide +kernel
theorem dX5_anew_43 : decode cX5_anew 43 = .ok (.invokevirtual 91, 3) := by decide +kernel
theorem dX5_anew_46 : decode cX5_anew 46 = .ok (.aload_n 0, 1) := by decide +kernel
theorem dX5_anew_47 : decode cX5_anew 47 = .ok (.iconst 0, 1) := by decide +kernel
theorem dX5_anew_48 : decode cX5_anew 48 = .ok (.putfield 85, 3) := by decide +kernel
theorem dX5_anew_51 : decode cX5_anew 51 = .ok (.aload_n 0, 1) := by decide +kernel
theorem dX5_anew_52 : decode cX5_anew 52 = .ok (.iconst 1, 1) := by decide +kernel
theorem dX5_anew_53 : decode cX5_anew 53 = .ok (.putfield 94, 3) := by decide +kernel
theorem dX5_anew_56 : decode cX5_anew 56 = .ok (.return_, 1) := by decide +kernel
theorem dX5_thrown_0 : decode cX5_thrown 0 = .ok (.aload_n 0, 1) := by decide +kernel
theorem dX5_thrown_1 : decode cX5_thrown 1 = .ok (.getfield 75, 3) := by decide +kernel
theorem dX5_thrown_4 : decode cX5_thrown 4 = .ok (.ireturn, 1) := by decide +kernel
theorem dX5_in_0 : decode cX5_in 0 = .ok (.iload_n 0, 1) := by decide +kernel
theorem dX5_in_1 : decode cX5_in 1 = .ok (.iload_n 1, 1) := by decide +kernel
theorem dX5_in_2 : decode cX5_in 2 = .ok (.if_icmp .lt 12, 3) := by decide +kernel
theorem dX5_in_5 : decode cX5_in 5 = .ok (.iload_n 0, 1) := by decide +kernel
theorem dX5_in_6 : decode cX5_in 6 = .ok (.iload_n 2, 1) := by decide +kernel
theorem dX5_in_7 : decode cX5_in 7 = .ok (.if_icmp .gt 7, 3) := by decide +kernel
theorem dX5_in_10 : decode cX5_in 10 = .ok (.iconst 1, 1) := by decide +kernel
theorem dX5_in_11 : decode cX5_in 11 = .ok (.goto 4, 3) := by decide +kernel
theorem dX5_in_14 : decode cX5_in 14 = .ok (.iconst 0, 1) := by decide +kernel
theorem dX5_in_15 : decode cX5_in 15 = .ok (.ireturn, 1) := by decide +kernel
theorem dX5_forget_0 : decode cX5_forget 0 = .ok (.aload_n 0, 1) := by decide +kernel
theorem dX5_forget_1 : decode cX5_forget 1 = .ok (.iconst 0, 1) := by decide +kernel
theorem dX5_forget_2 : decode cX5_forget 2 = .ok (.putfield 98, 3) := by decide +kernel
theorem dX5_forget_5 : decode cX5_forget 5 = .ok (.aload_n 0, 1) := by decide +kernel
theorem dX5_forget_6 : decode cX5_forget 6 = .ok (.iconst 0, 1) := by decide +kernel
theorem dX5_forget_7 : decode cX5_forget 7 = .ok (.putfield 101, 3) := by decide +kernel
theorem dX5_forget_10 : decode cX5_forget 10 = .ok (.aload_n 0, 1) := by decide +kernel
theorem dX5_forget_11 : decode cX5_forget 11 = .ok (.iconst 0, 1) := by decide +kernel
theorem dX5_forget_12 : decode cX5_forget 12 = .ok (.putfield 104, 3) := by decide +kernel
theorem dX5_forget_15 : decode cX5_forget 15 = .ok (.aload_n 0, 1) := by decide +kernel
theorem dX5_forget_16 : decode cX5_forget 16 = .ok (.iconst 0, 1) := by decide +kernel
theorem dX5_forget_17 : decode cX5_forget 17 = .ok (.putfield 107, 3) := by decide +kernel
theorem dX5_forget_20 : decode cX5_forget 20 = .ok (.aload_n 0, 1) := by decide +kernel
theorem dX5_forget_21 : decode cX5_forget 21 = .ok (.iconst 0, 1) := by decide +kernel
theorem dX5_forget_22 : decode cX5_forget 22 = .ok (.putfield 110, 3) := by decide +kernel
theorem dX5_forget_25 : decode cX5_forget 25 = .ok (.aload_n 0, 1) := by decide +kernel
theorem dX5_forget_26 : decode cX5_forget 26 = .ok (.iconst 0, 1) := by decide +kernel
theorem dX5_forget_27 : decode cX5_forget 27 = .ok (.putfield 113, 3) := by decide +kernel
theorem dX5_forget_30 : decode cX5_forget 30 = .ok (.iconst 0, 1) := by decide +kernel
theorem dX5_forget_31 : decode cX5_forget 31 = .ok (.istore_n 1, 1) := by decide +kernel
theorem dX5_forget_32 : decode cX5_forget 32 = .ok (.iload_n 1, 1) := by decide +kernel
theorem dX5_forget_33 : decode cX5_forget 33 = .ok (.bipush 64, 2) := by decide +kernel
theorem dX5_forget_35 : decode cX5_forget 35 = .ok (.if_icmp .ge 16, 3) := by decide +kernel
theorem dX5_forget_38 : decode cX5_forget 38 = .ok (.aload_n 0, 1) := by decide +kernel
theorem dX5_forget_39 : decode cX5_forget 39 = .ok (.getfield 20, 3) := by decide +kernel
theorem dX5_forget_42 : decode cX5_forget 42 = .ok (.iload_n 1, 1) := by decide +kernel
theorem dX5_forget_43 : decode cX5_forget 43 = .ok (.lconst 0, 1) := by decide +kernel
theorem dX5_forget_44 : decode cX5_forget 44 = .ok (.lastore, 1) := by decide +kernel
theorem dX5_forget_45 : decode cX5_forget 45 = .ok (.iinc 1 1, 3) := by decide +kernel
theorem dX5_forget_48 : decode cX5_forget 48 = .ok (.goto (-16), 3) := by decide +kernel
theorem dX5_forget_51 : decode cX5_forget 51 = .ok (.iconst 0, 1) := by decide +kernel
theorem dX5_forget_52 : decode cX5_forget 52 = .ok (.istore_n 1, 1) := by decide +kernel
theorem dX5_forget_53 : decode cX5_forget 53 = .ok (.iload_n 1, 1) := by decide +kernel
theorem dX5_forget_54 : decode cX5_forget 54 = .ok (.ldc 24, 2) := by decide +kernel
theorem dX5_forget_56 : decode cX5_forget 56 = .ok (.if_icmp .ge 16, 3) := by decide +kernel
theorem dX5_forget_59 : decode cX5_forget 59 = .ok (.aload_n 0, 1) := by decide +kernel
theorem dX5_forget_60 : decode cX5_forget 60 = .ok (.getfield 25, 3) := by decide +kernel
theorem dX5_forget_63 : decode cX5_forget 63 = .ok (.iload_n 1, 1) := by decide +kernel
theorem dX5_forget_64 : decode cX5_forget 64 = .ok (.iconst (-1), 1) := by decide +kernel
theorem dX5_forget_65 : decode cX5_forget 65 = .ok (.iastore, 1) := by decide +kernel
theorem dX5_forget_66 : decode cX5_forget 66 = .ok (.iinc 1 1, 3) := by decide +kernel
theorem dX5_forget_69 : decode cX5_forget 69 = .ok (.goto (-16), 3) := by decide +kernel
theorem dX5_forget_72 : decode cX5_forget 72 = .ok (.iconst 0, 1) := by decide +kernel
theorem dX5_forget_73 : decode cX5_forget 73 = .ok (.istore_n 1, 1) := by decide +kernel
theorem dX5_forget_74 : decode cX5_forget 74 = .ok (.iload_n 1, 1) := by decide +kernel
theorem dX5_forget_75 : decode cX5_forget 75 = .ok (.bipush 100, 2) := by decide +kernel
theorem dX5_forget_77 : decode cX5_forget 77 = .ok (.if_icmp .ge 16, 3) := by decide +kernel
theorem dX5_forget_80 : decode cX5_forget 80 = .ok (.aload_n 0, 1) := by decide +kernel
theorem dX5_forget_81 : decode cX5_forget 81 = .ok (.getfield 31, 3) := by decide +kernel
theorem dX5_forget_84 : decode cX5_forget 84 = .ok (.iload_n 1, 1) := by decide +kernel
theorem dX5_forget_85 : decode cX5_forget 85 = .ok (.iconst 0, 1) := by decide +kernel
theorem dX5_forget_86 : decode cX5_forget 86 = .ok (.bastore, 1) := by decide +kernel
theorem dX5_forget_87 : decode cX5_forget 87 = .ok (.iinc 1 1, 3) := by decide +kernel
theorem dX5_forget_90 : decode cX5_forget 90 = .ok (.goto (-16), 3) := by decide +kernel
theorem dX5_forget_93 : decode cX5_forget 93 = .ok (.return_, 1) := by decide +kernel
theorem dX5_put_0 : decode cX5_put 0 = .ok (.aload_n 0, 1) := by decide +kernel
theorem dX5_put_1 : decode cX5_put 1 = .ok (.getfield 14, 3) := by decide +kernel
theorem dX5_put_4 : decode cX5_put 4 = .ok (.aload_n 0, 1) := by decide +kernel
theorem dX5_put_5 : decode cX5_put 5 = .ok (.getfield 85, 3) := by decide +kernel
theorem dX5_put_8 : decode cX5_put 8 = .ok (.iload_n 1, 1) := by decide +kernel
theorem dX5_put_9 : decode cX5_put 9 = .ok (.iastore, 1) := by decide +kernel
theorem dX5_put_10 : decode cX5_put 10 = .ok (.aload_n 0, 1) := by decide +kernel
theorem dX5_put_11 : decode cX5_put 11 = .ok (.getfield 17, 3) := by decide +kernel
theorem dX5_put_14 : decode cX5_put 14 = .ok (.aload_n 0, 1) := by decide +kernel
theorem dX5_put_15 : decode cX5_put 15 = .ok (.getfield 85, 3) := by decide +kernel
theorem dX5_put_18 : decode cX5_put 18 = .ok (.aload_n 0, 1) := by decide +kernel
theorem dX5_put_19 : decode cX5_put 19 = .ok (.getfield 7, 3) := by decide +kernel
theorem dX5_put_22 : decode cX5_put 22 = .ok (.iload_n 1, 1) := by decide +kernel
theorem dX5_put_23 : decode cX5_put 23 = .ok (.iaload, 1) := by decide +kernel
theorem dX5_put_24 : decode cX5_put 24 = .ok (.iastore, 1) := by decide +kernel
theorem dX5_put_25 : decode cX5_put 25 = .ok (.aload_n 0, 1) := by decide +kernel
theorem dX5_put_26 : decode cX5_put 26 = .ok (.dup, 1) := by decide +kernel
theorem dX5_put_27 : decode cX5_put 27 = .ok (.getfield 85, 3) := by decide +kernel
theorem dX5_put_30 : decode cX5_put 30 = .ok (.iconst 1, 1) := by decide +kernel
theorem dX5_put_31 : decode cX5_put 31 = .ok (.iadd, 1) := by decide +kernel
theorem dX5_put_32 : decode cX5_put 32 = .ok (.putfield 85, 3) := by decide +kernel
theorem dX5_put_35 : decode cX5_put 35 = .ok (.aload_n 0, 1) := by decide +kernel
theorem dX5_put_36 : decode cX5_put 36 = .ok (.getfield 7, 3) := by decide +kernel
theorem dX5_put_39 : decode cX5_put 39 = .ok (.iload_n 1, 1) := by decide +kernel
theorem dX5_put_40 : decode cX5_put 40 = .ok (.iload_n 2, 1) := by decide +kernel
theorem dX5_put_41 : decode cX5_put 41 = .ok (.sipush 255, 3) := by decide +kernel
theorem dX5_put_44 : decode cX5_put 44 = .ok (.iand, 1) := by decide +kernel
theorem dX5_put_45 : decode cX5_put 45 = .ok (.iastore, 1) := by decide +kernel
theorem dX5_put_46 : decode cX5_put 46 = .ok (.return_, 1) := by decide +kernel
theorem dX5_number_0 : decode cX5_number 0 = .ok (.lconst 0, 1) := by decide +kernel
theorem dX5_number_1 : decode cX5_number 1 = .ok (.lstore_n 3, 1) := by decide +kernel
theorem dX5_number_2 : decode cX5_number 2 = .ok (.iconst 0, 1) := by decide +kernel
theorem dX5_number_3 : decode cX5_number 3 = .ok (.istore 5, 2) := by decide +kernel
theorem dX5_number_5 : decode cX5_number 5 = .ok (.iload 5, 2) := by decide +kernel
theorem dX5_number_7 : decode cX5_number 7 = .ok (.iload_n 2, 1) := by decide +kernel
theorem dX5_number_8 : decode cX5_number 8 = .ok (.if_icmp .ge 25, 3) := by decide +kernel
theorem dX5_number_11 : decode cX5_number 11 = .ok (.lload_n 3, 1) := by decide +kernel
theorem dX5_number_12 : decode cX5_number 12 = .ok (.bipush 8, 2) := by decide +kernel
theorem dX5_number_14 : decode cX5_number 14 = .ok (.lshl, 1) := by decide +kernel
theorem dX5_number_15 : decode cX5_number 15 = .ok (.aload_n 0, 1) := by decide +kernel
theorem dX5_number_16 : decode cX5_number 16 = .ok (.getfield 7, 3) := by decide +kernel
theorem dX5_number_19 : decode cX5_number 19 = .ok (.iload_n 1, 1) := by decide +kernel
theorem dX5_number_20 : decode cX5_number 20 = .ok (.iload 5, 2) := by decide +kernel
theorem dX5_number_22 : decode cX5_number 22 = .ok (.iadd, 1) := by decide +kernel
theorem dX5_number_23 : decode cX5_number 23 = .ok (.iaload, 1) := by decide +kernel
theorem dX5_number_24 : decode cX5_number 24 = .ok (.i2l, 1) := by decide +kernel
theorem dX5_number_25 : decode cX5_number 25 = .ok (.lor, 1) := by decide +kernel
theorem dX5_number_26 : decode cX5_number 26 = .ok (.lstore_n 3, 1) := by decide +kernel
theorem dX5_number_27 : decode cX5_number 27 = .ok (.iinc 5 1, 3) := by decide +kernel
theorem dX5_number_30 : decode cX5_number 30 = .ok (.goto (-25), 3) := by decide +kernel
theorem dX5_number_33 : decode cX5_number 33 = .ok (.lload_n 3, 1) := by decide +kernel
theorem dX5_number_34 : decode cX5_number 34 = .ok (.lreturn, 1) := by decide +kernel
theorem dX5_sum_0 : decode cX5_sum 0 = .ok (.lload_n 1, 1) := by decide +kernel
theorem dX5_sum_1 : decode cX5_sum 1 = .ok (.lstore 5, 2) := by decide +kernel
theorem dX5_sum_3 : decode cX5_sum 3 = .ok (.iconst 0, 1) := by decide +kernel
theorem dX5_sum_4 : decode cX5_sum 4 = .ok (.istore 7, 2) := by decide +kernel
theorem dX5_sum_6 : decode cX5_sum 6 = .ok (.iload 7, 2) := by decide +kernel
theorem dX5_sum_8 : decode cX5_sum 8 = .ok (.iload 4, 2) := by decide +kernel
theorem dX5_sum_10 : decode cX5_sum 10 = .ok (.if_icmp .ge 45, 3) := by decide +kernel
theorem dX5_sum_13 : decode cX5_sum 13 = .ok (.lload 5, 2) := by decide +kernel
theorem dX5_sum_15 : decode cX5_sum 15 = .ok (.aload_n 0, 1) := by decide +kernel
theorem dX5_sum_16 : decode cX5_sum 16 = .ok (.getfield 7, 3) := by decide +kernel
theorem dX5_sum_19 : decode cX5_sum 19 = .ok (.iload_n 3, 1) := by decide +kernel
theorem dX5_sum_20 : decode cX5_sum 20 = .ok (.iload 7, 2) := by decide +kernel
theorem dX5_sum_22 : decode cX5_sum 22 = .ok (.iadd, 1) := by decide +kernel
theorem dX5_sum_23 : decode cX5_sum 23 = .ok (.iaload, 1) := by decide +kernel
theorem dX5_sum_24 : decode cX5_sum 24 = .ok (.i2l, 1) := by decide +kernel
theorem dX5_sum_25 : decode cX5_sum 25 = .ok (.lxor, 1) := by decide +kernel
theorem dX5_sum_26 : decode cX5_sum 26 = .ok (.lstore 5, 2) := by decide +kernel
theorem dX5_sum_28 : decode cX5_sum 28 = .ok (.lload 5, 2) := by decide +kernel
theorem dX5_sum_30 : decode cX5_sum 30 = .ok (.bipush 29, 2) := by decide +kernel
theorem dX5_sum_32 : decode cX5_sum 32 = .ok (.lshl, 1) := by decide +kernel
theorem dX5_sum_33 : decode cX5_sum 33 = .ok (.lload 5, 2) := by decide +kernel
theorem dX5_sum_35 : decode cX5_sum 35 = .ok (.bipush 35, 2) := by decide +kernel
theorem dX5_sum_37 : decode cX5_sum 37 = .ok (.lushr, 1) := by decide +kernel
theorem dX5_sum_38 : decode cX5_sum 38 = .ok (.lor, 1) := by decide +kernel
theorem dX5_sum_39 : decode cX5_sum 39 = .ok (.lstore 5, 2) := by decide +kernel
theorem dX5_sum_41 : decode cX5_sum 41 = .ok (.lload 5, 2) := by decide +kernel
theorem dX5_sum_43 : decode cX5_sum 43 = .ok (.ldc2_w 116, 3) := by decide +kernel
theorem dX5_sum_46 : decode cX5_sum 46 = .ok (.lmul, 1) := by decide +kernel
theorem dX5_sum_47 : decode cX5_sum 47 = .ok (.lstore 5, 2) := by decide +kernel
theorem dX5_sum_49 : decode cX5_sum 49 = .ok (.iinc 7 1, 3) := by decide +kernel
theorem dX5_sum_52 : decode cX5_sum 52 = .ok (.goto (-46), 3) := by decide +kernel
theorem dX5_sum_55 : decode cX5_sum 55 = .ok (.lload 5, 2) := by decide +kernel
theorem dX5_sum_57 : decode cX5_sum 57 = .ok (.lreturn, 1) := by decide +kernel
theorem dX5_putNumber_0 : decode cX5_putNumber 0 = .ok (.iconst 0, 1) := by decide +kernel
theorem dX5_putNumber_1 : decode cX5_putNumber 1 = .ok (.istore 5, 2) := by decide +kernel
theorem dX5_putNumber_3 : decode cX5_putNumber 3 = .ok (.iload 5, 2) := by decide +kernel
theorem dX5_putNumber_5 : decode cX5_putNumber 5 = .ok (.iload 4, 2) := by decide +kernel
theorem dX5_putNumber_7 : decode cX5_putNumber 7 = .ok (.if_icmp .ge 34, 3) := by decide +kernel
theorem dX5_putNumber_10 : decode cX5_putNumber 10 = .ok (.aload_n 0, 1) := by decide +kernel
theorem dX5_putNumber_11 : decode cX5_putNumber 11 = .ok (.iload_n 1, 1) := by decide +kernel
theorem dX5_putNumber_12 : decode cX5_putNumber 12 = .ok (.iload 5, 2) := by decide +kernel
theorem dX5_putNumber_14 : decode cX5_putNumber 14 = .ok (.iadd, 1) := by decide +kernel
theorem dX5_putNumber_15 : decode cX5_putNumber 15 = .ok (.lload_n 2, 1) := by decide +kernel
theorem dX5_putNumber_16 : decode cX5_putNumber 16 = .ok (.bipush 8, 2) := by decide +kernel
theorem dX5_putNumber_18 : decode cX5_putNumber 18 = .ok (.iload 4, 2) := by decide +kernel
theorem dX5_putNumber_20 : decode cX5_putNumber 20 = .ok (.iconst 1, 1) := by decide +kernel
theorem dX5_putNumber_21 : decode cX5_putNumber 21 = .ok (.isub, 1) := by decide +kernel
theorem dX5_putNumber_22 : decode cX5_putNumber 22 = .ok (.iload 5, 2) := by decide +kernel
theorem dX5_putNumber_24 : decode cX5_putNumber 24 = .ok (.isub, 1) := by decide +kernel
theorem dX5_putNumber_25 : decode cX5_putNumber 25 = .ok (.imul, 1) := by decide +kernel
theorem dX5_putNumber_26 : decode cX5_putNumber 26 = .ok (.lshr, 1) := by decide +kernel
theorem dX5_putNumber_27 : decode cX5_putNumber 27 = .ok (.l2i, 1) := by decide +kernel
theorem dX5_putNumber_28 : decode cX5_putNumber 28 = .ok (.sipush 255, 3) := by decide +kernel
theorem dX5_putNumber_31 : decode cX5_putNumber 31 = .ok (.iand, 1) := by decide +kernel
theorem dX5_putNumber_32 : decode cX5_putNumber 32 = .ok (.invokevirtual 118, 3) := by decide +kernel
theorem dX5_putNumber_35 : decode cX5_putNumber 35 = .ok (.iinc 5 1, 3) := by decide +kernel
theorem dX5_putNumber_38 : decode cX5_putNumber 38 = .ok (.goto (-35), 3) := by decide +kernel
theorem dX5_putNumber_41 : decode cX5_putNumber 41 = .ok (.return_, 1) := by decide +kernel
theorem dX5_putHead_0 : decode cX5_putHead 0 = .ok (.iload_n 1, 1) := by decide +kernel
theorem dX5_putHead_1 : decode cX5_putHead 1 = .ok (.iconst 2, 1) := by decide +kernel
theorem dX5_putHead_2 : decode cX5_putHead 2 = .ok (.irem, 1) := by decide +kernel
theorem dX5_putHead_3 : decode cX5_putHead 3 = .ok (.ifCond .ne 7, 3) := by decide +kernel
theorem dX5_putHead_6 : decode cX5_putHead 6 = .ok (.iconst 0, 1) := by decide +kernel
theorem dX5_putHead_7 : decode cX5_putHead 7 = .ok (.goto 5, 3) := by decide +kernel
theorem dX5_putHead_10 : decode cX5_putHead 10 = .ok (.bipush 16, 2) := by decide +kernel
theorem dX5_putHead_12 : decode cX5_putHead 12 = .ok (.istore_n 2, 1) := by decide +kernel
theorem dX5_putHead_13 : decode cX5_putHead 13 = .ok (.aload_n 0, 1) := by decide +kernel
theorem dX5_putHead_14 : decode cX5_putHead 14 = .ok (.iload_n 2, 1) := by decide +kernel
theorem dX5_putHead_15 : decode cX5_putHead 15 = .ok (.iload_n 1, 1) := by decide +kernel
theorem dX5_putHead_16 : decode cX5_putHead 16 = .ok (.i2l, 1) := by decide +kernel
theorem dX5_putHead_17 : decode cX5_putHead 17 = .ok (.iconst 4, 1) := by decide +kernel
theorem dX5_putHead_18 : decode cX5_putHead 18 = .ok (.invokevirtual 122, 3) := by decide +kernel
theorem dX5_putHead_21 : decode cX5_putHead 21 = .ok (.aload_n 0, 1) := by decide +kernel
theorem dX5_putHead_22 : decode cX5_putHead 22 = .ok (.iload_n 2, 1) := by decide +kernel
theorem dX5_putHead_23 : decode cX5_putHead 23 = .ok (.iconst 4, 1) := by decide +kernel
theorem dX5_putHead_24 : decode cX5_putHead 24 = .ok (.iadd, 1) := by decide +kernel
theorem dX5_putHead_25 : decode cX5_putHead 25 = .ok (.aload_n 0, 1) := by decide +kernel
theorem dX5_putHead_26 : decode cX5_putHead 26 = .ok (.getfield 98, 3) := by decide +kernel
theorem dX5_putHead_29 : decode cX5_putHead 29 = .ok (.i2l, 1) := by decide +kernel
theorem dX5_putHead_30 : decode cX5_putHead 30 = .ok (.iconst 4, 1) := by decide +kernel
theorem dX5_putHead_31 : decode cX5_putHead 31 = .ok (.invokevirtual 122, 3) := by decide +kernel
theorem dX5_putHead_34 : decode cX5_putHead 34 = .ok (.aload_n 0, 1) := by decide +kernel
theorem dX5_putHead_35 : decode cX5_putHead 35 = .ok (.iload_n 2, 1) := by decide +kernel
theorem dX5_putHead_36 : decode cX5_putHead 36 = .ok (.bipush 8, 2) := by decide +kernel
theorem dX5_putHead_38 : decode cX5_putHead 38 = .ok (.iadd, 1) := by decide +kernel
theorem dX5_putHead_39 : decode cX5_putHead 39 = .ok (.aload_n 0, 1) := by decide +kernel
theorem dX5_putHead_40 : decode cX5_putHead 40 = .ok (.lconst 1, 1) := by decide +kernel
theorem dX5_putHead_41 : decode cX5_putHead 41 = .ok (.iload_n 2, 1) := by decide +kernel
theorem dX5_putHead_42 : decode cX5_putHead 42 = .ok (.bipush 8, 2) := by decide +kernel
theorem dX5_putHead_44 : decode cX5_putHead 44 = .ok (.invokevirtual 126, 3) := by decide +kernel
theorem dX5_putHead_47 : decode cX5_putHead 47 = .ok (.bipush 8, 2) := by decide +kernel
theorem dX5_putHead_49 : decode cX5_putHead 49 = .ok (.invokevirtual 122, 3) := by decide +kernel
theorem dX5_putHead_52 : decode cX5_putHead 52 = .ok (.return_, 1) := by decide +kernel
theorem dX5_begin__0 : decode cX5_begin_ 0 = .ok (.bipush 32, 2) := by decide +kernel
theorem dX5_begin__2 : decode cX5_begin_ 2 = .ok (.aload_n 0, 1) := by decide +kernel
theorem dX5_begin__3 : decode cX5_begin_ 3 = .ok (.getfield 98, 3) := by decide +kernel
theorem dX5_begin__6 : decode cX5_begin_ 6 = .ok (.iadd, 1) := by decide +kernel
theorem dX5_begin__7 : decode cX5_begin_ 7 = .ok (.istore 4, 2) := by decide +kernel
theorem dX5_begin__9 : decode cX5_begin_ 9 = .ok (.aload_n 0, 1) := by decide +kernel
theorem dX5_begin__10 : decode cX5_begin_ 10 = .ok (.iload 4, 2) := by decide +kernel
theorem dX5_begin__12 : decode cX5_begin_ 12 = .ok (.iload_n 1, 1) := by decide +kernel
theorem dX5_begin__13 : decode cX5_begin_ 13 = .ok (.invokevirtual 118, 3) := by decide +kernel
theorem dX5_begin__16 : decode cX5_begin_ 16 = .ok (.aload_n 0, 1) := by decide +kernel
theorem dX5_begin__17 : decode cX5_begin_ 17 = .ok (.iload 4, 2) := by decide +kernel
theorem dX5_begin__19 : decode cX5_begin_ 19 = .ok (.iconst 1, 1) := by decide +kernel
theorem dX5_begin__20 : decode cX5_begin_ 20 = .ok (.iadd, 1) := by decide +kernel
theorem dX5_begin__21 : decode cX5_begin_ 21 = .ok (.iload_n 2, 1) := by decide +kernel
theorem dX5_begin__22 : decode cX5_begin_ 22 = .ok (.i2l, 1) := by decide +kernel
theorem dX5_begin__23 : decode cX5_begin_ 23 = .ok (.iconst 2, 1) := by decide +kernel
theorem dX5_begin__24 : decode cX5_begin_ 24 = .ok (.invokevirtual 122, 3) := by decide +kernel
theorem dX5_begin__27 : decode cX5_begin_ 27 = .ok (.aload_n 0, 1) := by decide +kernel
theorem dX5_begin__28 : decode cX5_begin_ 28 = .ok (.iload 4, 2) := by decide +kernel
theorem dX5_begin__30 : decode cX5_begin_ 30 = .ok (.iconst 3, 1) := by decide +kernel
theorem dX5_begin__31 : decode cX5_begin_ 31 = .ok (.iadd, 1) := by decide +kernel
theorem dX5_begin__32 : decode cX5_begin_ 32 = .ok (.iload_n 3, 1) := by decide +kernel
theorem dX5_begin__33 : decode cX5_begin_ 33 = .ok (.invokevirtual 118, 3) := by decide +kernel
theorem dX5_begin__36 : decode cX5_begin_ 36 = .ok (.iload 4, 2) := by decide +kernel
theorem dX5_begin__38 : decode cX5_begin_ 38 = .ok (.iconst 4, 1) := by decide +kernel
theorem dX5_begin__39 : decode cX5_begin_ 39 = .ok (.iadd, 1) := by decide +kernel
theorem dX5_begin__40 : decode cX5_begin_ 40 = .ok (.ireturn, 1) := by decide +kernel
theorem dX5_end_0 : decode cX5_end 0 = .ok (.bipush 32, 2) := by decide +kernel
theorem dX5_end_2 : decode cX5_end 2 = .ok (.aload_n 0, 1) := by decide +kernel
theorem dX5_end_3 : decode cX5_end 3 = .ok (.getfield 98, 3) := by decide +kernel
theorem dX5_end_6 : decode cX5_end 6 = .ok (.iadd, 1) := by decide +kernel
theorem dX5_end_7 : decode cX5_end 7 = .ok (.istore_n 2, 1) := by decide +kernel
theorem dX5_end_8 : decode cX5_end 8 = .ok (.aload_n 0, 1) := by decide +kernel
theorem dX5_end_9 : decode cX5_end 9 = .ok (.iload_n 2, 1) := by decide +kernel
theorem dX5_end_10 : decode cX5_end 10 = .ok (.iconst 4, 1) := by decide +kernel
theorem dX5_end_11 : decode cX5_end 11 = .ok (.iadd, 1) := by decide +kernel
theorem dX5_end_12 : decode cX5_end 12 = .ok (.iload_n 1, 1) := by decide +kernel
theorem dX5_end_13 : decode cX5_end 13 = .ok (.iadd, 1) := by decide +kernel
theorem dX5_end_14 : decode cX5_end 14 = .ok (.aload_n 0, 1) := by decide +kernel
theorem dX5_end_15 : decode cX5_end 15 = .ok (.iload_n 2, 1) := by decide +kernel
theorem dX5_end_16 : decode cX5_end 16 = .ok (.i2l, 1) := by decide +kernel
theorem dX5_end_17 : decode cX5_end 17 = .ok (.iload_n 2, 1) := by decide +kernel
theorem dX5_end_18 : decode cX5_end 18 = .ok (.iconst 4, 1) := by decide +kernel
theorem dX5_end_19 : decode cX5_end 19 = .ok (.iload_n 1, 1) := by decide +kernel
theorem dX5_end_20 : decode cX5_end 20 = .ok (.iadd, 1) := by decide +kernel
theorem dX5_end_21 : decode cX5_end 21 = .ok (.invokevirtual 126, 3) := by decide +kernel
theorem dX5_end_24 : decode cX5_end 24 = .ok (.bipush 8, 2) := by decide +kernel
theorem dX5_end_26 : decode cX5_end 26 = .ok (.invokevirtual 122, 3) := by decide +kernel
theorem dX5_end_29 : decode cX5_end 29 = .ok (.aload_n 0, 1) := by decide +kernel
theorem dX5_end_30 : decode cX5_end 30 = .ok (.iload_n 2, 1) := by decide +kernel
theorem dX5_end_31 : decode cX5_end 31 = .ok (.iload_n 1, 1) := by decide +kernel
theorem dX5_end_32 : decode cX5_end 32 = .ok (.invokevirtual 130, 3) := by decide +kernel
theorem dX5_end_35 : decode cX5_end 35 = .ok (.return_, 1) := by decide +kernel
theorem dX5_sizeOf_0 : decode cX5_sizeOf 0 = .ok (.iload_n 0, 1) := by decide +kernel
theorem dX5_sizeOf_1 : decode cX5_sizeOf 1 = .ok (.iconst 1, 1) := by decide +kernel
theorem dX5_sizeOf_2 : decode cX5_sizeOf 2 = .ok (.if_icmp .ne 8, 3) := by decide +kernel
theorem dX5_sizeOf_5 : decode cX5_sizeOf 5 = .ok (.bipush 64, 2) := by decide +kernel
theorem dX5_sizeOf_7 : decode cX5_sizeOf 7 = .ok (.goto 33, 3) := by decide +kernel
theorem dX5_sizeOf_10 : decode cX5_sizeOf 10 = .ok (.iload_n 0, 1) := by decide +kernel
theorem dX5_sizeOf_11 : decode cX5_sizeOf 11 = .ok (.iconst 2, 1) := by decide +kernel
theorem dX5_sizeOf_12 : decode cX5_sizeOf 12 = .ok (.if_icmp .ne 7, 3) := by decide +kernel
theorem dX5_sizeOf_15 : decode cX5_sizeOf 15 = .ok (.iconst 3, 1) := by decide +kernel
theorem dX5_sizeOf_16 : decode cX5_sizeOf 16 = .ok (.goto 24, 3) := by decide +kernel
theorem dX5_sizeOf_19 : decode cX5_sizeOf 19 = .ok (.iload_n 0, 1) := by decide +kernel
theorem dX5_sizeOf_20 : decode cX5_sizeOf 20 = .ok (.iconst 3, 1) := by decide +kernel
theorem dX5_sizeOf_21 : decode cX5_sizeOf 21 = .ok (.if_icmp .ne 8, 3) := by decide +kernel
theorem dX5_sizeOf_24 : decode cX5_sizeOf 24 = .ok (.bipush 16, 2) := by decide +kernel
theorem dX5_sizeOf_26 : decode cX5_sizeOf 26 = .ok (.goto 14, 3) := by decide +kernel
theorem dX5_sizeOf_29 : decode cX5_sizeOf 29 = .ok (.iload_n 0, 1) := by decide +kernel
theorem dX5_sizeOf_30 : decode cX5_sizeOf 30 = .ok (.iconst 4, 1) := by decide +kernel
theorem dX5_sizeOf_31 : decode cX5_sizeOf 31 = .ok (.if_icmp .ne 8, 3) := by decide +kernel
theorem dX5_sizeOf_34 : decode cX5_sizeOf 34 = .ok (.bipush 10, 2) := by decide +kernel
theorem dX5_sizeOf_36 : decode cX5_sizeOf 36 = .ok (.goto 4, 3) := by decide +kernel
theorem dX5_sizeOf_39 : decode cX5_sizeOf 39 = .ok (.iconst 0, 1) := by decide +kernel
theorem dX5_sizeOf_40 : decode cX5_sizeOf 40 = .ok (.ireturn, 1) := by decide +kernel
theorem dX5_isThere_0 : decode cX5_isThere 0 = .ok (.iload_n 1, 1) := by decide +kernel
theorem dX5_isThere_1 : decode cX5_isThere 1 = .ok (.iconst 0, 1) := by decide +kernel
theorem dX5_isThere_2 : decode cX5_isThere 2 = .ok (.aload_n 0, 1) := by decide +kernel
theorem dX5_isThere_3 : decode cX5_isThere 3 = .ok (.getfield 110, 3) := by decide +kernel
theorem dX5_isThere_6 : decode cX5_isThere 6 = .ok (.iconst 1, 1) := by decide +kernel
theorem dX5_isThere_7 : decode cX5_isThere 7 = .ok (.isub, 1) := by decide +kernel
theorem dX5_isThere_8 : decode cX5_isThere 8 = .ok (.invokestatic 133, 3) := by decide +kernel
theorem dX5_isThere_11 : decode cX5_isThere 11 = .ok (.ifCond .eq 16, 3) := by decide +kernel
theorem dX5_isThere_14 : decode cX5_isThere 14 = .ok (.aload_n 0, 1) := by decide +kernel
theorem dX5_isThere_15 : decode cX5_isThere 15 = .ok (.getfield 31, 3) := by decide +kernel
theorem dX5_isThere_18 : decode cX5_isThere 18 = .ok (.iload_n 1, 1) := by decide +kernel
theorem dX5_isThere_19 : decode cX5_isThere 19 = .ok (.baload, 1) := by decide +kernel
theorem dX5_isThere_20 : decode cX5_isThere 20 = .ok (.ifCond .eq 7, 3) := by decide +kernel
theorem dX5_isThere_23 : decode cX5_isThere 23 = .ok (.iconst 1, 1) := by decide +kernel
theorem dX5_isThere_24 : decode cX5_isThere 24 = .ok (.goto 4, 3) := by decide +kernel
theorem dX5_isThere_27 : decode cX5_isThere 27 = .ok (.iconst 0, 1) := by decide +kernel
theorem dX5_isThere_28 : decode cX5_isThere 28 = .ok (.ireturn, 1) := by decide +kernel
theorem dX5_namedBy_0 : decode cX5_namedBy 0 = .ok (.iconst 0, 1) := by decide +kernel
theorem dX5_namedBy_1 : decode cX5_namedBy 1 = .ok (.istore_n 2, 1) := by decide +kernel
theorem dX5_namedBy_2 : decode cX5_namedBy 2 = .ok (.iconst 0, 1) := by decide +kernel
theorem dX5_namedBy_3 : decode cX5_namedBy 3 = .ok (.istore_n 3, 1) := by decide +kernel
theorem dX5_namedBy_4 : decode cX5_namedBy 4 = .ok (.iload_n 3, 1) := by decide +kernel
theorem dX5_namedBy_5 : decode cX5_namedBy 5 = .ok (.aload_n 0, 1) := by decide +kernel
theorem dX5_namedBy_6 : decode cX5_namedBy 6 = .ok (.getfield 110, 3) := by decide +kernel
theorem dX5_namedBy_9 : decode cX5_namedBy 9 = .ok (.if_icmp .ge 78, 3) := by decide +kernel
theorem dX5_namedBy_12 : decode cX5_namedBy 12 = .ok (.iconst 0, 1) := by decide +kernel
theorem dX5_namedBy_13 : decode cX5_namedBy 13 = .ok (.istore 4, 2) := by decide +kernel
theorem dX5_namedBy_15 : decode cX5_namedBy 15 = .ok (.iconst 0, 1) := by decide +kernel
theorem dX5_namedBy_16 : decode cX5_namedBy 16 = .ok (.istore 5, 2) := by decide +kernel
theorem dX5_namedBy_18 : decode cX5_namedBy 18 = .ok (.iload 5, 2) := by decide +kernel
theorem dX5_namedBy_20 : decode cX5_namedBy 20 = .ok (.bipush 8, 2) := by decide +kernel
theorem dX5_namedBy_22 : decode cX5_namedBy 22 = .ok (.if_icmp .ge 46, 3) := by decide +kernel
theorem dX5_namedBy_25 : decode cX5_namedBy 25 = .ok (.iload 4, 2) := by decide +kernel
theorem dX5_namedBy_27 : decode cX5_namedBy 27 = .ok (.ifCond .ne 28, 3) := by decide +kernel
theorem dX5_namedBy_30 : decode cX5_namedBy 30 = .ok (.aload_n 0, 1) := by decide +kernel
theorem dX5_namedBy_31 : decode cX5_namedBy 31 = .ok (.getfield 31, 3) := by decide +kernel
theorem dX5_namedBy_34 : decode cX5_namedBy 34 = .ok (.iload_n 3, 1) := by decide +kernel
theorem dX5_namedBy_35 : decode cX5_namedBy 35 = .ok (.baload, 1) := by decide +kernel
theorem dX5_namedBy_36 : decode cX5_namedBy 36 = .ok (.ifCond .eq 23, 3) := by decide +kernel
theorem dX5_namedBy_39 : decode cX5_namedBy 39 = .ok (.aload_n 0, 1) := by decide +kernel
theorem dX5_namedBy_40 : decode cX5_namedBy 40 = .ok (.getfield 35, 3) := by decide +kernel
theorem dX5_namedBy_43 : decode cX5_namedBy 43 = .ok (.bipush 8, 2) := by decide +kernel
theorem dX5_namedBy_45 : decode cX5_namedBy 45 = .ok (.iload_n 3, 1) := by decide +kernel
theorem dX5_namedBy_46 : decode cX5_namedBy 46 = .ok (.imul, 1) := by decide +kernel
theorem dX5_namedBy_47 : decode cX5_namedBy 47 = .ok (.iload 5, 2) := by decide +kernel
theorem dX5_namedBy_49 : decode cX5_namedBy 49 = .ok (.iadd, 1) := by decide +kernel
theorem dX5_namedBy_50 : decode cX5_namedBy 50 = .ok (.iaload, 1) := by decide +kernel
theorem dX5_namedBy_51 : decode cX5_namedBy 51 = .ok (.iload_n 1, 1) := by decide +kernel
theorem dX5_namedBy_52 : decode cX5_namedBy 52 = .ok (.if_icmp .ne 7, 3) := by decide +kernel
theorem dX5_namedBy_55 : decode cX5_namedBy 55 = .ok (.iconst 1, 1) := by decide +kernel
theorem dX5_namedBy_56 : decode cX5_namedBy 56 = .ok (.goto 4, 3) := by decide +kernel
theorem dX5_namedBy_59 : decode cX5_namedBy 59 = .ok (.iconst 0, 1) := by decide +kernel
theorem dX5_namedBy_60 : decode cX5_namedBy 60 = .ok (.istore 4, 2) := by decide +kernel
theorem dX5_namedBy_62 : decode cX5_namedBy 62 = .ok (.iinc 5 1, 3) := by decide +kernel
theorem dX5_namedBy_65 : decode cX5_namedBy 65 = .ok (.goto (-47), 3) := by decide +kernel
theorem dX5_namedBy_68 : decode cX5_namedBy 68 = .ok (.iload_n 2, 1) := by decide +kernel
theorem dX5_namedBy_69 : decode cX5_namedBy 69 = .ok (.iload 4, 2) := by decide +kernel
theorem dX5_namedBy_71 : decode cX5_namedBy 71 = .ok (.ifCond .eq 7, 3) := by decide +kernel
theorem dX5_namedBy_74 : decode cX5_namedBy 74 = .ok (.iconst 1, 1) := by decide +kernel
theorem dX5_namedBy_75 : decode cX5_namedBy 75 = .ok (.goto 4, 3) := by decide +kernel
theorem dX5_namedBy_78 : decode cX5_namedBy 78 = .ok (.iconst 0, 1) := by decide +kernel
theorem dX5_namedBy_79 : decode cX5_namedBy 79 = .ok (.iadd, 1) := by decide +kernel
theorem dX5_namedBy_80 : decode cX5_namedBy 80 = .ok (.istore_n 2, 1) := by decide +kernel
theorem dX5_namedBy_81 : decode cX5_namedBy 81 = .ok (.iinc 3 1, 3) := by decide +kernel
theorem dX5_namedBy_84 : decode cX5_namedBy 84 = .ok (.goto (-80), 3) := by decide +kernel
theorem dX5_namedBy_87 : decode cX5_namedBy 87 = .ok (.iload_n 2, 1) := by decide +kernel
theorem dX5_namedBy_88 : decode cX5_namedBy 88 = .ok (.ireturn, 1) := by decide +kernel
theorem dX5_hasNow_0 : decode cX5_hasNow 0 = .ok (.aload_n 0, 1) := by decide +kernel
theorem dX5_hasNow_1 : decode cX5_hasNow 1 = .ok (.getfield 20, 3) := by decide +kernel
theorem dX5_hasNow_4 : decode cX5_hasNow 4 = .ok (.iload_n 1, 1) := by decide +kernel
theorem dX5_hasNow_5 : decode cX5_hasNow 5 = .ok (.laload, 1) := by decide +kernel
theorem dX5_hasNow_6 : decode cX5_hasNow 6 = .ok (.iload_n 2, 1) := by decide +kernel
theorem dX5_hasNow_7 : decode cX5_hasNow 7 = .ok (.lushr, 1) := by decide +kernel
theorem dX5_hasNow_8 : decode cX5_hasNow 8 = .ok (.lconst 1, 1) := by decide +kernel
theorem dX5_hasNow_9 : decode cX5_hasNow 9 = .ok (.land, 1) := by decide +kernel
theorem dX5_hasNow_10 : decode cX5_hasNow 10 = .ok (.lconst 1, 1) := by decide +kernel
theorem dX5_hasNow_11 : decode cX5_hasNow 11 = .ok (.lcmp, 1) := by decide +kernel
theorem dX5_hasNow_12 : decode cX5_hasNow 12 = .ok (.ifCond .ne 7, 3) := by decide +kernel
theorem dX5_hasNow_15 : decode cX5_hasNow 15 = .ok (.iconst 1, 1) := by decide +kernel
theorem dX5_hasNow_16 : decode cX5_hasNow 16 = .ok (.goto 4, 3) := by decide +kernel
theorem dX5_hasNow_19 : decode cX5_hasNow 19 = .ok (.iconst 0, 1) := by decide +kernel
theorem dX5_hasNow_20 : decode cX5_hasNow 20 = .ok (.ireturn, 1) := by decide +kernel
theorem dX5_isRight_0 : decode cX5_isRight 0 = .ok (.iload_n 2, 1) := by decide +kernel
theorem dX5_isRight_1 : decode cX5_isRight 1 = .ok (.iload_n 1, 1) := by decide +kernel
theorem dX5_isRight_2 : decode cX5_isRight 2 = .ok (.isub, 1) := by decide +kernel
theorem dX5_isRight_3 : decode cX5_isRight 3 = .ok (.bipush 12, 2) := by decide +kernel
theorem dX5_isRight_5 : decode cX5_isRight 5 = .ok (.if_icmp .ge 5, 3) := by decide +kernel
theorem dX5_isRight_8 : decode cX5_isRight 8 = .ok (.iconst 0, 1) := by decide +kernel
theorem dX5_isRight_9 : decode cX5_isRight 9 = .ok (.ireturn, 1) := by decide +kernel
theorem dX5_isRight_10 : decode cX5_isRight 10 = .ok (.aload_n 0, 1) := by decide +kernel
theorem dX5_isRight_11 : decode cX5_isRight 11 = .ok (.getfield 7, 3) := by decide +kernel
theorem dX5_isRight_14 : decode cX5_isRight 14 = .ok (.iload_n 1, 1) := by decide +kernel
theorem dX5_isRight_15 : decode cX5_isRight 15 = .ok (.iaload, 1) := by decide +kernel
theorem dX5_isRight_16 : decode cX5_isRight 16 = .ok (.istore_n 3, 1) := by decide +kernel
theorem dX5_isRight_17 : decode cX5_isRight 17 = .ok (.aload_n 0, 1) := by decide +kernel
theorem dX5_isRight_18 : decode cX5_isRight 18 = .ok (.iload_n 1, 1) := by decide +kernel
theorem dX5_isRight_19 : decode cX5_isRight 19 = .ok (.iconst 1, 1) := by decide +kernel
theorem dX5_isRight_20 : decode cX5_isRight 20 = .ok (.iadd, 1) := by decide +kernel
theorem dX5_isRight_21 : decode cX5_isRight 21 = .ok (.iconst 2, 1) := by decide +kernel
theorem dX5_isRight_22 : decode cX5_isRight 22 = .ok (.invokevirtual 137, 3) := by decide +kernel
theorem dX5_isRight_25 : decode cX5_isRight 25 = .ok (.l2i, 1) := by decide +kernel
theorem dX5_isRight_26 : decode cX5_isRight 26 = .ok (.istore 4, 2) := by decide +kernel
theorem dX5_isRight_28 : decode cX5_isRight 28 = .ok (.aload_n 0, 1) := by decide +kernel
theorem dX5_isRight_29 : decode cX5_isRight 29 = .ok (.getfield 7, 3) := by decide +kernel
theorem dX5_isRight_32 : decode cX5_isRight 32 = .ok (.iload_n 1, 1) := by decide +kernel
theorem dX5_isRight_33 : decode cX5_isRight 33 = .ok (.iconst 3, 1) := by decide +kernel
theorem dX5_isRight_34 : decode cX5_isRight 34 = .ok (.iadd, 1) := by decide +kernel
theorem dX5_isRight_35 : decode cX5_isRight 35 = .ok (.iaload, 1) := by decide +kernel
theorem dX5_isRight_36 : decode cX5_isRight 36 = .ok (.istore 5, 2) := by decide +kernel
theorem dX5_isRight_38 : decode cX5_isRight 38 = .ok (.iload_n 3, 1) := by decide +kernel
theorem dX5_isRight_39 : decode cX5_isRight 39 = .ok (.iconst 1, 1) := by decide +kernel
theorem dX5_isRight_40 : decode cX5_isRight 40 = .ok (.iconst 5, 1) := by decide +kernel
theorem dX5_isRight_41 : decode cX5_isRight 41 = .ok (.invokestatic 133, 3) := by decide +kernel
theorem dX5_isRight_44 : decode cX5_isRight 44 = .ok (.ifCond .eq 23, 3) := by decide +kernel
theorem dX5_isRight_47 : decode cX5_isRight 47 = .ok (.iload 5, 2) := by decide +kernel
theorem dX5_isRight_49 : decode cX5_isRight 49 = .ok (.iload_n 3, 1) := by decide +kernel
theorem dX5_isRight_50 : decode cX5_isRight 50 = .ok (.invokestatic 141, 3) := by decide +kernel
theorem dX5_isRight_53 : decode cX5_isRight 53 = .ok (.if_icmp .ne 14, 3) := by decide +kernel
theorem dX5_isRight_56 : decode cX5_isRight 56 = .ok (.iload_n 1, 1) := by decide +kernel
theorem dX5_isRight_57 : decode cX5_isRight 57 = .ok (.bipush 12, 2) := by decide +kernel
theorem dX5_isRight_59 : decode cX5_isRight 59 = .ok (.iadd, 1) := by decide +kernel
theorem dX5_isRight_60 : decode cX5_isRight 60 = .ok (.iload 5, 2) := by decide +kernel
theorem dX5_isRight_62 : decode cX5_isRight 62 = .ok (.iadd, 1) := by decide +kernel
theorem dX5_isRight_63 : decode cX5_isRight 63 = .ok (.iload_n 2, 1) := by decide +kernel
theorem dX5_isRight_64 : decode cX5_isRight 64 = .ok (.if_icmp .le 5, 3) := by decide +kernel
theorem dX5_isRight_67 : decode cX5_isRight 67 = .ok (.iconst 0, 1) := by decide +kernel
theorem dX5_isRight_68 : decode cX5_isRight 68 = .ok (.ireturn, 1) := by decide +kernel
theorem dX5_isRight_69 : decode cX5_isRight 69 = .ok (.aload_n 0, 1) := by decide +kernel
theorem dX5_isRight_70 : decode cX5_isRight 70 = .ok (.iload_n 1, 1) := by decide +kernel
theorem dX5_isRight_71 : decode cX5_isRight 71 = .ok (.iconst 4, 1) := by decide +kernel
theorem dX5_isRight_72 : decode cX5_isRight 72 = .ok (.iadd, 1) := by decide +kernel
theorem dX5_isRight_73 : decode cX5_isRight 73 = .ok (.iload 5, 2) := by decide +kernel
theorem dX5_isRight_75 : decode cX5_isRight 75 = .ok (.iadd, 1) := by decide +kernel
theorem dX5_isRight_76 : decode cX5_isRight 76 = .ok (.bipush 8, 2) := by decide +kernel
theorem dX5_isRight_78 : decode cX5_isRight 78 = .ok (.invokevirtual 137, 3) := by decide +kernel
theorem dX5_isRight_81 : decode cX5_isRight 81 = .ok (.aload_n 0, 1) := by decide +kernel
theorem dX5_isRight_82 : decode cX5_isRight 82 = .ok (.iload_n 1, 1) := by decide +kernel
theorem dX5_isRight_83 : decode cX5_isRight 83 = .ok (.i2l, 1) := by decide +kernel
theorem dX5_isRight_84 : decode cX5_isRight 84 = .ok (.iload_n 1, 1) := by decide +kernel
theorem dX5_isRight_85 : decode cX5_isRight 85 = .ok (.iconst 4, 1) := by decide +kernel
theorem dX5_isRight_86 : decode cX5_isRight 86 = .ok (.iload 5, 2) := by decide +kernel
theorem dX5_isRight_88 : decode cX5_isRight 88 = .ok (.iadd, 1) := by decide +kernel
theorem dX5_isRight_89 : decode cX5_isRight 89 = .ok (.invokevirtual 126, 3) := by decide +kernel
theorem dX5_isRight_92 : decode cX5_isRight 92 = .ok (.lcmp, 1) := by decide +kernel
theorem dX5_isRight_93 : decode cX5_isRight 93 = .ok (.ifCond .eq 5, 3) := by decide +kernel
theorem dX5_isRight_96 : decode cX5_isRight 96 = .ok (.iconst 0, 1) := by decide +kernel
theorem dX5_isRight_97 : decode cX5_isRight 97 = .ok (.ireturn, 1) := by decide +kernel
theorem dX5_isRight_98 : decode cX5_isRight 98 = .ok (.iload_n 1, 1) := by decide +kernel
theorem dX5_isRight_99 : decode cX5_isRight 99 = .ok (.iconst 4, 1) := by decide +kernel
theorem dX5_isRight_100 : decode cX5_isRight 100 = .ok (.iadd, 1) := by decide +kernel
theorem dX5_isRight_101 : decode cX5_isRight 101 = .ok (.istore 6, 2) := by decide +kernel
theorem dX5_isRight_103 : decode cX5_isRight 103 = .ok (.iload_n 3, 1) := by decide +kernel
theorem dX5_isRight_104 : decode cX5_isRight 104 = .ok (.iconst 1, 1) := by decide +kernel
theorem dX5_isRight_105 : decode cX5_isRight 105 = .ok (.if_icmp .ne 27, 3) := by decide +kernel
theorem dX5_isRight_108 : decode cX5_isRight 108 = .ok (.iload 4, 2) := by decide +kernel
theorem dX5_isRight_110 : decode cX5_isRight 110 = .ok (.aload_n 0, 1) := by decide +kernel
theorem dX5_isRight_111 : decode cX5_isRight 111 = .ok (.getfield 79, 3) := by decide +kernel
theorem dX5_isRight_114 : decode cX5_isRight 114 = .ok (.if_icmp .ge 16, 3) := by decide +kernel
theorem dX5_isRight_117 : decode cX5_isRight 117 = .ok (.aload_n 0, 1) := by decide +kernel
theorem dX5_isRight_118 : decode cX5_isRight 118 = .ok (.iload 4, 2) := by decide +kernel
theorem dX5_isRight_120 : decode cX5_isRight 120 = .ok (.invokevirtual 145, 3) := by decide +kernel
theorem dX5_isRight_123 : decode cX5_isRight 123 = .ok (.ifCond .ne 7, 3) := by decide +kernel
theorem dX5_isRight_126 : decode cX5_isRight 126 = .ok (.iconst 1, 1) := by decide +kernel
theorem dX5_isRight_127 : decode cX5_isRight 127 = .ok (.goto 4, 3) := by decide +kernel
theorem dX5_isRight_130 : decode cX5_isRight 130 = .ok (.iconst 0, 1) := by decide +kernel
theorem dX5_isRight_131 : decode cX5_isRight 131 = .ok (.ireturn, 1) := by decide +kernel
theorem dX5_isRight_132 : decode cX5_isRight 132 = .ok (.iload_n 3, 1) := by decide +kernel
theorem dX5_isRight_133 : decode cX5_isRight 133 = .ok (.iconst 2, 1) := by decide +kernel
theorem dX5_isRight_134 : decode cX5_isRight 134 = .ok (.if_icmp .ne 98, 3) := by decide +kernel
theorem dX5_isRight_137 : decode cX5_isRight 137 = .ok (.iload 4, 2) := by decide +kernel
theorem dX5_isRight_139 : decode cX5_isRight 139 = .ok (.aload_n 0, 1) := by decide +kernel
theorem dX5_isRight_140 : decode cX5_isRight 140 = .ok (.getfield 104, 3) := by decide +kernel
theorem dX5_isRight_143 : decode cX5_isRight 143 = .ok (.if_icmp .ne 87, 3) := by decide +kernel
theorem dX5_isRight_146 : decode cX5_isRight 146 = .ok (.aload_n 0, 1) := by decide +kernel
theorem dX5_isRight_147 : decode cX5_isRight 147 = .ok (.getfield 7, 3) := by decide +kernel
theorem dX5_isRight_150 : decode cX5_isRight 150 = .ok (.iload 6, 2) := by decide +kernel
theorem dX5_isRight_152 : decode cX5_isRight 152 = .ok (.iaload, 1) := by decide +kernel
theorem dX5_isRight_153 : decode cX5_isRight 153 = .ok (.bipush 64, 2) := by decide +kernel
theorem dX5_isRight_155 : decode cX5_isRight 155 = .ok (.if_icmp .ge 75, 3) := by decide +kernel
theorem dX5_isRight_158 : decode cX5_isRight 158 = .ok (.aload_n 0, 1) := by decide +kernel
theorem dX5_isRight_159 : decode cX5_isRight 159 = .ok (.getfield 7, 3) := by decide +kernel
theorem dX5_isRight_162 : decode cX5_isRight 162 = .ok (.iload 6, 2) := by decide +kernel
theorem dX5_isRight_164 : decode cX5_isRight 164 = .ok (.iconst 1, 1) := by decide +kernel
theorem dX5_isRight_165 : decode cX5_isRight 165 = .ok (.iadd, 1) := by decide +kernel
theorem dX5_isRight_166 : decode cX5_isRight 166 = .ok (.iaload, 1) := by decide +kernel
theorem dX5_isRight_167 : decode cX5_isRight 167 = .ok (.bipush 64, 2) := by decide +kernel
theorem dX5_isRight_169 : decode cX5_isRight 169 = .ok (.if_icmp .ge 61, 3) := by decide +kernel
theorem dX5_isRight_172 : decode cX5_isRight 172 = .ok (.aload_n 0, 1) := by decide +kernel
theorem dX5_isRight_173 : decode cX5_isRight 173 = .ok (.getfield 7, 3) := by decide +kernel
theorem dX5_isRight_176 : decode cX5_isRight 176 = .ok (.iload 6, 2) := by decide +kernel
theorem dX5_isRight_178 : decode cX5_isRight 178 = .ok (.iconst 2, 1) := by decide +kernel
theorem dX5_isRight_179 : decode cX5_isRight 179 = .ok (.iadd, 1) := by decide +kernel
theorem dX5_isRight_180 : decode cX5_isRight 180 = .ok (.iaload, 1) := by decide +kernel
theorem dX5_isRight_181 : decode cX5_isRight 181 = .ok (.iconst 2, 1) := by decide +kernel
theorem dX5_isRight_182 : decode cX5_isRight 182 = .ok (.if_icmp .ge 48, 3) := by decide +kernel
theorem dX5_isRight_185 : decode cX5_isRight 185 = .ok (.aload_n 0, 1) := by decide +kernel
theorem dX5_isRight_186 : decode cX5_isRight 186 = .ok (.aload_n 0, 1) := by decide +kernel
theorem dX5_isRight_187 : decode cX5_isRight 187 = .ok (.getfield 7, 3) := by decide +kernel
theorem dX5_isRight_190 : decode cX5_isRight 190 = .ok (.iload 6, 2) := by decide +kernel
theorem dX5_isRight_192 : decode cX5_isRight 192 = .ok (.iaload, 1) := by decide +kernel
theorem dX5_isRight_193 : decode cX5_isRight 193 = .ok (.aload_n 0, 1) := by decide +kernel
theorem dX5_isRight_194 : decode cX5_isRight 194 = .ok (.getfield 7, 3) := by decide +kernel
theorem dX5_isRight_197 : decode cX5_isRight 197 = .ok (.iload 6, 2) := by decide +kernel
theorem dX5_isRight_199 : decode cX5_isRight 199 = .ok (.iconst 1, 1) := by decide +kernel
theorem dX5_isRight_200 : decode cX5_isRight 200 = .ok (.iadd, 1) := by decide +kernel
theorem dX5_isRight_201 : decode cX5_isRight 201 = .ok (.iaload, 1) := by decide +kernel
theorem dX5_isRight_202 : decode cX5_isRight 202 = .ok (.invokevirtual 148, 3) := by decide +kernel
theorem dX5_isRight_205 : decode cX5_isRight 205 = .ok (.aload_n 0, 1) := by decide +kernel
theorem dX5_isRight_206 : decode cX5_isRight 206 = .ok (.getfield 7, 3) := by decide +kernel
theorem dX5_isRight_209 : decode cX5_isRight 209 = .ok (.iload 6, 2) := by decide +kernel
theorem dX5_isRight_211 : decode cX5_isRight 211 = .ok (.iconst 2, 1) := by decide +kernel
theorem dX5_isRight_212 : decode cX5_isRight 212 = .ok (.iadd, 1) := by decide +kernel
theorem dX5_isRight_213 : decode cX5_isRight 213 = .ok (.iaload, 1) := by decide +kernel
theorem dX5_isRight_214 : decode cX5_isRight 214 = .ok (.iconst 1, 1) := by decide +kernel
theorem dX5_isRight_215 : decode cX5_isRight 215 = .ok (.if_icmp .ne 7, 3) := by decide +kernel
theorem dX5_isRight_218 : decode cX5_isRight 218 = .ok (.iconst 1, 1) := by decide +kernel
theorem dX5_isRight_219 : decode cX5_isRight 219 = .ok (.goto 4, 3) := by decide +kernel
theorem dX5_isRight_222 : decode cX5_isRight 222 = .ok (.iconst 0, 1) := by decide +kernel
theorem dX5_isRight_223 : decode cX5_isRight 223 = .ok (.if_icmp .eq 7, 3) := by decide +kernel
theorem dX5_isRight_226 : decode cX5_isRight 226 = .ok (.iconst 1, 1) := by decide +kernel
theorem dX5_isRight_227 : decode cX5_isRight 227 = .ok (.goto 4, 3) := by decide +kernel
theorem dX5_isRight_230 : decode cX5_isRight 230 = .ok (.iconst 0, 1) := by decide +kernel
theorem dX5_isRight_231 : decode cX5_isRight 231 = .ok (.ireturn, 1) := by decide +kernel
theorem dX5_isRight_232 : decode cX5_isRight 232 = .ok (.iload_n 3, 1) := by decide +kernel
theorem dX5_isRight_233 : decode cX5_isRight 233 = .ok (.iconst 4, 1) := by decide +kernel
theorem dX5_isRight_234 : decode cX5_isRight 234 = .ok (.if_icmp .ne 55, 3) := by decide +kernel
theorem dX5_isRight_237 : decode cX5_isRight 237 = .ok (.iload 4, 2) := by decide +kernel
theorem dX5_isRight_239 : decode cX5_isRight 239 = .ok (.aload_n 0, 1) := by decide +kernel
theorem dX5_isRight_240 : decode cX5_isRight 240 = .ok (.getfield 113, 3) := by decide +kernel
theorem dX5_isRight_243 : decode cX5_isRight 243 = .ok (.if_icmp .ne 44, 3) := by decide +kernel
theorem dX5_isRight_246 : decode cX5_isRight 246 = .ok (.aload_n 0, 1) := by decide +kernel
theorem dX5_isRight_247 : decode cX5_isRight 247 = .ok (.getfield 113, 3) := by decide +kernel
theorem dX5_isRight_250 : decode cX5_isRight 250 = .ok (.bipush 100, 2) := by decide +kernel
theorem dX5_isRight_252 : decode cX5_isRight 252 = .ok (.if_icmp .ge 35, 3) := by decide +kernel
theorem dX5_isRight_255 : decode cX5_isRight 255 = .ok (.aload_n 0, 1) := by decide +kernel
theorem dX5_isRight_256 : decode cX5_isRight 256 = .ok (.aload_n 0, 1) := by decide +kernel
theorem dX5_isRight_257 : decode cX5_isRight 257 = .ok (.getfield 7, 3) := by decide +kernel
theorem dX5_isRight_260 : decode cX5_isRight 260 = .ok (.iload 6, 2) := by decide +kernel
theorem dX5_isRight_262 : decode cX5_isRight 262 = .ok (.iaload, 1) := by decide +kernel
theorem dX5_isRight_263 : decode cX5_isRight 263 = .ok (.invokevirtual 152, 3) := by decide +kernel
theorem dX5_isRight_266 : decode cX5_isRight 266 = .ok (.ifCond .eq 21, 3) := by decide +kernel
theorem dX5_isRight_269 : decode cX5_isRight 269 = .ok (.aload_n 0, 1) := by decide +kernel
theorem dX5_isRight_270 : decode cX5_isRight 270 = .ok (.getfield 7, 3) := by decide +kernel
theorem dX5_isRight_273 : decode cX5_isRight 273 = .ok (.iload 6, 2) := by decide +kernel
theorem dX5_isRight_275 : decode cX5_isRight 275 = .ok (.iconst 1, 1) := by decide +kernel
theorem dX5_isRight_276 : decode cX5_isRight 276 = .ok (.iadd, 1) := by decide +kernel
theorem dX5_isRight_277 : decode cX5_isRight 277 = .ok (.iaload, 1) := by decide +kernel
theorem dX5_isRight_278 : decode cX5_isRight 278 = .ok (.bipush 64, 2) := by decide +kernel
theorem dX5_isRight_280 : decode cX5_isRight 280 = .ok (.if_icmp .ge 7, 3) := by decide +kernel
theorem dX5_isRight_283 : decode cX5_isRight 283 = .ok (.iconst 1, 1) := by decide +kernel
theorem dX5_isRight_284 : decode cX5_isRight 284 = .ok (.goto 4, 3) := by decide +kernel
theorem dX5_isRight_287 : decode cX5_isRight 287 = .ok (.iconst 0, 1) := by decide +kernel
theorem dX5_isRight_288 : decode cX5_isRight 288 = .ok (.ireturn, 1) := by decide +kernel
theorem dX5_isRight_289 : decode cX5_isRight 289 = .ok (.iload_n 3, 1) := by decide +kernel
theorem dX5_isRight_290 : decode cX5_isRight 290 = .ok (.iconst 5, 1) := by decide +kernel
theorem dX5_isRight_291 : decode cX5_isRight 291 = .ok (.if_icmp .ne 10, 3) := by decide +kernel
theorem dX5_isRight_294 : decode cX5_isRight 294 = .ok (.aload_n 0, 1) := by decide +kernel
theorem dX5_isRight_295 : decode cX5_isRight 295 = .ok (.iload 4, 2) := by decide +kernel
theorem dX5_isRight_297 : decode cX5_isRight 297 = .ok (.invokevirtual 152, 3) := by decide +kernel
theorem dX5_isRight_300 : decode cX5_isRight 300 = .ok (.ireturn, 1) := by decide +kernel
theorem dX5_isRight_301 : decode cX5_isRight 301 = .ok (.iload 4, 2) := by decide +kernel
theorem dX5_isRight_303 : decode cX5_isRight 303 = .ok (.aload_n 0, 1) := by decide +kernel
theorem dX5_isRight_304 : decode cX5_isRight 304 = .ok (.getfield 110, 3) := by decide +kernel
theorem dX5_isRight_307 : decode cX5_isRight 307 = .ok (.if_icmp .ne 16, 3) := by decide +kernel
theorem dX5_isRight_310 : decode cX5_isRight 310 = .ok (.aload_n 0, 1) := by decide +kernel
theorem dX5_isRight_311 : decode cX5_isRight 311 = .ok (.getfield 110, 3) := by decide +kernel
theorem dX5_isRight_314 : decode cX5_isRight 314 = .ok (.bipush 100, 2) := by decide +kernel
theorem dX5_isRight_316 : decode cX5_isRight 316 = .ok (.if_icmp .ge 7, 3) := by decide +kernel
theorem dX5_isRight_319 : decode cX5_isRight 319 = .ok (.iconst 1, 1) := by decide +kernel
theorem dX5_isRight_320 : decode cX5_isRight 320 = .ok (.goto 4, 3) := by decide +kernel
theorem dX5_isRight_323 : decode cX5_isRight 323 = .ok (.iconst 0, 1) := by decide +kernel
theorem dX5_isRight_324 : decode cX5_isRight 324 = .ok (.istore 7, 2) := by decide +kernel
theorem dX5_isRight_326 : decode cX5_isRight 326 = .ok (.iconst 0, 1) := by decide +kernel
theorem dX5_isRight_327 : decode cX5_isRight 327 = .ok (.istore 8, 2) := by decide +kernel
theorem dX5_isRight_329 : decode cX5_isRight 329 = .ok (.iload 8, 2) := by decide +kernel
theorem dX5_isRight_331 : decode cX5_isRight 331 = .ok (.bipush 8, 2) := by decide +kernel
theorem dX5_isRight_333 : decode cX5_isRight 333 = .ok (.if_icmp .ge 43, 3) := by decide +kernel
theorem dX5_isRight_336 : decode cX5_isRight 336 = .ok (.iload 7, 2) := by decide +kernel
theorem dX5_isRight_338 : decode cX5_isRight 338 = .ok (.ifCond .eq 29, 3) := by decide +kernel
theorem dX5_isRight_341 : decode cX5_isRight 341 = .ok (.aload_n 0, 1) := by decide +kernel
theorem dX5_isRight_342 : decode cX5_isRight 342 = .ok (.getfield 25, 3) := by decide +kernel
theorem dX5_isRight_345 : decode cX5_isRight 345 = .ok (.aload_n 0, 1) := by decide +kernel
theorem dX5_isRight_346 : decode cX5_isRight 346 = .ok (.iload 6, 2) := by decide +kernel
theorem dX5_isRight_348 : decode cX5_isRight 348 = .ok (.iconst 2, 1) := by decide +kernel
theorem dX5_isRight_349 : decode cX5_isRight 349 = .ok (.iload 8, 2) := by decide +kernel
theorem dX5_isRight_351 : decode cX5_isRight 351 = .ok (.imul, 1) := by decide +kernel
theorem dX5_isRight_352 : decode cX5_isRight 352 = .ok (.iadd, 1) := by decide +kernel
theorem dX5_isRight_353 : decode cX5_isRight 353 = .ok (.iconst 2, 1) := by decide +kernel
theorem dX5_isRight_354 : decode cX5_isRight 354 = .ok (.invokevirtual 137, 3) := by decide +kernel
theorem dX5_isRight_357 : decode cX5_isRight 357 = .ok (.l2i, 1) := by decide +kernel
theorem dX5_isRight_358 : decode cX5_isRight 358 = .ok (.iaload, 1) := by decide +kernel
theorem dX5_isRight_359 : decode cX5_isRight 359 = .ok (.iconst (-1), 1) := by decide +kernel
theorem dX5_isRight_360 : decode cX5_isRight 360 = .ok (.if_icmp .eq 7, 3) := by decide +kernel
theorem dX5_isRight_363 : decode cX5_isRight 363 = .ok (.iconst 1, 1) := by decide +kernel
theorem dX5_isRight_364 : decode cX5_isRight 364 = .ok (.goto 4, 3) := by decide +kernel
theorem dX5_isRight_367 : decode cX5_isRight 367 = .ok (.iconst 0, 1) := by decide +kernel
theorem dX5_isRight_368 : decode cX5_isRight 368 = .ok (.istore 7, 2) := by decide +kernel
theorem dX5_isRight_370 : decode cX5_isRight 370 = .ok (.iinc 8 1, 3) := by decide +kernel
theorem dX5_isRight_373 : decode cX5_isRight 373 = .ok (.goto (-44), 3) := by decide +kernel
theorem dX5_isRight_376 : decode cX5_isRight 376 = .ok (.iload 7, 2) := by decide +kernel
theorem dX5_isRight_378 : decode cX5_isRight 378 = .ok (.ireturn, 1) := by decide +kernel
theorem dX5_take_0 : decode cX5_take 0 = .ok (.aload_n 0, 1) := by decide +kernel
theorem dX5_take_1 : decode cX5_take 1 = .ok (.getfield 7, 3) := by decide +kernel
theorem dX5_take_4 : decode cX5_take 4 = .ok (.iload_n 1, 1) := by decide +kernel
theorem dX5_take_5 : decode cX5_take 5 = .ok (.iaload, 1) := by decide +kernel
theorem dX5_take_6 : decode cX5_take 6 = .ok (.istore_n 3, 1) := by decide +kernel
theorem dX5_take_7 : decode cX5_take 7 = .ok (.aload_n 0, 1) := by decide +kernel
theorem dX5_take_8 : decode cX5_take 8 = .ok (.iload_n 1, 1) := by decide +kernel
theorem dX5_take_9 : decode cX5_take 9 = .ok (.iconst 1, 1) := by decide +kernel
theorem dX5_take_10 : decode cX5_take 10 = .ok (.iadd, 1) := by decide +kernel
theorem dX5_take_11 : decode cX5_take 11 = .ok (.iconst 2, 1) := by decide +kernel
theorem dX5_take_12 : decode cX5_take 12 = .ok (.invokevirtual 137, 3) := by decide +kernel
theorem dX5_take_15 : decode cX5_take 15 = .ok (.l2i, 1) := by decide +kernel
theorem dX5_take_16 : decode cX5_take 16 = .ok (.istore 4, 2) := by decide +kernel
theorem dX5_take_18 : decode cX5_take 18 = .ok (.iload_n 1, 1) := by decide +kernel
theorem dX5_take_19 : decode cX5_take 19 = .ok (.iconst 4, 1) := by decide +kernel
theorem dX5_take_20 : decode cX5_take 20 = .ok (.iadd, 1) := by decide +kernel
theorem dX5_take_21 : decode cX5_take 21 = .ok (.istore 5, 2) := by decide +kernel
theorem dX5_take_23 : decode cX5_take 23 = .ok (.iload_n 3, 1) := by decide +kernel
theorem dX5_take_24 : decode cX5_take 24 = .ok (.iconst 1, 1) := by decide +kernel
theorem dX5_take_25 : decode cX5_take 25 = .ok (.if_icmp .ne 72, 3) := by decide +kernel
theorem dX5_take_28 : decode cX5_take 28 = .ok (.aload_n 0, 1) := by decide +kernel
theorem dX5_take_29 : decode cX5_take 29 = .ok (.getfield 25, 3) := by decide +kernel
theorem dX5_take_32 : decode cX5_take 32 = .ok (.iload 4, 2) := by decide +kernel
theorem dX5_take_34 : decode cX5_take 34 = .ok (.aload_n 0, 1) := by decide +kernel
theorem dX5_take_35 : decode cX5_take 35 = .ok (.getfield 107, 3) := by decide +kernel
theorem dX5_take_38 : decode cX5_take 38 = .ok (.iastore, 1) := by decide +kernel
theorem dX5_take_39 : decode cX5_take 39 = .ok (.iconst 0, 1) := by decide +kernel
theorem dX5_take_40 : decode cX5_take 40 = .ok (.istore 6, 2) := by decide +kernel
theorem dX5_take_42 : decode cX5_take 42 = .ok (.iload 6, 2) := by decide +kernel
theorem dX5_take_44 : decode cX5_take 44 = .ok (.bipush 8, 2) := by decide +kernel
theorem dX5_take_46 : decode cX5_take 46 = .ok (.if_icmp .ge 38, 3) := by decide +kernel
theorem dX5_take_49 : decode cX5_take 49 = .ok (.aload_n 0, 1) := by decide +kernel
theorem dX5_take_50 : decode cX5_take 50 = .ok (.getfield 28, 3) := by decide +kernel
theorem dX5_take_53 : decode cX5_take 53 = .ok (.bipush 8, 2) := by decide +kernel
theorem dX5_take_55 : decode cX5_take 55 = .ok (.aload_n 0, 1) := by decide +kernel
theorem dX5_take_56 : decode cX5_take 56 = .ok (.getfield 107, 3) := by decide +kernel
theorem dX5_take_59 : decode cX5_take 59 = .ok (.imul, 1) := by decide +kernel
theorem dX5_take_60 : decode cX5_take 60 = .ok (.iload 6, 2) := by decide +kernel
theorem dX5_take_62 : decode cX5_take 62 = .ok (.iadd, 1) := by decide +kernel
theorem dX5_take_63 : decode cX5_take 63 = .ok (.aload_n 0, 1) := by decide +kernel
theorem dX5_take_64 : decode cX5_take 64 = .ok (.iload 5, 2) := by decide +kernel
theorem dX5_take_66 : decode cX5_take 66 = .ok (.bipush 8, 2) := by decide +kernel
theorem dX5_take_68 : decode cX5_take 68 = .ok (.iload 6, 2) := by decide +kernel
theorem dX5_take_70 : decode cX5_take 70 = .ok (.imul, 1) := by decide +kernel
theorem dX5_take_71 : decode cX5_take 71 = .ok (.iadd, 1) := by decide +kernel
theorem dX5_take_72 : decode cX5_take 72 = .ok (.bipush 8, 2) := by decide +kernel
theorem dX5_take_74 : decode cX5_take 74 = .ok (.invokevirtual 137, 3) := by decide +kernel
theorem dX5_take_77 : decode cX5_take 77 = .ok (.lastore, 1) := by decide +kernel
theorem dX5_take_78 : decode cX5_take 78 = .ok (.iinc 6 1, 3) := by decide +kernel
theorem dX5_take_81 : decode cX5_take 81 = .ok (.goto (-39), 3) := by decide +kernel
theorem dX5_take_84 : decode cX5_take 84 = .ok (.aload_n 0, 1) := by decide +kernel
theorem dX5_take_85 : decode cX5_take 85 = .ok (.dup, 1) := by decide +kernel
theorem dX5_take_86 : decode cX5_take 86 = .ok (.getfield 107, 3) := by decide +kernel
theorem dX5_take_89 : decode cX5_take 89 = .ok (.iconst 1, 1) := by decide +kernel
theorem dX5_take_90 : decode cX5_take 90 = .ok (.iadd, 1) := by decide +kernel
theorem dX5_take_91 : decode cX5_take 91 = .ok (.putfield 107, 3) := by decide +kernel
theorem dX5_take_94 : decode cX5_take 94 = .ok (.goto 194, 3) := by decide +kernel
theorem dX5_take_97 : decode cX5_take 97 = .ok (.iload_n 3, 1) := by decide +kernel
theorem dX5_take_98 : decode cX5_take 98 = .ok (.iconst 2, 1) := by decide +kernel
theorem dX5_take_99 : decode cX5_take 99 = .ok (.if_icmp .ne 56, 3) := by decide +kernel
theorem dX5_take_102 : decode cX5_take 102 = .ok (.lconst 1, 1) := by decide +kernel
theorem dX5_take_103 : decode cX5_take 103 = .ok (.aload_n 0, 1) := by decide +kernel
theorem dX5_take_104 : decode cX5_take 104 = .ok (.getfield 7, 3) := by decide +kernel
theorem dX5_take_107 : decode cX5_take 107 = .ok (.iload 5, 2) := by decide +kernel
theorem dX5_take_109 : decode cX5_take 109 = .ok (.iconst 1, 1) := by decide +kernel
theorem dX5_take_110 : decode cX5_take 110 = .ok (.iadd, 1) := by decide +kernel
theorem dX5_take_111 : decode cX5_take 111 = .ok (.iaload, 1) := by decide +kernel
theorem dX5_take_112 : decode cX5_take 112 = .ok (.lshl, 1) := by decide +kernel
theorem dX5_take_113 : decode cX5_take 113 = .ok (.lstore 6, 2) := by decide +kernel
theorem dX5_take_115 : decode cX5_take 115 = .ok (.aload_n 0, 1) := by decide +kernel
theorem dX5_take_116 : decode cX5_take 116 = .ok (.getfield 20, 3) := by decide +kernel
theorem dX5_take_119 : decode cX5_take 119 = .ok (.aload_n 0, 1) := by decide +kernel
theorem dX5_take_120 : decode cX5_take 120 = .ok (.getfield 7, 3) := by decide +kernel
theorem dX5_take_123 : decode cX5_take 123 = .ok (.iload 5, 2) := by decide +kernel
theorem dX5_take_125 : decode cX5_take 125 = .ok (.iaload, 1) := by decide +kernel
theorem dX5_take_126 : decode cX5_take 126 = .ok (.aload_n 0, 1) := by decide +kernel
theorem dX5_take_127 : decode cX5_take 127 = .ok (.getfield 20, 3) := by decide +kernel
theorem dX5_take_130 : decode cX5_take 130 = .ok (.aload_n 0, 1) := by decide +kernel
theorem dX5_take_131 : decode cX5_take 131 = .ok (.getfield 7, 3) := by decide +kernel
theorem dX5_take_134 : decode cX5_take 134 = .ok (.iload 5, 2) := by decide +kernel
theorem dX5_take_136 : decode cX5_take 136 = .ok (.iaload, 1) := by decide +kernel
theorem dX5_take_137 : decode cX5_take 137 = .ok (.laload, 1) := by decide +kernel
theorem dX5_take_138 : decode cX5_take 138 = .ok (.lload 6, 2) := by decide +kernel
theorem dX5_take_140 : decode cX5_take 140 = .ok (.lxor, 1) := by decide +kernel
theorem dX5_take_141 : decode cX5_take 141 = .ok (.lastore, 1) := by decide +kernel
theorem dX5_take_142 : decode cX5_take 142 = .ok (.aload_n 0, 1) := by decide +kernel
theorem dX5_take_143 : decode cX5_take 143 = .ok (.dup, 1) := by decide +kernel
theorem dX5_take_144 : decode cX5_take 144 = .ok (.getfield 104, 3) := by decide +kernel
theorem dX5_take_147 : decode cX5_take 147 = .ok (.iconst 1, 1) := by decide +kernel
theorem dX5_take_148 : decode cX5_take 148 = .ok (.iadd, 1) := by decide +kernel
theorem dX5_take_149 : decode cX5_take 149 = .ok (.putfield 104, 3) := by decide +kernel
theorem dX5_take_152 : decode cX5_take 152 = .ok (.goto 136, 3) := by decide +kernel
theorem dX5_take_155 : decode cX5_take 155 = .ok (.iload_n 3, 1) := by decide +kernel
theorem dX5_take_156 : decode cX5_take 156 = .ok (.iconst 3, 1) := by decide +kernel
theorem dX5_take_157 : decode cX5_take 157 = .ok (.if_icmp .ne 70, 3) := by decide +kernel
theorem dX5_take_160 : decode cX5_take 160 = .ok (.iconst 0, 1) := by decide +kernel
theorem dX5_take_161 : decode cX5_take 161 = .ok (.istore 6, 2) := by decide +kernel
theorem dX5_take_163 : decode cX5_take 163 = .ok (.iload 6, 2) := by decide +kernel
theorem dX5_take_165 : decode cX5_take 165 = .ok (.bipush 8, 2) := by decide +kernel
theorem dX5_take_167 : decode cX5_take 167 = .ok (.if_icmp .ge 37, 3) := by decide +kernel
theorem dX5_take_170 : decode cX5_take 170 = .ok (.aload_n 0, 1) := by decide +kernel
theorem dX5_take_171 : decode cX5_take 171 = .ok (.getfield 35, 3) := by decide +kernel
theorem dX5_take_174 : decode cX5_take 174 = .ok (.bipush 8, 2) := by decide +kernel
theorem dX5_take_176 : decode cX5_take 176 = .ok (.aload_n 0, 1) := by decide +kernel
theorem dX5_take_177 : decode cX5_take 177 = .ok (.getfield 110, 3) := by decide +kernel
theorem dX5_take_180 : decode cX5_take 180 = .ok (.imul, 1) := by decide +kernel
theorem dX5_take_181 : decode cX5_take 181 = .ok (.iload 6, 2) := by decide +kernel
theorem dX5_take_183 : decode cX5_take 183 = .ok (.iadd, 1) := by decide +kernel
theorem dX5_take_184 : decode cX5_take 184 = .ok (.aload_n 0, 1) := by decide +kernel
theorem dX5_take_185 : decode cX5_take 185 = .ok (.iload 5, 2) := by decide +kernel
theorem dX5_take_187 : decode cX5_take 187 = .ok (.iconst 2, 1) := by decide +kernel
theorem dX5_take_188 : decode cX5_take 188 = .ok (.iload 6, 2) := by decide +kernel
theorem dX5_take_190 : decode cX5_take 190 = .ok (.imul, 1) := by decide +kernel
theorem dX5_take_191 : decode cX5_take 191 = .ok (.iadd, 1) := by decide +kernel
theorem dX5_take_192 : decode cX5_take 192 = .ok (.iconst 2, 1) := by decide +kernel
theorem dX5_take_193 : decode cX5_take 193 = .ok (.invokevirtual 137, 3) := by decide +kernel
theorem dX5_take_196 : decode cX5_take 196 = .ok (.l2i, 1) := by decide +kernel
theorem dX5_take_197 : decode cX5_take 197 = .ok (.iastore, 1) := by decide +kernel
theorem dX5_take_198 : decode cX5_take 198 = .ok (.iinc 6 1, 3) := by decide +kernel
theorem dX5_take_201 : decode cX5_take 201 = .ok (.goto (-38), 3) := by decide +kernel
theorem dX5_take_204 : decode cX5_take 204 = .ok (.aload_n 0, 1) := by decide +kernel
theorem dX5_take_205 : decode cX5_take 205 = .ok (.getfield 31, 3) := by decide +kernel
theorem dX5_take_208 : decode cX5_take 208 = .ok (.aload_n 0, 1) := by decide +kernel
theorem dX5_take_209 : decode cX5_take 209 = .ok (.getfield 110, 3) := by decide +kernel
theorem dX5_take_212 : decode cX5_take 212 = .ok (.iconst 1, 1) := by decide +kernel
theorem dX5_take_213 : decode cX5_take 213 = .ok (.bastore, 1) := by decide +kernel
theorem dX5_take_214 : decode cX5_take 214 = .ok (.aload_n 0, 1) := by decide +kernel
theorem dX5_take_215 : decode cX5_take 215 = .ok (.dup, 1) := by decide +kernel
theorem dX5_take_216 : decode cX5_take 216 = .ok (.getfield 110, 3) := by decide +kernel
theorem dX5_take_219 : decode cX5_take 219 = .ok (.iconst 1, 1) := by decide +kernel
theorem dX5_take_220 : decode cX5_take 220 = .ok (.iadd, 1) := by decide +kernel
theorem dX5_take_221 : decode cX5_take 221 = .ok (.putfield 110, 3) := by decide +kernel
theorem dX5_take_224 : decode cX5_take 224 = .ok (.goto 64, 3) := by decide +kernel
theorem dX5_take_227 : decode cX5_take 227 = .ok (.iload_n 3, 1) := by decide +kernel
theorem dX5_take_228 : decode cX5_take 228 = .ok (.iconst 4, 1) := by decide +kernel
theorem dX5_take_229 : decode cX5_take 229 = .ok (.if_icmp .ne 51, 3) := by decide +kernel
theorem dX5_take_232 : decode cX5_take 232 = .ok (.aload_n 0, 1) := by decide +kernel
theorem dX5_take_233 : decode cX5_take 233 = .ok (.getfield 38, 3) := by decide +kernel
theorem dX5_take_236 : decode cX5_take 236 = .ok (.aload_n 0, 1) := by decide +kernel
theorem dX5_take_237 : decode cX5_take 237 = .ok (.getfield 113, 3) := by decide +kernel
theorem dX5_take_240 : decode cX5_take 240 = .ok (.aload_n 0, 1) := by decide +kernel
theorem dX5_take_241 : decode cX5_take 241 = .ok (.getfield 7, 3) := by decide +kernel
theorem dX5_take_244 : decode cX5_take 244 = .ok (.iload 5, 2) := by decide +kernel
theorem dX5_take_246 : decode cX5_take 246 = .ok (.iaload, 1) := by decide +kernel
theorem dX5_take_247 : decode cX5_take 247 = .ok (.iastore, 1) := by decide +kernel
theorem dX5_take_248 : decode cX5_take 248 = .ok (.aload_n 0, 1) := by decide +kernel
theorem dX5_take_249 : decode cX5_take 249 = .ok (.getfield 41, 3) := by decide +kernel
theorem dX5_take_252 : decode cX5_take 252 = .ok (.aload_n 0, 1) := by decide +kernel
theorem dX5_take_253 : decode cX5_take 253 = .ok (.getfield 113, 3) := by decide +kernel
theorem dX5_take_256 : decode cX5_take 256 = .ok (.aload_n 0, 1) := by decide +kernel
theorem dX5_take_257 : decode cX5_take 257 = .ok (.iload 5, 2) := by decide +kernel
theorem dX5_take_259 : decode cX5_take 259 = .ok (.iconst 2, 1) := by decide +kernel
theorem dX5_take_260 : decode cX5_take 260 = .ok (.iadd, 1) := by decide +kernel
theorem dX5_take_261 : decode cX5_take 261 = .ok (.bipush 8, 2) := by decide +kernel
theorem dX5_take_263 : decode cX5_take 263 = .ok (.invokevirtual 137, 3) := by decide +kernel
theorem dX5_take_266 : decode cX5_take 266 = .ok (.lastore, 1) := by decide +kernel
theorem dX5_take_267 : decode cX5_take 267 = .ok (.aload_n 0, 1) := by decide +kernel
theorem dX5_take_268 : decode cX5_take 268 = .ok (.dup, 1) := by decide +kernel
theorem dX5_take_269 : decode cX5_take 269 = .ok (.getfield 113, 3) := by decide +kernel
theorem dX5_take_272 : decode cX5_take 272 = .ok (.iconst 1, 1) := by decide +kernel
theorem dX5_take_273 : decode cX5_take 273 = .ok (.iadd, 1) := by decide +kernel
theorem dX5_take_274 : decode cX5_take 274 = .ok (.putfield 113, 3) := by decide +kernel
theorem dX5_take_277 : decode cX5_take 277 = .ok (.goto 11, 3) := by decide +kernel
theorem dX5_take_280 : decode cX5_take 280 = .ok (.aload_n 0, 1) := by decide +kernel
theorem dX5_take_281 : decode cX5_take 281 = .ok (.getfield 31, 3) := by decide +kernel
theorem dX5_take_284 : decode cX5_take 284 = .ok (.iload 4, 2) := by decide +kernel
theorem dX5_take_286 : decode cX5_take 286 = .ok (.iconst 0, 1) := by decide +kernel
theorem dX5_take_287 : decode cX5_take 287 = .ok (.bastore, 1) := by decide +kernel
theorem dX5_take_288 : decode cX5_take 288 = .ok (.aload_n 0, 1) := by decide +kernel
theorem dX5_take_289 : decode cX5_take 289 = .ok (.aload_n 0, 1) := by decide +kernel
theorem dX5_take_290 : decode cX5_take 290 = .ok (.getfield 98, 3) := by decide +kernel
theorem dX5_take_293 : decode cX5_take 293 = .ok (.bipush 12, 2) := by decide +kernel
theorem dX5_take_295 : decode cX5_take 295 = .ok (.iadd, 1) := by decide +kernel
theorem dX5_take_296 : decode cX5_take 296 = .ok (.iload_n 2, 1) := by decide +kernel
theorem dX5_take_297 : decode cX5_take 297 = .ok (.iadd, 1) := by decide +kernel
theorem dX5_take_298 : decode cX5_take 298 = .ok (.putfield 98, 3) := by decide +kernel
theorem dX5_take_301 : decode cX5_take 301 = .ok (.aload_n 0, 1) := by decide +kernel
theorem dX5_take_302 : decode cX5_take 302 = .ok (.dup, 1) := by decide +kernel
theorem dX5_take_303 : decode cX5_take 303 = .ok (.getfield 101, 3) := by decide +kernel
theorem dX5_take_306 : decode cX5_take 306 = .ok (.iconst 1, 1) := by decide +kernel
theorem dX5_take_307 : decode cX5_take 307 = .ok (.iadd, 1) := by decide +kernel
theorem dX5_take_308 : decode cX5_take 308 = .ok (.putfield 101, 3) := by decide +kernel
theorem dX5_take_311 : decode cX5_take 311 = .ok (.return_, 1) := by decide +kernel
theorem dX5_fits_0 : decode cX5_fits 0 = .ok (.aload_n 0, 1) := by decide +kernel
theorem dX5_fits_1 : decode cX5_fits 1 = .ok (.getfield 98, 3) := by decide +kernel
theorem dX5_fits_4 : decode cX5_fits 4 = .ok (.iload_n 1, 1) := by decide +kernel
theorem dX5_fits_5 : decode cX5_fits 5 = .ok (.iadd, 1) := by decide +kernel
theorem dX5_fits_6 : decode cX5_fits 6 = .ok (.sipush 24000, 3) := by decide +kernel
theorem dX5_fits_9 : decode cX5_fits 9 = .ok (.if_icmp .gt 7, 3) := by decide +kernel
theorem dX5_fits_12 : decode cX5_fits 12 = .ok (.iconst 1, 1) := by decide +kernel
theorem dX5_fits_13 : decode cX5_fits 13 = .ok (.goto 4, 3) := by decide +kernel
theorem dX5_fits_16 : decode cX5_fits 16 = .ok (.iconst 0, 1) := by decide +kernel
theorem dX5_fits_17 : decode cX5_fits 17 = .ok (.ireturn, 1) := by decide +kernel
theorem dX5_edge_0 : decode cX5_edge 0 = .ok (.aload_n 0, 1) := by decide +kernel
theorem dX5_edge_1 : decode cX5_edge 1 = .ok (.aload_n 0, 1) := by decide +kernel
theorem dX5_edge_2 : decode cX5_edge 2 = .ok (.getfield 94, 3) := by decide +kernel
theorem dX5_edge_5 : decode cX5_edge 5 = .ok (.ifCond .ne 7, 3) := by decide +kernel
theorem dX5_edge_8 : decode cX5_edge 8 = .ok (.iconst 1, 1) := by decide +kernel
theorem dX5_edge_9 : decode cX5_edge 9 = .ok (.goto 28, 3) := by decide +kernel
theorem dX5_edge_12 : decode cX5_edge 12 = .ok (.iload_n 1, 1) := by decide +kernel
theorem dX5_edge_13 : decode cX5_edge 13 = .ok (.iconst 0, 1) := by decide +kernel
theorem dX5_edge_14 : decode cX5_edge 14 = .ok (.bipush 63, 2) := by decide +kernel
theorem dX5_edge_16 : decode cX5_edge 16 = .ok (.invokestatic 133, 3) := by decide +kernel
theorem dX5_edge_19 : decode cX5_edge 19 = .ok (.ifCond .eq 13, 3) := by decide +kernel
theorem dX5_edge_22 : decode cX5_edge 22 = .ok (.iload_n 2, 1) := by decide +kernel
theorem dX5_edge_23 : decode cX5_edge 23 = .ok (.iconst 0, 1) := by decide +kernel
theorem dX5_edge_24 : decode cX5_edge 24 = .ok (.bipush 63, 2) := by decide +kernel
theorem dX5_edge_26 : decode cX5_edge 26 = .ok (.invokestatic 133, 3) := by decide +kernel
theorem dX5_edge_29 : decode cX5_edge 29 = .ok (.ifCond .ne 7, 3) := by decide +kernel
theorem dX5_edge_32 : decode cX5_edge 32 = .ok (.iconst 2, 1) := by decide +kernel
theorem dX5_edge_33 : decode cX5_edge 33 = .ok (.goto 4, 3) := by decide +kernel
theorem dX5_edge_36 : decode cX5_edge 36 = .ok (.iconst 0, 1) := by decide +kernel
theorem dX5_edge_37 : decode cX5_edge 37 = .ok (.putfield 75, 3) := by decide +kernel
theorem dX5_edge_40 : decode cX5_edge 40 = .ok (.aload_n 0, 1) := by decide +kernel
theorem dX5_edge_41 : decode cX5_edge 41 = .ok (.getfield 75, 3) := by decide +kernel
theorem dX5_edge_44 : decode cX5_edge 44 = .ok (.ifCond .le 5, 3) := by decide +kernel
theorem dX5_edge_47 : decode cX5_edge 47 = .ok (.iconst 0, 1) := by decide +kernel
theorem dX5_edge_48 : decode cX5_edge 48 = .ok (.ireturn, 1) := by decide +kernel
theorem dX5_edge_49 : decode cX5_edge 49 = .ok (.aload_n 0, 1) := by decide +kernel
theorem dX5_edge_50 : decode cX5_edge 50 = .ok (.iload_n 1, 1) := by decide +kernel
theorem dX5_edge_51 : decode cX5_edge 51 = .ok (.iload_n 2, 1) := by decide +kernel
theorem dX5_edge_52 : decode cX5_edge 52 = .ok (.invokevirtual 148, 3) := by decide +kernel
theorem dX5_edge_55 : decode cX5_edge 55 = .ok (.iload_n 3, 1) := by decide +kernel
theorem dX5_edge_56 : decode cX5_edge 56 = .ok (.if_icmp .ne 5, 3) := by decide +kernel
theorem dX5_edge_59 : decode cX5_edge 59 = .ok (.iconst 0, 1) := by decide +kernel
theorem dX5_edge_60 : decode cX5_edge 60 = .ok (.ireturn, 1) := by decide +kernel
theorem dX5_edge_61 : decode cX5_edge 61 = .ok (.aload_n 0, 1) := by decide +kernel
theorem dX5_edge_62 : decode cX5_edge 62 = .ok (.bipush 15, 2) := by decide +kernel
theorem dX5_edge_64 : decode cX5_edge 64 = .ok (.invokevirtual 156, 3) := by decide +kernel
theorem dX5_edge_67 : decode cX5_edge 67 = .ok (.ifCond .ne 6, 3) := by decide +kernel
theorem dX5_edge_70 : decode cX5_edge 70 = .ok (.bipush (-3), 2) := by decide +kernel
theorem dX5_edge_72 : decode cX5_edge 72 = .ok (.ireturn, 1) := by decide +kernel
theorem dX5_edge_73 : decode cX5_edge 73 = .ok (.aload_n 0, 1) := by decide +kernel
theorem dX5_edge_74 : decode cX5_edge 74 = .ok (.iconst 2, 1) := by decide +kernel
theorem dX5_edge_75 : decode cX5_edge 75 = .ok (.aload_n 0, 1) := by decide +kernel
theorem dX5_edge_76 : decode cX5_edge 76 = .ok (.getfield 104, 3) := by decide +kernel
theorem dX5_edge_79 : decode cX5_edge 79 = .ok (.iconst 3, 1) := by decide +kernel
theorem dX5_edge_80 : decode cX5_edge 80 = .ok (.invokevirtual 159, 3) := by decide +kernel
theorem dX5_edge_83 : decode cX5_edge 83 = .ok (.istore 4, 2) := by decide +kernel
theorem dX5_edge_85 : decode cX5_edge 85 = .ok (.aload_n 0, 1) := by decide +kernel
theorem dX5_edge_86 : decode cX5_edge 86 = .ok (.iload 4, 2) := by decide +kernel
theorem dX5_edge_88 : decode cX5_edge 88 = .ok (.iload_n 1, 1) := by decide +kernel
theorem dX5_edge_89 : decode cX5_edge 89 = .ok (.invokevirtual 118, 3) := by decide +kernel
theorem dX5_edge_92 : decode cX5_edge 92 = .ok (.aload_n 0, 1) := by decide +kernel
theorem dX5_edge_93 : decode cX5_edge 93 = .ok (.iload 4, 2) := by decide +kernel
theorem dX5_edge_95 : decode cX5_edge 95 = .ok (.iconst 1, 1) := by decide +kernel
theorem dX5_edge_96 : decode cX5_edge 96 = .ok (.iadd, 1) := by decide +kernel
theorem dX5_edge_97 : decode cX5_edge 97 = .ok (.iload_n 2, 1) := by decide +kernel
theorem dX5_edge_98 : decode cX5_edge 98 = .ok (.invokevirtual 118, 3) := by decide +kernel
theorem dX5_edge_101 : decode cX5_edge 101 = .ok (.aload_n 0, 1) := by decide +kernel
theorem dX5_edge_102 : decode cX5_edge 102 = .ok (.iload 4, 2) := by decide +kernel
theorem dX5_edge_104 : decode cX5_edge 104 = .ok (.iconst 2, 1) := by decide +kernel
theorem dX5_edge_105 : decode cX5_edge 105 = .ok (.iadd, 1) := by decide +kernel
theorem dX5_edge_106 : decode cX5_edge 106 = .ok (.iload_n 3, 1) := by decide +kernel
theorem dX5_edge_107 : decode cX5_edge 107 = .ok (.ifCond .eq 7, 3) := by decide +kernel
theorem dX5_edge_110 : decode cX5_edge 110 = .ok (.iconst 1, 1) := by decide +kernel
theorem dX5_edge_111 : decode cX5_edge 111 = .ok (.goto 4, 3) := by decide +kernel
theorem dX5_edge_114 : decode cX5_edge 114 = .ok (.iconst 0, 1) := by decide +kernel
theorem dX5_edge_115 : decode cX5_edge 115 = .ok (.invokevirtual 118, 3) := by decide +kernel
theorem dX5_edge_118 : decode cX5_edge 118 = .ok (.aload_n 0, 1) := by decide +kernel
theorem dX5_edge_119 : decode cX5_edge 119 = .ok (.iconst 3, 1) := by decide +kernel
theorem dX5_edge_120 : decode cX5_edge 120 = .ok (.invokevirtual 163, 3) := by decide +kernel
theorem dX5_edge_123 : decode cX5_edge 123 = .ok (.iconst 1, 1) := by decide +kernel
theorem dX5_edge_124 : decode cX5_edge 124 = .ok (.ireturn, 1) := by decide +kernel
theorem dX5_isAlike_0 : decode cX5_isAlike 0 = .ok (.iconst 1, 1) := by decide +kernel
theorem dX5_isAlike_1 : decode cX5_isAlike 1 = .ok (.istore_n 3, 1) := by decide +kernel
theorem dX5_isAlike_2 : decode cX5_isAlike 2 = .ok (.iconst 0, 1) := by decide +kernel
theorem dX5_isAlike_3 : decode cX5_isAlike 3 = .ok (.istore 4, 2) := by decide +kernel
theorem dX5_isAlike_5 : decode cX5_isAlike 5 = .ok (.iload 4, 2) := by decide +kernel
theorem dX5_isAlike_7 : decode cX5_isAlike 7 = .ok (.bipush 8, 2) := by decide +kernel
theorem dX5_isAlike_9 : decode cX5_isAlike 9 = .ok (.if_icmp .ge 52, 3) := by decide +kernel
theorem dX5_isAlike_12 : decode cX5_isAlike 12 = .ok (.iload_n 3, 1) := by decide +kernel
theorem dX5_isAlike_13 : decode cX5_isAlike 13 = .ok (.ifCond .eq 40, 3) := by decide +kernel
theorem dX5_isAlike_16 : decode cX5_isAlike 16 = .ok (.aload_n 0, 1) := by decide +kernel
theorem dX5_isAlike_17 : decode cX5_isAlike 17 = .ok (.getfield 28, 3) := by decide +kernel
theorem dX5_isAlike_20 : decode cX5_isAlike 20 = .ok (.bipush 8, 2) := by decide +kernel
theorem dX5_isAlike_22 : decode cX5_isAlike 22 = .ok (.aload_n 0, 1) := by decide +kernel
theorem dX5_isAlike_23 : decode cX5_isAlike 23 = .ok (.getfield 25, 3) := by decide +kernel
theorem dX5_isAlike_26 : decode cX5_isAlike 26 = .ok (.iload_n 1, 1) := by decide +kernel
theorem dX5_isAlike_27 : decode cX5_isAlike 27 = .ok (.iaload, 1) := by decide +kernel
theorem dX5_isAlike_28 : decode cX5_isAlike 28 = .ok (.imul, 1) := by decide +kernel
theorem dX5_isAlike_29 : decode cX5_isAlike 29 = .ok (.iload 4, 2) := by decide +kernel
theorem dX5_isAlike_31 : decode cX5_isAlike 31 = .ok (.iadd, 1) := by decide +kernel
theorem dX5_isAlike_32 : decode cX5_isAlike 32 = .ok (.laload, 1) := by decide +kernel
theorem dX5_isAlike_33 : decode cX5_isAlike 33 = .ok (.aload_n 0, 1) := by decide +kernel
theorem dX5_isAlike_34 : decode cX5_isAlike 34 = .ok (.getfield 20, 3) := by decide +kernel
theorem dX5_isAlike_37 : decode cX5_isAlike 37 = .ok (.bipush 8, 2) := by decide +kernel
theorem dX5_isAlike_39 : decode cX5_isAlike 39 = .ok (.iload_n 2, 1) := by decide +kernel
theorem dX5_isAlike_40 : decode cX5_isAlike 40 = .ok (.imul, 1) := by decide +kernel
theorem dX5_isAlike_41 : decode cX5_isAlike 41 = .ok (.iload 4, 2) := by decide +kernel
theorem dX5_isAlike_43 : decode cX5_isAlike 43 = .ok (.iadd, 1) := by decide +kernel
theorem dX5_isAlike_44 : decode cX5_isAlike 44 = .ok (.laload, 1) := by decide +kernel
theorem dX5_isAlike_45 : decode cX5_isAlike 45 = .ok (.lcmp, 1) := by decide +kernel
theorem dX5_isAlike_46 : decode cX5_isAlike 46 = .ok (.ifCond .ne 7, 3) := by decide +kernel
theorem dX5_isAlike_49 : decode cX5_isAlike 49 = .ok (.iconst 1, 1) := by decide +kernel
theorem dX5_isAlike_50 : decode cX5_isAlike 50 = .ok (.goto 4, 3) := by decide +kernel
theorem dX5_isAlike_53 : decode cX5_isAlike 53 = .ok (.iconst 0, 1) := by decide +kernel
theorem dX5_isAlike_54 : decode cX5_isAlike 54 = .ok (.istore_n 3, 1) := by decide +kernel
theorem dX5_isAlike_55 : decode cX5_isAlike 55 = .ok (.iinc 4 1, 3) := by decide +kernel
theorem dX5_isAlike_58 : decode cX5_isAlike 58 = .ok (.goto (-53), 3) := by decide +kernel
theorem dX5_isAlike_61 : decode cX5_isAlike 61 = .ok (.iload_n 3, 1) := by decide +kernel
theorem dX5_isAlike_62 : decode cX5_isAlike 62 = .ok (.ireturn, 1) := by decide +kernel
theorem dX5_find_0 : decode cX5_find 0 = .ok (.iconst 0, 1) := by decide +kernel
theorem dX5_find_1 : decode cX5_find 1 = .ok (.istore_n 2, 1) := by decide +kernel
theorem dX5_find_2 : decode cX5_find 2 = .ok (.iload_n 2, 1) := by decide +kernel
theorem dX5_find_3 : decode cX5_find 3 = .ok (.aload_n 0, 1) := by decide +kernel
theorem dX5_find_4 : decode cX5_find 4 = .ok (.getfield 110, 3) := by decide +kernel
theorem dX5_find_7 : decode cX5_find 7 = .ok (.if_icmp .ge 63, 3) := by decide +kernel
theorem dX5_find_10 : decode cX5_find 10 = .ok (.iconst 0, 1) := by decide +kernel
theorem dX5_find_11 : decode cX5_find 11 = .ok (.istore_n 3, 1) := by decide +kernel
theorem dX5_find_12 : decode cX5_find 12 = .ok (.iload_n 3, 1) := by decide +kernel
theorem dX5_find_13 : decode cX5_find 13 = .ok (.bipush 8, 2) := by decide +kernel
theorem dX5_find_15 : decode cX5_find 15 = .ok (.if_icmp .ge 49, 3) := by decide +kernel
theorem dX5_find_18 : decode cX5_find 18 = .ok (.aload_n 0, 1) := by decide +kernel
theorem dX5_find_19 : decode cX5_find 19 = .ok (.getfield 31, 3) := by decide +kernel
theorem dX5_find_22 : decode cX5_find 22 = .ok (.iload_n 2, 1) := by decide +kernel
theorem dX5_find_23 : decode cX5_find 23 = .ok (.baload, 1) := by decide +kernel
theorem dX5_find_24 : decode cX5_find 24 = .ok (.ifCond .eq 34, 3) := by decide +kernel
theorem dX5_find_27 : decode cX5_find 27 = .ok (.aload_n 0, 1) := by decide +kernel
theorem dX5_find_28 : decode cX5_find 28 = .ok (.aload_n 0, 1) := by decide +kernel
theorem dX5_find_29 : decode cX5_find 29 = .ok (.getfield 35, 3) := by decide +kernel
theorem dX5_find_32 : decode cX5_find 32 = .ok (.bipush 8, 2) := by decide +kernel
theorem dX5_find_34 : decode cX5_find 34 = .ok (.iload_n 2, 1) := by decide +kernel
theorem dX5_find_35 : decode cX5_find 35 = .ok (.imul, 1) := by decide +kernel
theorem dX5_find_36 : decode cX5_find 36 = .ok (.iload_n 3, 1) := by decide +kernel
theorem dX5_find_37 : decode cX5_find 37 = .ok (.iadd, 1) := by decide +kernel
theorem dX5_find_38 : decode cX5_find 38 = .ok (.iaload, 1) := by decide +kernel
theorem dX5_find_39 : decode cX5_find 39 = .ok (.iload_n 1, 1) := by decide +kernel
theorem dX5_find_40 : decode cX5_find 40 = .ok (.invokevirtual 166, 3) := by decide +kernel
theorem dX5_find_43 : decode cX5_find 43 = .ok (.ifCond .eq 15, 3) := by decide +kernel
theorem dX5_find_46 : decode cX5_find 46 = .ok (.aload_n 0, 1) := by decide +kernel
theorem dX5_find_47 : decode cX5_find 47 = .ok (.getfield 35, 3) := by decide +kernel
theorem dX5_find_50 : decode cX5_find 50 = .ok (.bipush 8, 2) := by decide +kernel
theorem dX5_find_52 : decode cX5_find 52 = .ok (.iload_n 2, 1) := by decide +kernel
theorem dX5_find_53 : decode cX5_find 53 = .ok (.imul, 1) := by decide +kernel
theorem dX5_find_54 : decode cX5_find 54 = .ok (.iload_n 3, 1) := by decide +kernel
theorem dX5_find_55 : decode cX5_find 55 = .ok (.iadd, 1) := by decide +kernel
theorem dX5_find_56 : decode cX5_find 56 = .ok (.iaload, 1) := by decide +kernel
theorem dX5_find_57 : decode cX5_find 57 = .ok (.ireturn, 1) := by decide +kernel
theorem dX5_find_58 : decode cX5_find 58 = .ok (.iinc 3 1, 3) := by decide +kernel
theorem dX5_find_61 : decode cX5_find 61 = .ok (.goto (-49), 3) := by decide +kernel
theorem dX5_find_64 : decode cX5_find 64 = .ok (.iinc 2 1, 3) := by decide +kernel
theorem dX5_find_67 : decode cX5_find 67 = .ok (.goto (-65), 3) := by decide +kernel
theorem dX5_find_70 : decode cX5_find 70 = .ok (.iconst (-1), 1) := by decide +kernel
theorem dX5_find_71 : decode cX5_find 71 = .ok (.ireturn, 1) := by decide +kernel
theorem dX5_earlier_0 : decode cX5_earlier 0 = .ok (.iconst 0, 1) := by decide +kernel
theorem dX5_earlier_1 : decode cX5_earlier 1 = .ok (.istore_n 2, 1) := by decide +kernel
theorem dX5_earlier_2 : decode cX5_earlier 2 = .ok (.iload_n 2, 1) := by decide +kernel
theorem dX5_earlier_3 : decode cX5_earlier 3 = .ok (.iload_n 1, 1) := by decide +kernel
theorem dX5_earlier_4 : decode cX5_earlier 4 = .ok (.if_icmp .ge 71, 3) := by decide +kernel
theorem dX5_earlier_7 : decode cX5_earlier 7 = .ok (.iconst 1, 1) := by decide +kernel
theorem dX5_earlier_8 : decode cX5_earlier 8 = .ok (.istore_n 3, 1) := by decide +kernel
theorem dX5_earlier_9 : decode cX5_earlier 9 = .ok (.iconst 0, 1) := by decide +kernel
theorem dX5_earlier_10 : decode cX5_earlier 10 = .ok (.istore 4, 2) := by decide +kernel
theorem dX5_earlier_12 : decode cX5_earlier 12 = .ok (.iload 4, 2) := by decide +kernel
theorem dX5_earlier_14 : decode cX5_earlier 14 = .ok (.bipush 8, 2) := by decide +kernel
theorem dX5_earlier_16 : decode cX5_earlier 16 = .ok (.if_icmp .ge 47, 3) := by decide +kernel
theorem dX5_earlier_19 : decode cX5_earlier 19 = .ok (.iload_n 3, 1) := by decide +kernel
theorem dX5_earlier_20 : decode cX5_earlier 20 = .ok (.ifCond .eq 35, 3) := by decide +kernel
theorem dX5_earlier_23 : decode cX5_earlier 23 = .ok (.aload_n 0, 1) := by decide +kernel
theorem dX5_earlier_24 : decode cX5_earlier 24 = .ok (.getfield 20, 3) := by decide +kernel
theorem dX5_earlier_27 : decode cX5_earlier 27 = .ok (.bipush 8, 2) := by decide +kernel
theorem dX5_earlier_29 : decode cX5_earlier 29 = .ok (.iload_n 2, 1) := by decide +kernel
theorem dX5_earlier_30 : decode cX5_earlier 30 = .ok (.imul, 1) := by decide +kernel
theorem dX5_earlier_31 : decode cX5_earlier 31 = .ok (.iload 4, 2) := by decide +kernel
theorem dX5_earlier_33 : decode cX5_earlier 33 = .ok (.iadd, 1) := by decide +kernel
theorem dX5_earlier_34 : decode cX5_earlier 34 = .ok (.laload, 1) := by decide +kernel
theorem dX5_earlier_35 : decode cX5_earlier 35 = .ok (.aload_n 0, 1) := by decide +kernel
theorem dX5_earlier_36 : decode cX5_earlier 36 = .ok (.getfield 20, 3) := by decide +kernel
theorem dX5_earlier_39 : decode cX5_earlier 39 = .ok (.bipush 8, 2) := by decide +kernel
theorem dX5_earlier_41 : decode cX5_earlier 41 = .ok (.iload_n 1, 1) := by decide +kernel
theorem dX5_earlier_42 : decode cX5_earlier 42 = .ok (.imul, 1) := by decide +kernel
theorem dX5_earlier_43 : decode cX5_earlier 43 = .ok (.iload 4, 2) := by decide +kernel
theorem dX5_earlier_45 : decode cX5_earlier 45 = .ok (.iadd, 1) := by decide +kernel
theorem dX5_earlier_46 : decode cX5_earlier 46 = .ok (.laload, 1) := by decide +kernel
theorem dX5_earlier_47 : decode cX5_earlier 47 = .ok (.lcmp, 1) := by decide +kernel
theorem dX5_earlier_48 : decode cX5_earlier 48 = .ok (.ifCond .ne 7, 3) := by decide +kernel
theorem dX5_earlier_51 : decode cX5_earlier 51 = .ok (.iconst 1, 1) := by decide +kernel
theorem dX5_earlier_52 : decode cX5_earlier 52 = .ok (.goto 4, 3) := by decide +kernel
theorem dX5_earlier_55 : decode cX5_earlier 55 = .ok (.iconst 0, 1) := by decide +kernel
theorem dX5_earlier_56 : decode cX5_earlier 56 = .ok (.istore_n 3, 1) := by decide +kernel
theorem dX5_earlier_57 : decode cX5_earlier 57 = .ok (.iinc 4 1, 3) := by decide +kernel
theorem dX5_earlier_60 : decode cX5_earlier 60 = .ok (.goto (-48), 3) := by decide +kernel
theorem dX5_earlier_63 : decode cX5_earlier 63 = .ok (.iload_n 3, 1) := by decide +kernel
theorem dX5_earlier_64 : decode cX5_earlier 64 = .ok (.ifCond .eq 5, 3) := by decide +kernel
theorem dX5_earlier_67 : decode cX5_earlier 67 = .ok (.iload_n 2, 1) := by decide +kernel
theorem dX5_earlier_68 : decode cX5_earlier 68 = .ok (.ireturn, 1) := by decide +kernel
theorem dX5_earlier_69 : decode cX5_earlier 69 = .ok (.iinc 2 1, 3) := by decide +kernel
theorem dX5_earlier_72 : decode cX5_earlier 72 = .ok (.goto (-70), 3) := by decide +kernel
theorem dX5_earlier_75 : decode cX5_earlier 75 = .ok (.iconst (-1), 1) := by decide +kernel
theorem dX5_earlier_76 : decode cX5_earlier 76 = .ok (.ireturn, 1) := by decide +kernel
theorem dX5_leastFree_0 : decode cX5_leastFree 0 = .ok (.iconst 0, 1) := by decide +kernel
theorem dX5_leastFree_1 : decode cX5_leastFree 1 = .ok (.istore_n 2, 1) := by decide +kernel
theorem dX5_leastFree_2 : decode cX5_leastFree 2 = .ok (.iconst 1, 1) := by decide +kernel
theorem dX5_leastFree_3 : decode cX5_leastFree 3 = .ok (.istore_n 3, 1) := by decide +kernel
theorem dX5_leastFree_4 : decode cX5_leastFree 4 = .ok (.iload_n 3, 1) := by decide +kernel
theorem dX5_leastFree_5 : decode cX5_leastFree 5 = .ok (.ifCond .eq 78, 3) := by decide +kernel
theorem dX5_leastFree_8 : decode cX5_leastFree 8 = .ok (.aload_n 0, 1) := by decide +kernel
theorem dX5_leastFree_9 : decode cX5_leastFree 9 = .ok (.iload_n 2, 1) := by decide +kernel
theorem dX5_leastFree_10 : decode cX5_leastFree 10 = .ok (.invokevirtual 145, 3) := by decide +kernel
theorem dX5_leastFree_13 : decode cX5_leastFree 13 = .ok (.ifCond .le 7, 3) := by decide +kernel
theorem dX5_leastFree_16 : decode cX5_leastFree 16 = .ok (.iconst 1, 1) := by decide +kernel
theorem dX5_leastFree_17 : decode cX5_leastFree 17 = .ok (.goto 4, 3) := by decide +kernel
theorem dX5_leastFree_20 : decode cX5_leastFree 20 = .ok (.iconst 0, 1) := by decide +kernel
theorem dX5_leastFree_21 : decode cX5_leastFree 21 = .ok (.istore_n 3, 1) := by decide +kernel
theorem dX5_leastFree_22 : decode cX5_leastFree 22 = .ok (.iconst 0, 1) := by decide +kernel
theorem dX5_leastFree_23 : decode cX5_leastFree 23 = .ok (.istore 4, 2) := by decide +kernel
theorem dX5_leastFree_25 : decode cX5_leastFree 25 = .ok (.iload 4, 2) := by decide +kernel
theorem dX5_leastFree_27 : decode cX5_leastFree 27 = .ok (.iload_n 1, 1) := by decide +kernel
theorem dX5_leastFree_28 : decode cX5_leastFree 28 = .ok (.if_icmp .ge 40, 3) := by decide +kernel
theorem dX5_leastFree_31 : decode cX5_leastFree 31 = .ok (.iload_n 3, 1) := by decide +kernel
theorem dX5_leastFree_32 : decode cX5_leastFree 32 = .ok (.ifCond .ne 24, 3) := by decide +kernel
theorem dX5_leastFree_35 : decode cX5_leastFree 35 = .ok (.aload_n 0, 1) := by decide +kernel
theorem dX5_leastFree_36 : decode cX5_leastFree 36 = .ok (.getfield 47, 3) := by decide +kernel
theorem dX5_leastFree_39 : decode cX5_leastFree 39 = .ok (.iload 4, 2) := by decide +kernel
theorem dX5_leastFree_41 : decode cX5_leastFree 41 = .ok (.baload, 1) := by decide +kernel
theorem dX5_leastFree_42 : decode cX5_leastFree 42 = .ok (.ifCond .eq 18, 3) := by decide +kernel
theorem dX5_leastFree_45 : decode cX5_leastFree 45 = .ok (.aload_n 0, 1) := by decide +kernel
theorem dX5_leastFree_46 : decode cX5_leastFree 46 = .ok (.getfield 44, 3) := by decide +kernel
theorem dX5_leastFree_49 : decode cX5_leastFree 49 = .ok (.iload 4, 2) := by decide +kernel
theorem dX5_leastFree_51 : decode cX5_leastFree 51 = .ok (.iaload, 1) := by decide +kernel
theorem dX5_leastFree_52 : decode cX5_leastFree 52 = .ok (.iload_n 2, 1) := by decide +kernel
theorem dX5_leastFree_53 : decode cX5_leastFree 53 = .ok (.if_icmp .ne 7, 3) := by decide +kernel
theorem dX5_leastFree_56 : decode cX5_leastFree 56 = .ok (.iconst 1, 1) := by decide +kernel
theorem dX5_leastFree_57 : decode cX5_leastFree 57 = .ok (.goto 4, 3) := by decide +kernel
theorem dX5_leastFree_60 : decode cX5_leastFree 60 = .ok (.iconst 0, 1) := by decide +kernel
theorem dX5_leastFree_61 : decode cX5_leastFree 61 = .ok (.istore_n 3, 1) := by decide +kernel
theorem dX5_leastFree_62 : decode cX5_leastFree 62 = .ok (.iinc 4 1, 3) := by decide +kernel
theorem dX5_leastFree_65 : decode cX5_leastFree 65 = .ok (.goto (-40), 3) := by decide +kernel
theorem dX5_leastFree_68 : decode cX5_leastFree 68 = .ok (.iload_n 2, 1) := by decide +kernel
theorem dX5_leastFree_69 : decode cX5_leastFree 69 = .ok (.iload_n 3, 1) := by decide +kernel
theorem dX5_leastFree_70 : decode cX5_leastFree 70 = .ok (.ifCond .eq 7, 3) := by decide +kernel
theorem dX5_leastFree_73 : decode cX5_leastFree 73 = .ok (.iconst 1, 1) := by decide +kernel
theorem dX5_leastFree_74 : decode cX5_leastFree 74 = .ok (.goto 4, 3) := by decide +kernel
theorem dX5_leastFree_77 : decode cX5_leastFree 77 = .ok (.iconst 0, 1) := by decide +kernel
theorem dX5_leastFree_78 : decode cX5_leastFree 78 = .ok (.iadd, 1) := by decide +kernel
theorem dX5_leastFree_79 : decode cX5_leastFree 79 = .ok (.istore_n 2, 1) := by decide +kernel
theorem dX5_leastFree_80 : decode cX5_leastFree 80 = .ok (.goto (-76), 3) := by decide +kernel
theorem dX5_leastFree_83 : decode cX5_leastFree 83 = .ok (.iload_n 2, 1) := by decide +kernel
theorem dX5_leastFree_84 : decode cX5_leastFree 84 = .ok (.ireturn, 1) := by decide +kernel
theorem dX5_version_0 : decode cX5_version 0 = .ok (.aload_n 0, 1) := by decide +kernel
theorem dX5_version_1 : decode cX5_version 1 = .ok (.aload_n 0, 1) := by decide +kernel
theorem dX5_version_2 : decode cX5_version 2 = .ok (.getfield 94, 3) := by decide +kernel
theorem dX5_version_5 : decode cX5_version 5 = .ok (.ifCond .eq 7, 3) := by decide +kernel
theorem dX5_version_8 : decode cX5_version 8 = .ok (.iconst 0, 1) := by decide +kernel
theorem dX5_version_9 : decode cX5_version 9 = .ok (.goto 4, 3) := by decide +kernel
theorem dX5_version_12 : decode cX5_version 12 = .ok (.iconst 1, 1) := by decide +kernel
theorem dX5_version_13 : decode cX5_version 13 = .ok (.putfield 75, 3) := by decide +kernel
theorem dX5_version_16 : decode cX5_version 16 = .ok (.aload_n 0, 1) := by decide +kernel
theorem dX5_version_17 : decode cX5_version 17 = .ok (.getfield 75, 3) := by decide +kernel
theorem dX5_version_20 : decode cX5_version 20 = .ok (.ifCond .le 5, 3) := by decide +kernel
theorem dX5_version_23 : decode cX5_version 23 = .ok (.iconst 0, 1) := by decide +kernel
theorem dX5_version_24 : decode cX5_version 24 = .ok (.ireturn, 1) := by decide +kernel
theorem dX5_version_25 : decode cX5_version 25 = .ok (.aload_n 0, 1) := by decide +kernel
theorem dX5_version_26 : decode cX5_version 26 = .ok (.getfield 110, 3) := by decide +kernel
theorem dX5_version_29 : decode cX5_version 29 = .ok (.bipush 100, 2) := by decide +kernel
theorem dX5_version_31 : decode cX5_version 31 = .ok (.if_icmp .ne 6, 3) := by decide +kernel
theorem dX5_version_34 : decode cX5_version 34 = .ok (.bipush (-3), 2) := by decide +kernel
theorem dX5_version_36 : decode cX5_version 36 = .ok (.ireturn, 1) := by decide +kernel
theorem dX5_version_37 : decode cX5_version 37 = .ok (.bipush 28, 2) := by decide +kernel
theorem dX5_version_39 : decode cX5_version 39 = .ok (.istore_n 1, 1) := by decide +kernel
theorem dX5_version_40 : decode cX5_version 40 = .ok (.iconst 0, 1) := by decide +kernel
theorem dX5_version_41 : decode cX5_version 41 = .ok (.istore_n 2, 1) := by decide +kernel
theorem dX5_version_42 : decode cX5_version 42 = .ok (.iload_n 2, 1) := by decide +kernel
theorem dX5_version_43 : decode cX5_version 43 = .ok (.bipush 8, 2) := by decide +kernel
theorem dX5_version_45 : decode cX5_version 45 = .ok (.if_icmp .ge 110, 3) := by decide +kernel
theorem dX5_version_48 : decode cX5_version 48 = .ok (.aload_n 0, 1) := by decide +kernel
theorem dX5_version_49 : decode cX5_version 49 = .ok (.getfield 44, 3) := by decide +kernel
theorem dX5_version_52 : decode cX5_version 52 = .ok (.iload_n 2, 1) := by decide +kernel
theorem dX5_version_53 : decode cX5_version 53 = .ok (.aload_n 0, 1) := by decide +kernel
theorem dX5_version_54 : decode cX5_version 54 = .ok (.iload_n 2, 1) := by decide +kernel
theorem dX5_version_55 : decode cX5_version 55 = .ok (.invokevirtual 169, 3) := by decide +kernel
theorem dX5_version_58 : decode cX5_version 58 = .ok (.iastore, 1) := by decide +kernel
theorem dX5_version_59 : decode cX5_version 59 = .ok (.aload_n 0, 1) := by decide +kernel
theorem dX5_version_60 : decode cX5_version 60 = .ok (.getfield 47, 3) := by decide +kernel
theorem dX5_version_63 : decode cX5_version 63 = .ok (.iload_n 2, 1) := by decide +kernel
theorem dX5_version_64 : decode cX5_version 64 = .ok (.iconst 0, 1) := by decide +kernel
theorem dX5_version_65 : decode cX5_version 65 = .ok (.bastore, 1) := by decide +kernel
theorem dX5_version_66 : decode cX5_version 66 = .ok (.aload_n 0, 1) := by decide +kernel
theorem dX5_version_67 : decode cX5_version 67 = .ok (.iload_n 2, 1) := by decide +kernel
theorem dX5_version_68 : decode cX5_version 68 = .ok (.invokevirtual 172, 3) := by decide +kernel
theorem dX5_version_71 : decode cX5_version 71 = .ok (.istore_n 3, 1) := by decide +kernel
theorem dX5_version_72 : decode cX5_version 72 = .ok (.aload_n 0, 1) := by decide +kernel
theorem dX5_version_73 : decode cX5_version 73 = .ok (.getfield 44, 3) := by decide +kernel
theorem dX5_version_76 : decode cX5_version 76 = .ok (.iload_n 2, 1) := by decide +kernel
theorem dX5_version_77 : decode cX5_version 77 = .ok (.iaload, 1) := by decide +kernel
theorem dX5_version_78 : decode cX5_version 78 = .ok (.iconst (-1), 1) := by decide +kernel
theorem dX5_version_79 : decode cX5_version 79 = .ok (.if_icmp .ne 20, 3) := by decide +kernel
theorem dX5_version_82 : decode cX5_version 82 = .ok (.iload_n 3, 1) := by decide +kernel
theorem dX5_version_83 : decode cX5_version 83 = .ok (.iconst (-1), 1) := by decide +kernel
theorem dX5_version_84 : decode cX5_version 84 = .ok (.if_icmp .eq 15, 3) := by decide +kernel
theorem dX5_version_87 : decode cX5_version 87 = .ok (.aload_n 0, 1) := by decide +kernel
theorem dX5_version_88 : decode cX5_version 88 = .ok (.getfield 44, 3) := by decide +kernel
theorem dX5_version_91 : decode cX5_version 91 = .ok (.iload_n 2, 1) := by decide +kernel
theorem dX5_version_92 : decode cX5_version 92 = .ok (.aload_n 0, 1) := by decide +kernel
theorem dX5_version_93 : decode cX5_version 93 = .ok (.getfield 44, 3) := by decide +kernel
theorem dX5_version_96 : decode cX5_version 96 = .ok (.iload_n 3, 1) := by decide +kernel
theorem dX5_version_97 : decode cX5_version 97 = .ok (.iaload, 1) := by decide +kernel
theorem dX5_version_98 : decode cX5_version 98 = .ok (.iastore, 1) := by decide +kernel
theorem dX5_version_99 : decode cX5_version 99 = .ok (.aload_n 0, 1) := by decide +kernel
theorem dX5_version_100 : decode cX5_version 100 = .ok (.getfield 44, 3) := by decide +kernel
theorem dX5_version_103 : decode cX5_version 103 = .ok (.iload_n 2, 1) := by decide +kernel
theorem dX5_version_104 : decode cX5_version 104 = .ok (.iaload, 1) := by decide +kernel
theorem dX5_version_105 : decode cX5_version 105 = .ok (.iconst (-1), 1) := by decide +kernel
theorem dX5_version_106 : decode cX5_version 106 = .ok (.if_icmp .eq 6, 3) := by decide +kernel
theorem dX5_version_109 : decode cX5_version 109 = .ok (.goto 40, 3) := by decide +kernel
theorem dX5_version_112 : decode cX5_version 112 = .ok (.aload_n 0, 1) := by decide +kernel
theorem dX5_version_113 : decode cX5_version 113 = .ok (.getfield 44, 3) := by decide +kernel
theorem dX5_version_116 : decode cX5_version 116 = .ok (.iload_n 2, 1) := by decide +kernel
theorem dX5_version_117 : decode cX5_version 117 = .ok (.aload_n 0, 1) := by decide +kernel
theorem dX5_version_118 : decode cX5_version 118 = .ok (.iload_n 2, 1) := by decide +kernel
theorem dX5_version_119 : decode cX5_version 119 = .ok (.invokevirtual 175, 3) := by decide +kernel
theorem dX5_version_122 : decode cX5_version 122 = .ok (.iastore, 1) := by decide +kernel
theorem dX5_version_123 : decode cX5_version 123 = .ok (.aload_n 0, 1) := by decide +kernel
theorem dX5_version_124 : decode cX5_version 124 = .ok (.getfield 47, 3) := by decide +kernel
theorem dX5_version_127 : decode cX5_version 127 = .ok (.iload_n 2, 1) := by decide +kernel
theorem dX5_version_128 : decode cX5_version 128 = .ok (.iconst 1, 1) := by decide +kernel
theorem dX5_version_129 : decode cX5_version 129 = .ok (.bastore, 1) := by decide +kernel
theorem dX5_version_130 : decode cX5_version 130 = .ok (.iinc 1 76, 3) := by decide +kernel
theorem dX5_version_133 : decode cX5_version 133 = .ok (.aload_n 0, 1) := by decide +kernel
theorem dX5_version_134 : decode cX5_version 134 = .ok (.getfield 44, 3) := by decide +kernel
theorem dX5_version_137 : decode cX5_version 137 = .ok (.iload_n 2, 1) := by decide +kernel
theorem dX5_version_138 : decode cX5_version 138 = .ok (.iaload, 1) := by decide +kernel
theorem dX5_version_139 : decode cX5_version 139 = .ok (.aload_n 0, 1) := by decide +kernel
theorem dX5_version_140 : decode cX5_version 140 = .ok (.getfield 79, 3) := by decide +kernel
theorem dX5_version_143 : decode cX5_version 143 = .ok (.if_icmp .lt 6, 3) := by decide +kernel
theorem dX5_version_146 : decode cX5_version 146 = .ok (.bipush (-3), 2) := by decide +kernel
theorem dX5_version_148 : decode cX5_version 148 = .ok (.ireturn, 1) := by decide +kernel
theorem dX5_version_149 : decode cX5_version 149 = .ok (.iinc 2 1, 3) := by decide +kernel
theorem dX5_version_152 : decode cX5_version 152 = .ok (.goto (-110), 3) := by decide +kernel
theorem dX5_version_155 : decode cX5_version 155 = .ok (.aload_n 0, 1) := by decide +kernel
theorem dX5_version_156 : decode cX5_version 156 = .ok (.iload_n 1, 1) := by decide +kernel
theorem dX5_version_157 : decode cX5_version 157 = .ok (.invokevirtual 156, 3) := by decide +kernel
theorem dX5_version_160 : decode cX5_version 160 = .ok (.ifCond .ne 6, 3) := by decide +kernel
theorem dX5_version_163 : decode cX5_version 163 = .ok (.bipush (-3), 2) := by decide +kernel
theorem dX5_version_165 : decode cX5_version 165 = .ok (.ireturn, 1) := by decide +kernel
theorem dX5_version_166 : decode cX5_version 166 = .ok (.iconst 0, 1) := by decide +kernel
theorem dX5_version_167 : decode cX5_version 167 = .ok (.istore_n 2, 1) := by decide +kernel
theorem dX5_version_168 : decode cX5_version 168 = .ok (.iload_n 2, 1) := by decide +kernel
theorem dX5_version_169 : decode cX5_version 169 = .ok (.bipush 8, 2) := by decide +kernel
theorem dX5_version_171 : decode cX5_version 171 = .ok (.if_icmp .ge 82, 3) := by decide +kernel
theorem dX5_version_174 : decode cX5_version 174 = .ok (.aload_n 0, 1) := by decide +kernel
theorem dX5_version_175 : decode cX5_version 175 = .ok (.getfield 47, 3) := by decide +kernel
theorem dX5_version_178 : decode cX5_version 178 = .ok (.iload_n 2, 1) := by decide +kernel
theorem dX5_version_179 : decode cX5_version 179 = .ok (.baload, 1) := by decide +kernel
theorem dX5_version_180 : decode cX5_version 180 = .ok (.ifCond .ne 6, 3) := by decide +kernel
theorem dX5_version_183 : decode cX5_version 183 = .ok (.goto 64, 3) := by decide +kernel
theorem dX5_version_186 : decode cX5_version 186 = .ok (.aload_n 0, 1) := by decide +kernel
theorem dX5_version_187 : decode cX5_version 187 = .ok (.iconst 1, 1) := by decide +kernel
theorem dX5_version_188 : decode cX5_version 188 = .ok (.aload_n 0, 1) := by decide +kernel
theorem dX5_version_189 : decode cX5_version 189 = .ok (.getfield 44, 3) := by decide +kernel
theorem dX5_version_192 : decode cX5_version 192 = .ok (.iload_n 2, 1) := by decide +kernel
theorem dX5_version_193 : decode cX5_version 193 = .ok (.iaload, 1) := by decide +kernel
theorem dX5_version_194 : decode cX5_version 194 = .ok (.bipush 64, 2) := by decide +kernel
theorem dX5_version_196 : decode cX5_version 196 = .ok (.invokevirtual 159, 3) := by decide +kernel
theorem dX5_version_199 : decode cX5_version 199 = .ok (.istore_n 3, 1) := by decide +kernel
theorem dX5_version_200 : decode cX5_version 200 = .ok (.iconst 0, 1) := by decide +kernel
theorem dX5_version_201 : decode cX5_version 201 = .ok (.istore 4, 2) := by decide +kernel
theorem dX5_version_203 : decode cX5_version 203 = .ok (.iload 4, 2) := by decide +kernel
theorem dX5_version_205 : decode cX5_version 205 = .ok (.bipush 8, 2) := by decide +kernel
theorem dX5_version_207 : decode cX5_version 207 = .ok (.if_icmp .ge 34, 3) := by decide +kernel
theorem dX5_version_210 : decode cX5_version 210 = .ok (.aload_n 0, 1) := by decide +kernel
theorem dX5_version_211 : decode cX5_version 211 = .ok (.iload_n 3, 1) := by decide +kernel
theorem dX5_version_212 : decode cX5_version 212 = .ok (.bipush 8, 2) := by decide +kernel
theorem dX5_version_214 : decode cX5_version 214 = .ok (.iload 4, 2) := by decide +kernel
theorem dX5_version_216 : decode cX5_version 216 = .ok (.imul, 1) := by decide +kernel
theorem dX5_version_217 : decode cX5_version 217 = .ok (.iadd, 1) := by decide +kernel
theorem dX5_version_218 : decode cX5_version 218 = .ok (.aload_n 0, 1) := by decide +kernel
theorem dX5_version_219 : decode cX5_version 219 = .ok (.getfield 20, 3) := by decide +kernel
theorem dX5_version_222 : decode cX5_version 222 = .ok (.bipush 8, 2) := by decide +kernel
theorem dX5_version_224 : decode cX5_version 224 = .ok (.iload_n 2, 1) := by decide +kernel
theorem dX5_version_225 : decode cX5_version 225 = .ok (.imul, 1) := by decide +kernel
theorem dX5_version_226 : decode cX5_version 226 = .ok (.iload 4, 2) := by decide +kernel
theorem dX5_version_228 : decode cX5_version 228 = .ok (.iadd, 1) := by decide +kernel
theorem dX5_version_229 : decode cX5_version 229 = .ok (.laload, 1) := by decide +kernel
theorem dX5_version_230 : decode cX5_version 230 = .ok (.bipush 8, 2) := by decide +kernel
theorem dX5_version_232 : decode cX5_version 232 = .ok (.invokevirtual 122, 3) := by decide +kernel
theorem dX5_version_235 : decode cX5_version 235 = .ok (.iinc 4 1, 3) := by decide +kernel
theorem dX5_version_238 : decode cX5_version 238 = .ok (.goto (-35), 3) := by decide +kernel
theorem dX5_version_241 : decode cX5_version 241 = .ok (.aload_n 0, 1) := by decide +kernel
theorem dX5_version_242 : decode cX5_version 242 = .ok (.bipush 64, 2) := by decide +kernel
theorem dX5_version_244 : decode cX5_version 244 = .ok (.invokevirtual 163, 3) := by decide +kernel
theorem dX5_version_247 : decode cX5_version 247 = .ok (.iinc 2 1, 3) := by decide +kernel
theorem dX5_version_250 : decode cX5_version 250 = .ok (.goto (-82), 3) := by decide +kernel
theorem dX5_version_253 : decode cX5_version 253 = .ok (.aload_n 0, 1) := by decide +kernel
theorem dX5_version_254 : decode cX5_version 254 = .ok (.iconst 3, 1) := by decide +kernel
theorem dX5_version_255 : decode cX5_version 255 = .ok (.aload_n 0, 1) := by decide +kernel
theorem dX5_version_256 : decode cX5_version 256 = .ok (.getfield 110, 3) := by decide +kernel
theorem dX5_version_259 : decode cX5_version 259 = .ok (.bipush 16, 2) := by decide +kernel
theorem dX5_version_261 : decode cX5_version 261 = .ok (.invokevirtual 159, 3) := by decide +kernel
theorem dX5_version_264 : decode cX5_version 264 = .ok (.istore_n 2, 1) := by decide +kernel
theorem dX5_version_265 : decode cX5_version 265 = .ok (.iconst 0, 1) := by decide +kernel
theorem dX5_version_266 : decode cX5_version 266 = .ok (.istore_n 3, 1) := by decide +kernel
theorem dX5_version_267 : decode cX5_version 267 = .ok (.iload_n 3, 1) := by decide +kernel
theorem dX5_version_268 : decode cX5_version 268 = .ok (.bipush 8, 2) := by decide +kernel
theorem dX5_version_270 : decode cX5_version 270 = .ok (.if_icmp .ge 26, 3) := by decide +kernel
theorem dX5_version_273 : decode cX5_version 273 = .ok (.aload_n 0, 1) := by decide +kernel
theorem dX5_version_274 : decode cX5_version 274 = .ok (.iload_n 2, 1) := by decide +kernel
theorem dX5_version_275 : decode cX5_version 275 = .ok (.iconst 2, 1) := by decide +kernel
theorem dX5_version_276 : decode cX5_version 276 = .ok (.iload_n 3, 1) := by decide +kernel
theorem dX5_version_277 : decode cX5_version 277 = .ok (.imul, 1) := by decide +kernel
theorem dX5_version_278 : decode cX5_version 278 = .ok (.iadd, 1) := by decide +kernel
theorem dX5_version_279 : decode cX5_version 279 = .ok (.aload_n 0, 1) := by decide +kernel
theorem dX5_version_280 : decode cX5_version 280 = .ok (.getfield 44, 3) := by decide +kernel
theorem dX5_version_283 : decode cX5_version 283 = .ok (.iload_n 3, 1) := by decide +kernel
theorem dX5_version_284 : decode cX5_version 284 = .ok (.iaload, 1) := by decide +kernel
theorem dX5_version_285 : decode cX5_version 285 = .ok (.i2l, 1) := by decide +kernel
theorem dX5_version_286 : decode cX5_version 286 = .ok (.iconst 2, 1) := by decide +kernel
theorem dX5_version_287 : decode cX5_version 287 = .ok (.invokevirtual 122, 3) := by decide +kernel
theorem dX5_version_290 : decode cX5_version 290 = .ok (.iinc 3 1, 3) := by decide +kernel
theorem dX5_version_293 : decode cX5_version 293 = .ok (.goto (-26), 3) := by decide +kernel
theorem dX5_version_296 : decode cX5_version 296 = .ok (.aload_n 0, 1) := by decide +kernel
theorem dX5_version_297 : decode cX5_version 297 = .ok (.bipush 16, 2) := by decide +kernel
theorem dX5_version_299 : decode cX5_version 299 = .ok (.invokevirtual 163, 3) := by decide +kernel
theorem dX5_version_302 : decode cX5_version 302 = .ok (.aload_n 0, 1) := by decide +kernel
theorem dX5_version_303 : decode cX5_version 303 = .ok (.getfield 110, 3) := by decide +kernel
theorem dX5_version_306 : decode cX5_version 306 = .ok (.iconst 1, 1) := by decide +kernel
theorem dX5_version_307 : decode cX5_version 307 = .ok (.isub, 1) := by decide +kernel
theorem dX5_version_308 : decode cX5_version 308 = .ok (.ireturn, 1) := by decide +kernel
theorem dX5_edges_0 : decode cX5_edges 0 = .ok (.iload_n 1, 1) := by decide +kernel
theorem dX5_edges_1 : decode cX5_edges 1 = .ok (.iconst (-1), 1) := by decide +kernel
theorem dX5_edges_2 : decode cX5_edges 2 = .ok (.if_icmp .ne 12, 3) := by decide +kernel
theorem dX5_edges_5 : decode cX5_edges 5 = .ok (.aload_n 0, 1) := by decide +kernel
theorem dX5_edges_6 : decode cX5_edges 6 = .ok (.getfield 20, 3) := by decide +kernel
theorem dX5_edges_9 : decode cX5_edges 9 = .ok (.iload_n 2, 1) := by decide +kernel
theorem dX5_edges_10 : decode cX5_edges 10 = .ok (.laload, 1) := by decide +kernel
theorem dX5_edges_11 : decode cX5_edges 11 = .ok (.goto 35, 3) := by decide +kernel
theorem dX5_edges_14 : decode cX5_edges 14 = .ok (.aload_n 0, 1) := by decide +kernel
theorem dX5_edges_15 : decode cX5_edges 15 = .ok (.getfield 28, 3) := by decide +kernel
theorem dX5_edges_18 : decode cX5_edges 18 = .ok (.bipush 8, 2) := by decide +kernel
theorem dX5_edges_20 : decode cX5_edges 20 = .ok (.aload_n 0, 1) := by decide +kernel
theorem dX5_edges_21 : decode cX5_edges 21 = .ok (.getfield 25, 3) := by decide +kernel
theorem dX5_edges_24 : decode cX5_edges 24 = .ok (.aload_n 0, 1) := by decide +kernel
theorem dX5_edges_25 : decode cX5_edges 25 = .ok (.getfield 35, 3) := by decide +kernel
theorem dX5_edges_28 : decode cX5_edges 28 = .ok (.bipush 8, 2) := by decide +kernel
theorem dX5_edges_30 : decode cX5_edges 30 = .ok (.iload_n 1, 1) := by decide +kernel
theorem dX5_edges_31 : decode cX5_edges 31 = .ok (.imul, 1) := by decide +kernel
theorem dX5_edges_32 : decode cX5_edges 32 = .ok (.iload_n 2, 1) := by decide +kernel
theorem dX5_edges_33 : decode cX5_edges 33 = .ok (.bipush 8, 2) := by decide +kernel
theorem dX5_edges_35 : decode cX5_edges 35 = .ok (.idiv, 1) := by decide +kernel
theorem dX5_edges_36 : decode cX5_edges 36 = .ok (.iadd, 1) := by decide +kernel
theorem dX5_edges_37 : decode cX5_edges 37 = .ok (.iaload, 1) := by decide +kernel
theorem dX5_edges_38 : decode cX5_edges 38 = .ok (.iaload, 1) := by decide +kernel
theorem dX5_edges_39 : decode cX5_edges 39 = .ok (.imul, 1) := by decide +kernel
theorem dX5_edges_40 : decode cX5_edges 40 = .ok (.iload_n 2, 1) := by decide +kernel
theorem dX5_edges_41 : decode cX5_edges 41 = .ok (.bipush 8, 2) := by decide +kernel
theorem dX5_edges_43 : decode cX5_edges 43 = .ok (.irem, 1) := by decide +kernel
theorem dX5_edges_44 : decode cX5_edges 44 = .ok (.iadd, 1) := by decide +kernel
theorem dX5_edges_45 : decode cX5_edges 45 = .ok (.laload, 1) := by decide +kernel
theorem dX5_edges_46 : decode cX5_edges 46 = .ok (.lreturn, 1) := by decide +kernel
theorem dX5_reach_0 : decode cX5_reach 0 = .ok (.lconst 1, 1) := by decide +kernel
theorem dX5_reach_1 : decode cX5_reach 1 = .ok (.iload_n 2, 1) := by decide +kernel
theorem dX5_reach_2 : decode cX5_reach 2 = .ok (.lshl, 1) := by decide +kernel
theorem dX5_reach_3 : decode cX5_reach 3 = .ok (.lstore_n 3, 1) := by decide +kernel
theorem dX5_reach_4 : decode cX5_reach 4 = .ok (.lconst 0, 1) := by decide +kernel
theorem dX5_reach_5 : decode cX5_reach 5 = .ok (.lstore 5, 2) := by decide +kernel
theorem dX5_reach_7 : decode cX5_reach 7 = .ok (.lload_n 3, 1) := by decide +kernel
theorem dX5_reach_8 : decode cX5_reach 8 = .ok (.lload 5, 2) := by decide +kernel
theorem dX5_reach_10 : decode cX5_reach 10 = .ok (.lcmp, 1) := by decide +kernel
theorem dX5_reach_11 : decode cX5_reach 11 = .ok (.ifCond .eq 47, 3) := by decide +kernel
theorem dX5_reach_14 : decode cX5_reach 14 = .ok (.lload_n 3, 1) := by decide +kernel
theorem dX5_reach_15 : decode cX5_reach 15 = .ok (.lstore 5, 2) := by decide +kernel
theorem dX5_reach_17 : decode cX5_reach 17 = .ok (.iconst 0, 1) := by decide +kernel
theorem dX5_reach_18 : decode cX5_reach 18 = .ok (.istore 7, 2) := by decide +kernel
theorem dX5_reach_20 : decode cX5_reach 20 = .ok (.iload 7, 2) := by decide +kernel
theorem dX5_reach_22 : decode cX5_reach 22 = .ok (.bipush 64, 2) := by decide +kernel
theorem dX5_reach_24 : decode cX5_reach 24 = .ok (.if_icmp .ge 31, 3) := by decide +kernel
theorem dX5_reach_27 : decode cX5_reach 27 = .ok (.lload 5, 2) := by decide +kernel
theorem dX5_reach_29 : decode cX5_reach 29 = .ok (.iload 7, 2) := by decide +kernel
theorem dX5_reach_31 : decode cX5_reach 31 = .ok (.lushr, 1) := by decide +kernel
theorem dX5_reach_32 : decode cX5_reach 32 = .ok (.lconst 1, 1) := by decide +kernel
theorem dX5_reach_33 : decode cX5_reach 33 = .ok (.land, 1) := by decide +kernel
theorem dX5_reach_34 : decode cX5_reach 34 = .ok (.lconst 1, 1) := by decide +kernel
theorem dX5_reach_35 : decode cX5_reach 35 = .ok (.lcmp, 1) := by decide +kernel
theorem dX5_reach_36 : decode cX5_reach 36 = .ok (.ifCond .ne 13, 3) := by decide +kernel
theorem dX5_reach_39 : decode cX5_reach 39 = .ok (.lload_n 3, 1) := by decide +kernel
theorem dX5_reach_40 : decode cX5_reach 40 = .ok (.aload_n 0, 1) := by decide +kernel
theorem dX5_reach_41 : decode cX5_reach 41 = .ok (.iload_n 1, 1) := by decide +kernel
theorem dX5_reach_42 : decode cX5_reach 42 = .ok (.iload 7, 2) := by decide +kernel
theorem dX5_reach_44 : decode cX5_reach 44 = .ok (.invokevirtual 178, 3) := by decide +kernel
theorem dX5_reach_47 : decode cX5_reach 47 = .ok (.lor, 1) := by decide +kernel
theorem dX5_reach_48 : decode cX5_reach 48 = .ok (.lstore_n 3, 1) := by decide +kernel
theorem dX5_reach_49 : decode cX5_reach 49 = .ok (.iinc 7 1, 3) := by decide +kernel
theorem dX5_reach_52 : decode cX5_reach 52 = .ok (.goto (-32), 3) := by decide +kernel
theorem dX5_reach_55 : decode cX5_reach 55 = .ok (.goto (-48), 3) := by decide +kernel
theorem dX5_reach_58 : decode cX5_reach 58 = .ok (.lload_n 3, 1) := by decide +kernel
theorem dX5_reach_59 : decode cX5_reach 59 = .ok (.lreturn, 1) := by decide +kernel
theorem dX5_answer_0 : decode cX5_answer 0 = .ok (.aload_n 0, 1) := by decide +kernel
theorem dX5_answer_1 : decode cX5_answer 1 = .ok (.aload_n 0, 1) := by decide +kernel
theorem dX5_answer_2 : decode cX5_answer 2 = .ok (.getfield 94, 3) := by decide +kernel
theorem dX5_answer_5 : decode cX5_answer 5 = .ok (.ifCond .ne 7, 3) := by decide +kernel
theorem dX5_answer_8 : decode cX5_answer 8 = .ok (.iconst 1, 1) := by decide +kernel
theorem dX5_answer_9 : decode cX5_answer 9 = .ok (.goto 26, 3) := by decide +kernel
theorem dX5_answer_12 : decode cX5_answer 12 = .ok (.aload_n 0, 1) := by decide +kernel
theorem dX5_answer_13 : decode cX5_answer 13 = .ok (.iload_n 1, 1) := by decide +kernel
theorem dX5_answer_14 : decode cX5_answer 14 = .ok (.invokevirtual 152, 3) := by decide +kernel
theorem dX5_answer_17 : decode cX5_answer 17 = .ok (.ifCond .eq 13, 3) := by decide +kernel
theorem dX5_answer_20 : decode cX5_answer 20 = .ok (.iload_n 2, 1) := by decide +kernel
theorem dX5_answer_21 : decode cX5_answer 21 = .ok (.iconst 0, 1) := by decide +kernel
theorem dX5_answer_22 : decode cX5_answer 22 = .ok (.bipush 63, 2) := by decide +kernel
theorem dX5_answer_24 : decode cX5_answer 24 = .ok (.invokestatic 133, 3) := by decide +kernel
theorem dX5_answer_27 : decode cX5_answer 27 = .ok (.ifCond .ne 7, 3) := by decide +kernel
theorem dX5_answer_30 : decode cX5_answer 30 = .ok (.iconst 2, 1) := by decide +kernel
theorem dX5_answer_31 : decode cX5_answer 31 = .ok (.goto 4, 3) := by decide +kernel
theorem dX5_answer_34 : decode cX5_answer 34 = .ok (.iconst 0, 1) := by decide +kernel
theorem dX5_answer_35 : decode cX5_answer 35 = .ok (.putfield 75, 3) := by decide +kernel
theorem dX5_answer_38 : decode cX5_answer 38 = .ok (.aload_n 0, 1) := by decide +kernel
theorem dX5_answer_39 : decode cX5_answer 39 = .ok (.getfield 75, 3) := by decide +kernel
theorem dX5_answer_42 : decode cX5_answer 42 = .ok (.ifCond .le 5, 3) := by decide +kernel
theorem dX5_answer_45 : decode cX5_answer 45 = .ok (.iconst 0, 1) := by decide +kernel
theorem dX5_answer_46 : decode cX5_answer 46 = .ok (.ireturn, 1) := by decide +kernel
theorem dX5_answer_47 : decode cX5_answer 47 = .ok (.aload_n 0, 1) := by decide +kernel
theorem dX5_answer_48 : decode cX5_answer 48 = .ok (.getfield 113, 3) := by decide +kernel
theorem dX5_answer_51 : decode cX5_answer 51 = .ok (.bipush 100, 2) := by decide +kernel
theorem dX5_answer_53 : decode cX5_answer 53 = .ok (.if_icmp .eq 12, 3) := by decide +kernel
theorem dX5_answer_56 : decode cX5_answer 56 = .ok (.aload_n 0, 1) := by decide +kernel
theorem dX5_answer_57 : decode cX5_answer 57 = .ok (.bipush 22, 2) := by decide +kernel
theorem dX5_answer_59 : decode cX5_answer 59 = .ok (.invokevirtual 156, 3) := by decide +kernel
theorem dX5_answer_62 : decode cX5_answer 62 = .ok (.ifCond .ne 6, 3) := by decide +kernel
theorem dX5_answer_65 : decode cX5_answer 65 = .ok (.bipush (-3), 2) := by decide +kernel
theorem dX5_answer_67 : decode cX5_answer 67 = .ok (.ireturn, 1) := by decide +kernel
theorem dX5_answer_68 : decode cX5_answer 68 = .ok (.aload_n 0, 1) := by decide +kernel
theorem dX5_answer_69 : decode cX5_answer 69 = .ok (.iconst 4, 1) := by decide +kernel
theorem dX5_answer_70 : decode cX5_answer 70 = .ok (.aload_n 0, 1) := by decide +kernel
theorem dX5_answer_71 : decode cX5_answer 71 = .ok (.getfield 113, 3) := by decide +kernel
theorem dX5_answer_74 : decode cX5_answer 74 = .ok (.bipush 10, 2) := by decide +kernel
theorem dX5_answer_76 : decode cX5_answer 76 = .ok (.invokevirtual 159, 3) := by decide +kernel
theorem dX5_answer_79 : decode cX5_answer 79 = .ok (.istore_n 3, 1) := by decide +kernel
theorem dX5_answer_80 : decode cX5_answer 80 = .ok (.aload_n 0, 1) := by decide +kernel
theorem dX5_answer_81 : decode cX5_answer 81 = .ok (.iload_n 3, 1) := by decide +kernel
theorem dX5_answer_82 : decode cX5_answer 82 = .ok (.iload_n 1, 1) := by decide +kernel
theorem dX5_answer_83 : decode cX5_answer 83 = .ok (.invokevirtual 118, 3) := by decide +kernel
theorem dX5_answer_86 : decode cX5_answer 86 = .ok (.aload_n 0, 1) := by decide +kernel
theorem dX5_answer_87 : decode cX5_answer 87 = .ok (.iload_n 3, 1) := by decide +kernel
theorem dX5_answer_88 : decode cX5_answer 88 = .ok (.iconst 1, 1) := by decide +kernel
theorem dX5_answer_89 : decode cX5_answer 89 = .ok (.iadd, 1) := by decide +kernel
theorem dX5_answer_90 : decode cX5_answer 90 = .ok (.iload_n 2, 1) := by decide +kernel
theorem dX5_answer_91 : decode cX5_answer 91 = .ok (.invokevirtual 118, 3) := by decide +kernel
theorem dX5_answer_94 : decode cX5_answer 94 = .ok (.aload_n 0, 1) := by decide +kernel
theorem dX5_answer_95 : decode cX5_answer 95 = .ok (.iload_n 3, 1) := by decide +kernel
theorem dX5_answer_96 : decode cX5_answer 96 = .ok (.iconst 2, 1) := by decide +kernel
theorem dX5_answer_97 : decode cX5_answer 97 = .ok (.iadd, 1) := by decide +kernel
theorem dX5_answer_98 : decode cX5_answer 98 = .ok (.aload_n 0, 1) := by decide +kernel
theorem dX5_answer_99 : decode cX5_answer 99 = .ok (.iload_n 1, 1) := by decide +kernel
theorem dX5_answer_100 : decode cX5_answer 100 = .ok (.iload_n 2, 1) := by decide +kernel
theorem dX5_answer_101 : decode cX5_answer 101 = .ok (.invokevirtual 181, 3) := by decide +kernel
theorem dX5_answer_104 : decode cX5_answer 104 = .ok (.bipush 8, 2) := by decide +kernel
theorem dX5_answer_106 : decode cX5_answer 106 = .ok (.invokevirtual 122, 3) := by decide +kernel
theorem dX5_answer_109 : decode cX5_answer 109 = .ok (.aload_n 0, 1) := by decide +kernel
theorem dX5_answer_110 : decode cX5_answer 110 = .ok (.bipush 10, 2) := by decide +kernel
theorem dX5_answer_112 : decode cX5_answer 112 = .ok (.invokevirtual 163, 3) := by decide +kernel
theorem dX5_answer_115 : decode cX5_answer 115 = .ok (.aload_n 0, 1) := by decide +kernel
theorem dX5_answer_116 : decode cX5_answer 116 = .ok (.getfield 113, 3) := by decide +kernel
theorem dX5_answer_119 : decode cX5_answer 119 = .ok (.iconst 1, 1) := by decide +kernel
theorem dX5_answer_120 : decode cX5_answer 120 = .ok (.isub, 1) := by decide +kernel
theorem dX5_answer_121 : decode cX5_answer 121 = .ok (.ireturn, 1) := by decide +kernel
theorem dX5_namedMany_0 : decode cX5_namedMany 0 = .ok (.iconst 0, 1) := by decide +kernel
theorem dX5_namedMany_1 : decode cX5_namedMany 1 = .ok (.istore_n 1, 1) := by decide +kernel
theorem dX5_namedMany_2 : decode cX5_namedMany 2 = .ok (.iconst 0, 1) := by decide +kernel
theorem dX5_namedMany_3 : decode cX5_namedMany 3 = .ok (.istore_n 2, 1) := by decide +kernel
theorem dX5_namedMany_4 : decode cX5_namedMany 4 = .ok (.iload_n 2, 1) := by decide +kernel
theorem dX5_namedMany_5 : decode cX5_namedMany 5 = .ok (.ldc 24, 2) := by decide +kernel
theorem dX5_namedMany_7 : decode cX5_namedMany 7 = .ok (.if_icmp .ge 35, 3) := by decide +kernel
theorem dX5_namedMany_10 : decode cX5_namedMany 10 = .ok (.iload_n 1, 1) := by decide +kernel
theorem dX5_namedMany_11 : decode cX5_namedMany 11 = .ok (.aload_n 0, 1) := by decide +kernel
theorem dX5_namedMany_12 : decode cX5_namedMany 12 = .ok (.getfield 25, 3) := by decide +kernel
theorem dX5_namedMany_15 : decode cX5_namedMany 15 = .ok (.iload_n 2, 1) := by decide +kernel
theorem dX5_namedMany_16 : decode cX5_namedMany 16 = .ok (.iaload, 1) := by decide +kernel
theorem dX5_namedMany_17 : decode cX5_namedMany 17 = .ok (.iconst (-1), 1) := by decide +kernel
theorem dX5_namedMany_18 : decode cX5_namedMany 18 = .ok (.if_icmp .eq 15, 3) := by decide +kernel
theorem dX5_namedMany_21 : decode cX5_namedMany 21 = .ok (.aload_n 0, 1) := by decide +kernel
theorem dX5_namedMany_22 : decode cX5_namedMany 22 = .ok (.iload_n 2, 1) := by decide +kernel
theorem dX5_namedMany_23 : decode cX5_namedMany 23 = .ok (.invokevirtual 145, 3) := by decide +kernel
theorem dX5_namedMany_26 : decode cX5_namedMany 26 = .ok (.ifCond .le 7, 3) := by decide +kernel
theorem dX5_namedMany_29 : decode cX5_namedMany 29 = .ok (.iconst 1, 1) := by decide +kernel
theorem dX5_namedMany_30 : decode cX5_namedMany 30 = .ok (.goto 4, 3) := by decide +kernel
theorem dX5_namedMany_33 : decode cX5_namedMany 33 = .ok (.iconst 0, 1) := by decide +kernel
theorem dX5_namedMany_34 : decode cX5_namedMany 34 = .ok (.iadd, 1) := by decide +kernel
theorem dX5_namedMany_35 : decode cX5_namedMany 35 = .ok (.istore_n 1, 1) := by decide +kernel
theorem dX5_namedMany_36 : decode cX5_namedMany 36 = .ok (.iinc 2 1, 3) := by decide +kernel
theorem dX5_namedMany_39 : decode cX5_namedMany 39 = .ok (.goto (-35), 3) := by decide +kernel
theorem dX5_namedMany_42 : decode cX5_namedMany 42 = .ok (.iload_n 1, 1) := by decide +kernel
theorem dX5_namedMany_43 : decode cX5_namedMany 43 = .ok (.ireturn, 1) := by decide +kernel
theorem dX5_drop_0 : decode cX5_drop 0 = .ok (.aload_n 0, 1) := by decide +kernel
theorem dX5_drop_1 : decode cX5_drop 1 = .ok (.aload_n 0, 1) := by decide +kernel
theorem dX5_drop_2 : decode cX5_drop 2 = .ok (.getfield 94, 3) := by decide +kernel
theorem dX5_drop_5 : decode cX5_drop 5 = .ok (.ifCond .ne 7, 3) := by decide +kernel
theorem dX5_drop_8 : decode cX5_drop 8 = .ok (.iconst 1, 1) := by decide +kernel
theorem dX5_drop_9 : decode cX5_drop 9 = .ok (.goto 16, 3) := by decide +kernel
theorem dX5_drop_12 : decode cX5_drop 12 = .ok (.aload_n 0, 1) := by decide +kernel
theorem dX5_drop_13 : decode cX5_drop 13 = .ok (.iload_n 1, 1) := by decide +kernel
theorem dX5_drop_14 : decode cX5_drop 14 = .ok (.invokevirtual 152, 3) := by decide +kernel
theorem dX5_drop_17 : decode cX5_drop 17 = .ok (.ifCond .ne 7, 3) := by decide +kernel
theorem dX5_drop_20 : decode cX5_drop 20 = .ok (.iconst 2, 1) := by decide +kernel
theorem dX5_drop_21 : decode cX5_drop 21 = .ok (.goto 4, 3) := by decide +kernel
theorem dX5_drop_24 : decode cX5_drop 24 = .ok (.iconst 0, 1) := by decide +kernel
theorem dX5_drop_25 : decode cX5_drop 25 = .ok (.putfield 75, 3) := by decide +kernel
theorem dX5_drop_28 : decode cX5_drop 28 = .ok (.aload_n 0, 1) := by decide +kernel
theorem dX5_drop_29 : decode cX5_drop 29 = .ok (.getfield 75, 3) := by decide +kernel
theorem dX5_drop_32 : decode cX5_drop 32 = .ok (.ifCond .le 5, 3) := by decide +kernel
theorem dX5_drop_35 : decode cX5_drop 35 = .ok (.iconst 0, 1) := by decide +kernel
theorem dX5_drop_36 : decode cX5_drop 36 = .ok (.ireturn, 1) := by decide +kernel
theorem dX5_drop_37 : decode cX5_drop 37 = .ok (.aload_n 0, 1) := by decide +kernel
theorem dX5_drop_38 : decode cX5_drop 38 = .ok (.bipush 12, 2) := by decide +kernel
theorem dX5_drop_40 : decode cX5_drop 40 = .ok (.invokevirtual 156, 3) := by decide +kernel
theorem dX5_drop_43 : decode cX5_drop 43 = .ok (.ifCond .ne 6, 3) := by decide +kernel
theorem dX5_drop_46 : decode cX5_drop 46 = .ok (.bipush (-3), 2) := by decide +kernel
theorem dX5_drop_48 : decode cX5_drop 48 = .ok (.ireturn, 1) := by decide +kernel
theorem dX5_drop_49 : decode cX5_drop 49 = .ok (.aload_n 0, 1) := by decide +kernel
theorem dX5_drop_50 : decode cX5_drop 50 = .ok (.invokevirtual 184, 3) := by decide +kernel
theorem dX5_drop_53 : decode cX5_drop 53 = .ok (.istore_n 2, 1) := by decide +kernel
theorem dX5_drop_54 : decode cX5_drop 54 = .ok (.aload_n 0, 1) := by decide +kernel
theorem dX5_drop_55 : decode cX5_drop 55 = .ok (.iconst 5, 1) := by decide +kernel
theorem dX5_drop_56 : decode cX5_drop 56 = .ok (.iload_n 1, 1) := by decide +kernel
theorem dX5_drop_57 : decode cX5_drop 57 = .ok (.iconst 0, 1) := by decide +kernel
theorem dX5_drop_58 : decode cX5_drop 58 = .ok (.invokevirtual 159, 3) := by decide +kernel
theorem dX5_drop_61 : decode cX5_drop 61 = .ok (.pop, 1) := by decide +kernel
theorem dX5_drop_62 : decode cX5_drop 62 = .ok (.aload_n 0, 1) := by decide +kernel
theorem dX5_drop_63 : decode cX5_drop 63 = .ok (.iconst 0, 1) := by decide +kernel
theorem dX5_drop_64 : decode cX5_drop 64 = .ok (.invokevirtual 163, 3) := by decide +kernel
theorem dX5_drop_67 : decode cX5_drop 67 = .ok (.iload_n 2, 1) := by decide +kernel
theorem dX5_drop_68 : decode cX5_drop 68 = .ok (.aload_n 0, 1) := by decide +kernel
theorem dX5_drop_69 : decode cX5_drop 69 = .ok (.invokevirtual 184, 3) := by decide +kernel
theorem dX5_drop_72 : decode cX5_drop 72 = .ok (.isub, 1) := by decide +kernel
theorem dX5_drop_73 : decode cX5_drop 73 = .ok (.ireturn, 1) := by decide +kernel
theorem dX5_keep_0 : decode cX5_keep 0 = .ok (.aload_n 0, 1) := by decide +kernel
theorem dX5_keep_1 : decode cX5_keep 1 = .ok (.aload_n 0, 1) := by decide +kernel
theorem dX5_keep_2 : decode cX5_keep 2 = .ok (.getfield 94, 3) := by decide +kernel
theorem dX5_keep_5 : decode cX5_keep 5 = .ok (.ifCond .eq 7, 3) := by decide +kernel
theorem dX5_keep_8 : decode cX5_keep 8 = .ok (.iconst 0, 1) := by decide +kernel
theorem dX5_keep_9 : decode cX5_keep 9 = .ok (.goto 4, 3) := by decide +kernel
theorem dX5_keep_12 : decode cX5_keep 12 = .ok (.iconst 1, 1) := by decide +kernel
theorem dX5_keep_13 : decode cX5_keep 13 = .ok (.putfield 75, 3) := by decide +kernel
theorem dX5_keep_16 : decode cX5_keep 16 = .ok (.aload_n 0, 1) := by decide +kernel
theorem dX5_keep_17 : decode cX5_keep 17 = .ok (.getfield 75, 3) := by decide +kernel
theorem dX5_keep_20 : decode cX5_keep 20 = .ok (.ifCond .le 5, 3) := by decide +kernel
theorem dX5_keep_23 : decode cX5_keep 23 = .ok (.iconst 0, 1) := by decide +kernel
theorem dX5_keep_24 : decode cX5_keep 24 = .ok (.ireturn, 1) := by decide +kernel
theorem dX5_keep_25 : decode cX5_keep 25 = .ok (.aload_n 0, 1) := by decide +kernel
theorem dX5_keep_26 : decode cX5_keep 26 = .ok (.dup, 1) := by decide +kernel
theorem dX5_keep_27 : decode cX5_keep 27 = .ok (.getfield 88, 3) := by decide +kernel
theorem dX5_keep_30 : decode cX5_keep 30 = .ok (.iconst 1, 1) := by decide +kernel
theorem dX5_keep_31 : decode cX5_keep 31 = .ok (.iadd, 1) := by decide +kernel
theorem dX5_keep_32 : decode cX5_keep 32 = .ok (.putfield 88, 3) := by decide +kernel
theorem dX5_keep_35 : decode cX5_keep 35 = .ok (.aload_n 0, 1) := by decide +kernel
theorem dX5_keep_36 : decode cX5_keep 36 = .ok (.aload_n 0, 1) := by decide +kernel
theorem dX5_keep_37 : decode cX5_keep 37 = .ok (.getfield 88, 3) := by decide +kernel
theorem dX5_keep_40 : decode cX5_keep 40 = .ok (.invokevirtual 91, 3) := by decide +kernel
theorem dX5_keep_43 : decode cX5_keep 43 = .ok (.aload_n 0, 1) := by decide +kernel
theorem dX5_keep_44 : decode cX5_keep 44 = .ok (.getfield 88, 3) := by decide +kernel
theorem dX5_keep_47 : decode cX5_keep 47 = .ok (.ireturn, 1) := by decide +kernel
theorem dX5_crash_0 : decode cX5_crash 0 = .ok (.aload_n 0, 1) := by decide +kernel
theorem dX5_crash_1 : decode cX5_crash 1 = .ok (.iconst 0, 1) := by decide +kernel
theorem dX5_crash_2 : decode cX5_crash 2 = .ok (.putfield 75, 3) := by decide +kernel
theorem dX5_crash_5 : decode cX5_crash 5 = .ok (.aload_n 0, 1) := by decide +kernel
theorem dX5_crash_6 : decode cX5_crash 6 = .ok (.getfield 94, 3) := by decide +kernel
theorem dX5_crash_9 : decode cX5_crash 9 = .ok (.ifCond .ne 5, 3) := by decide +kernel
theorem dX5_crash_12 : decode cX5_crash 12 = .ok (.iconst 0, 1) := by decide +kernel
theorem dX5_crash_13 : decode cX5_crash 13 = .ok (.ireturn, 1) := by decide +kernel
theorem dX5_crash_14 : decode cX5_crash 14 = .ok (.aload_n 0, 1) := by decide +kernel
theorem dX5_crash_15 : decode cX5_crash 15 = .ok (.iconst 0, 1) := by decide +kernel
theorem dX5_crash_16 : decode cX5_crash 16 = .ok (.putfield 94, 3) := by decide +kernel
theorem dX5_crash_19 : decode cX5_crash 19 = .ok (.iload_n 1, 1) := by decide +kernel
theorem dX5_crash_20 : decode cX5_crash 20 = .ok (.ifCond .ge 7, 3) := by decide +kernel
theorem dX5_crash_23 : decode cX5_crash 23 = .ok (.iconst 0, 1) := by decide +kernel
theorem dX5_crash_24 : decode cX5_crash 24 = .ok (.goto 19, 3) := by decide +kernel
theorem dX5_crash_27 : decode cX5_crash 27 = .ok (.iload_n 1, 1) := by decide +kernel
theorem dX5_crash_28 : decode cX5_crash 28 = .ok (.aload_n 0, 1) := by decide +kernel
theorem dX5_crash_29 : decode cX5_crash 29 = .ok (.getfield 85, 3) := by decide +kernel
theorem dX5_crash_32 : decode cX5_crash 32 = .ok (.if_icmp .ge 7, 3) := by decide +kernel
theorem dX5_crash_35 : decode cX5_crash 35 = .ok (.iload_n 1, 1) := by decide +kernel
theorem dX5_crash_36 : decode cX5_crash 36 = .ok (.goto 7, 3) := by decide +kernel
theorem dX5_crash_39 : decode cX5_crash 39 = .ok (.aload_n 0, 1) := by decide +kernel
theorem dX5_crash_40 : decode cX5_crash 40 = .ok (.getfield 85, 3) := by decide +kernel
theorem dX5_crash_43 : decode cX5_crash 43 = .ok (.istore_n 2, 1) := by decide +kernel
theorem dX5_crash_44 : decode cX5_crash 44 = .ok (.iconst 0, 1) := by decide +kernel
theorem dX5_crash_45 : decode cX5_crash 45 = .ok (.istore_n 3, 1) := by decide +kernel
theorem dX5_crash_46 : decode cX5_crash 46 = .ok (.iload_n 3, 1) := by decide +kernel
theorem dX5_crash_47 : decode cX5_crash 47 = .ok (.iload_n 2, 1) := by decide +kernel
theorem dX5_crash_48 : decode cX5_crash 48 = .ok (.if_icmp .ge 42, 3) := by decide +kernel
theorem dX5_crash_51 : decode cX5_crash 51 = .ok (.aload_n 0, 1) := by decide +kernel
theorem dX5_crash_52 : decode cX5_crash 52 = .ok (.dup, 1) := by decide +kernel
theorem dX5_crash_53 : decode cX5_crash 53 = .ok (.getfield 85, 3) := by decide +kernel
theorem dX5_crash_56 : decode cX5_crash 56 = .ok (.iconst 1, 1) := by decide +kernel
theorem dX5_crash_57 : decode cX5_crash 57 = .ok (.isub, 1) := by decide +kernel
theorem dX5_crash_58 : decode cX5_crash 58 = .ok (.putfield 85, 3) := by decide +kernel
theorem dX5_crash_61 : decode cX5_crash 61 = .ok (.aload_n 0, 1) := by decide +kernel
theorem dX5_crash_62 : decode cX5_crash 62 = .ok (.getfield 7, 3) := by decide +kernel
theorem dX5_crash_65 : decode cX5_crash 65 = .ok (.aload_n 0, 1) := by decide +kernel
theorem dX5_crash_66 : decode cX5_crash 66 = .ok (.getfield 14, 3) := by decide +kernel
theorem dX5_crash_69 : decode cX5_crash 69 = .ok (.aload_n 0, 1) := by decide +kernel
theorem dX5_crash_70 : decode cX5_crash 70 = .ok (.getfield 85, 3) := by decide +kernel
theorem dX5_crash_73 : decode cX5_crash 73 = .ok (.iaload, 1) := by decide +kernel
theorem dX5_crash_74 : decode cX5_crash 74 = .ok (.aload_n 0, 1) := by decide +kernel
theorem dX5_crash_75 : decode cX5_crash 75 = .ok (.getfield 17, 3) := by decide +kernel
theorem dX5_crash_78 : decode cX5_crash 78 = .ok (.aload_n 0, 1) := by decide +kernel
theorem dX5_crash_79 : decode cX5_crash 79 = .ok (.getfield 85, 3) := by decide +kernel
theorem dX5_crash_82 : decode cX5_crash 82 = .ok (.iaload, 1) := by decide +kernel
theorem dX5_crash_83 : decode cX5_crash 83 = .ok (.iastore, 1) := by decide +kernel
theorem dX5_crash_84 : decode cX5_crash 84 = .ok (.iinc 3 1, 3) := by decide +kernel
theorem dX5_crash_87 : decode cX5_crash 87 = .ok (.goto (-41), 3) := by decide +kernel
theorem dX5_crash_90 : decode cX5_crash 90 = .ok (.iload_n 2, 1) := by decide +kernel
theorem dX5_crash_91 : decode cX5_crash 91 = .ok (.ireturn, 1) := by decide +kernel
theorem dX5_isHead_0 : decode cX5_isHead 0 = .ok (.aload_n 0, 1) := by decide +kernel
theorem dX5_isHead_1 : decode cX5_isHead 1 = .ok (.iload_n 1, 1) := by decide +kernel
theorem dX5_isHead_2 : decode cX5_isHead 2 = .ok (.bipush 8, 2) := by decide +kernel
theorem dX5_isHead_4 : decode cX5_isHead 4 = .ok (.iadd, 1) := by decide +kernel
theorem dX5_isHead_5 : decode cX5_isHead 5 = .ok (.bipush 8, 2) := by decide +kernel
theorem dX5_isHead_7 : decode cX5_isHead 7 = .ok (.invokevirtual 137, 3) := by decide +kernel
theorem dX5_isHead_10 : decode cX5_isHead 10 = .ok (.aload_n 0, 1) := by decide +kernel
theorem dX5_isHead_11 : decode cX5_isHead 11 = .ok (.lconst 1, 1) := by decide +kernel
theorem dX5_isHead_12 : decode cX5_isHead 12 = .ok (.iload_n 1, 1) := by decide +kernel
theorem dX5_isHead_13 : decode cX5_isHead 13 = .ok (.bipush 8, 2) := by decide +kernel
theorem dX5_isHead_15 : decode cX5_isHead 15 = .ok (.invokevirtual 126, 3) := by decide +kernel
theorem dX5_isHead_18 : decode cX5_isHead 18 = .ok (.lcmp, 1) := by decide +kernel
theorem dX5_isHead_19 : decode cX5_isHead 19 = .ok (.ifCond .ne 22, 3) := by decide +kernel
theorem dX5_isHead_22 : decode cX5_isHead 22 = .ok (.aload_n 0, 1) := by decide +kernel
theorem dX5_isHead_23 : decode cX5_isHead 23 = .ok (.iload_n 1, 1) := by decide +kernel
theorem dX5_isHead_24 : decode cX5_isHead 24 = .ok (.iconst 4, 1) := by decide +kernel
theorem dX5_isHead_25 : decode cX5_isHead 25 = .ok (.iadd, 1) := by decide +kernel
theorem dX5_isHead_26 : decode cX5_isHead 26 = .ok (.iconst 4, 1) := by decide +kernel
theorem dX5_isHead_27 : decode cX5_isHead 27 = .ok (.invokevirtual 137, 3) := by decide +kernel
theorem dX5_isHead_30 : decode cX5_isHead 30 = .ok (.ldc2_w 188, 3) := by decide +kernel
theorem dX5_isHead_33 : decode cX5_isHead 33 = .ok (.lcmp, 1) := by decide +kernel
theorem dX5_isHead_34 : decode cX5_isHead 34 = .ok (.ifCond .gt 7, 3) := by decide +kernel
theorem dX5_isHead_37 : decode cX5_isHead 37 = .ok (.iconst 1, 1) := by decide +kernel
theorem dX5_isHead_38 : decode cX5_isHead 38 = .ok (.goto 4, 3) := by decide +kernel
theorem dX5_isHead_41 : decode cX5_isHead 41 = .ok (.iconst 0, 1) := by decide +kernel
theorem dX5_isHead_42 : decode cX5_isHead 42 = .ok (.ireturn, 1) := by decide +kernel
theorem dX5_open_0 : decode cX5_open 0 = .ok (.aload_n 0, 1) := by decide +kernel
theorem dX5_open_1 : decode cX5_open 1 = .ok (.iconst 0, 1) := by decide +kernel
theorem dX5_open_2 : decode cX5_open 2 = .ok (.putfield 75, 3) := by decide +kernel
theorem dX5_open_5 : decode cX5_open 5 = .ok (.aload_n 0, 1) := by decide +kernel
theorem dX5_open_6 : decode cX5_open 6 = .ok (.iconst 0, 1) := by decide +kernel
theorem dX5_open_7 : decode cX5_open 7 = .ok (.putfield 94, 3) := by decide +kernel
theorem dX5_open_10 : decode cX5_open 10 = .ok (.aload_n 0, 1) := by decide +kernel
theorem dX5_open_11 : decode cX5_open 11 = .ok (.iconst 0, 1) := by decide +kernel
theorem dX5_open_12 : decode cX5_open 12 = .ok (.invokevirtual 190, 3) := by decide +kernel
theorem dX5_open_15 : decode cX5_open 15 = .ok (.istore_n 1, 1) := by decide +kernel
theorem dX5_open_16 : decode cX5_open 16 = .ok (.aload_n 0, 1) := by decide +kernel
theorem dX5_open_17 : decode cX5_open 17 = .ok (.bipush 16, 2) := by decide +kernel
theorem dX5_open_19 : decode cX5_open 19 = .ok (.invokevirtual 190, 3) := by decide +kernel
theorem dX5_open_22 : decode cX5_open 22 = .ok (.istore_n 2, 1) := by decide +kernel
theorem dX5_open_23 : decode cX5_open 23 = .ok (.iload_n 1, 1) := by decide +kernel
theorem dX5_open_24 : decode cX5_open 24 = .ok (.ifCond .ne 9, 3) := by decide +kernel
theorem dX5_open_27 : decode cX5_open 27 = .ok (.iload_n 2, 1) := by decide +kernel
theorem dX5_open_28 : decode cX5_open 28 = .ok (.ifCond .ne 5, 3) := by decide +kernel
theorem dX5_open_31 : decode cX5_open 31 = .ok (.iconst (-1), 1) := by decide +kernel
theorem dX5_open_32 : decode cX5_open 32 = .ok (.ireturn, 1) := by decide +kernel
theorem dX5_open_33 : decode cX5_open 33 = .ok (.iload_n 2, 1) := by decide +kernel
theorem dX5_open_34 : decode cX5_open 34 = .ok (.ifCond .eq 28, 3) := by decide +kernel
theorem dX5_open_37 : decode cX5_open 37 = .ok (.iload_n 1, 1) := by decide +kernel
theorem dX5_open_38 : decode cX5_open 38 = .ok (.ifCond .eq 20, 3) := by decide +kernel
theorem dX5_open_41 : decode cX5_open 41 = .ok (.aload_n 0, 1) := by decide +kernel
theorem dX5_open_42 : decode cX5_open 42 = .ok (.bipush 16, 2) := by decide +kernel
theorem dX5_open_44 : decode cX5_open 44 = .ok (.iconst 4, 1) := by decide +kernel
theorem dX5_open_45 : decode cX5_open 45 = .ok (.invokevirtual 137, 3) := by decide +kernel
theorem dX5_open_48 : decode cX5_open 48 = .ok (.aload_n 0, 1) := by decide +kernel
theorem dX5_open_49 : decode cX5_open 49 = .ok (.iconst 0, 1) := by decide +kernel
theorem dX5_open_50 : decode cX5_open 50 = .ok (.iconst 4, 1) := by decide +kernel
theorem dX5_open_51 : decode cX5_open 51 = .ok (.invokevirtual 137, 3) := by decide +kernel
theorem dX5_open_54 : decode cX5_open 54 = .ok (.lcmp, 1) := by decide +kernel
theorem dX5_open_55 : decode cX5_open 55 = .ok (.ifCond .le 7, 3) := by decide +kernel
theorem dX5_open_58 : decode cX5_open 58 = .ok (.iconst 1, 1) := by decide +kernel
theorem dX5_open_59 : decode cX5_open 59 = .ok (.goto 4, 3) := by decide +kernel
theorem dX5_open_62 : decode cX5_open 62 = .ok (.iconst 0, 1) := by decide +kernel
theorem dX5_open_63 : decode cX5_open 63 = .ok (.istore_n 3, 1) := by decide +kernel
theorem dX5_open_64 : decode cX5_open 64 = .ok (.iload_n 3, 1) := by decide +kernel
theorem dX5_open_65 : decode cX5_open 65 = .ok (.ifCond .eq 8, 3) := by decide +kernel
theorem dX5_open_68 : decode cX5_open 68 = .ok (.bipush 16, 2) := by decide +kernel
theorem dX5_open_70 : decode cX5_open 70 = .ok (.goto 4, 3) := by decide +kernel
theorem dX5_open_73 : decode cX5_open 73 = .ok (.iconst 0, 1) := by decide +kernel
theorem dX5_open_74 : decode cX5_open 74 = .ok (.istore 4, 2) := by decide +kernel
theorem dX5_open_76 : decode cX5_open 76 = .ok (.aload_n 0, 1) := by decide +kernel
theorem dX5_open_77 : decode cX5_open 77 = .ok (.aload_n 0, 1) := by decide +kernel
theorem dX5_open_78 : decode cX5_open 78 = .ok (.iload 4, 2) := by decide +kernel
theorem dX5_open_80 : decode cX5_open 80 = .ok (.iconst 4, 1) := by decide +kernel
theorem dX5_open_81 : decode cX5_open 81 = .ok (.invokevirtual 137, 3) := by decide +kernel
theorem dX5_open_84 : decode cX5_open 84 = .ok (.l2i, 1) := by decide +kernel
theorem dX5_open_85 : decode cX5_open 85 = .ok (.putfield 88, 3) := by decide +kernel
theorem dX5_open_88 : decode cX5_open 88 = .ok (.aload_n 0, 1) := by decide +kernel
theorem dX5_open_89 : decode cX5_open 89 = .ok (.iload 4, 2) := by decide +kernel
theorem dX5_open_91 : decode cX5_open 91 = .ok (.iconst 4, 1) := by decide +kernel
theorem dX5_open_92 : decode cX5_open 92 = .ok (.iadd, 1) := by decide +kernel
theorem dX5_open_93 : decode cX5_open 93 = .ok (.iconst 4, 1) := by decide +kernel
theorem dX5_open_94 : decode cX5_open 94 = .ok (.invokevirtual 137, 3) := by decide +kernel
theorem dX5_open_97 : decode cX5_open 97 = .ok (.l2i, 1) := by decide +kernel
theorem dX5_open_98 : decode cX5_open 98 = .ok (.istore 5, 2) := by decide +kernel
theorem dX5_open_100 : decode cX5_open 100 = .ok (.aload_n 0, 1) := by decide +kernel
theorem dX5_open_101 : decode cX5_open 101 = .ok (.invokevirtual 82, 3) := by decide +kernel
theorem dX5_open_104 : decode cX5_open 104 = .ok (.aload_n 0, 1) := by decide +kernel
theorem dX5_open_105 : decode cX5_open 105 = .ok (.getfield 98, 3) := by decide +kernel
theorem dX5_open_108 : decode cX5_open 108 = .ok (.iload 5, 2) := by decide +kernel
theorem dX5_open_110 : decode cX5_open 110 = .ok (.if_icmp .ge 58, 3) := by decide +kernel
theorem dX5_open_113 : decode cX5_open 113 = .ok (.aload_n 0, 1) := by decide +kernel
theorem dX5_open_114 : decode cX5_open 114 = .ok (.bipush 32, 2) := by decide +kernel
theorem dX5_open_116 : decode cX5_open 116 = .ok (.aload_n 0, 1) := by decide +kernel
theorem dX5_open_117 : decode cX5_open 117 = .ok (.getfield 98, 3) := by decide +kernel
theorem dX5_open_120 : decode cX5_open 120 = .ok (.iadd, 1) := by decide +kernel
theorem dX5_open_121 : decode cX5_open 121 = .ok (.bipush 32, 2) := by decide +kernel
theorem dX5_open_123 : decode cX5_open 123 = .ok (.iload 5, 2) := by decide +kernel
theorem dX5_open_125 : decode cX5_open 125 = .ok (.iadd, 1) := by decide +kernel
theorem dX5_open_126 : decode cX5_open 126 = .ok (.invokevirtual 193, 3) := by decide +kernel
theorem dX5_open_129 : decode cX5_open 129 = .ok (.ifCond .ne 11, 3) := by decide +kernel
theorem dX5_open_132 : decode cX5_open 132 = .ok (.bipush (-2), 2) := by decide +kernel
theorem dX5_open_134 : decode cX5_open 134 = .ok (.aload_n 0, 1) := by decide +kernel
theorem dX5_open_135 : decode cX5_open 135 = .ok (.getfield 101, 3) := by decide +kernel
theorem dX5_open_138 : decode cX5_open 138 = .ok (.isub, 1) := by decide +kernel
theorem dX5_open_139 : decode cX5_open 139 = .ok (.ireturn, 1) := by decide +kernel
theorem dX5_open_140 : decode cX5_open 140 = .ok (.aload_n 0, 1) := by decide +kernel
theorem dX5_open_141 : decode cX5_open 141 = .ok (.bipush 32, 2) := by decide +kernel
theorem dX5_open_143 : decode cX5_open 143 = .ok (.aload_n 0, 1) := by decide +kernel
theorem dX5_open_144 : decode cX5_open 144 = .ok (.getfield 98, 3) := by decide +kernel
theorem dX5_open_147 : decode cX5_open 147 = .ok (.iadd, 1) := by decide +kernel
theorem dX5_open_148 : decode cX5_open 148 = .ok (.aload_n 0, 1) := by decide +kernel
theorem dX5_open_149 : decode cX5_open 149 = .ok (.getfield 7, 3) := by decide +kernel
theorem dX5_open_152 : decode cX5_open 152 = .ok (.bipush 32, 2) := by decide +kernel
theorem dX5_open_154 : decode cX5_open 154 = .ok (.aload_n 0, 1) := by decide +kernel
theorem dX5_open_155 : decode cX5_open 155 = .ok (.getfield 98, 3) := by decide +kernel
theorem dX5_open_158 : decode cX5_open 158 = .ok (.iadd, 1) := by decide +kernel
theorem dX5_open_159 : decode cX5_open 159 = .ok (.iconst 3, 1) := by decide +kernel
theorem dX5_open_160 : decode cX5_open 160 = .ok (.iadd, 1) := by decide +kernel
theorem dX5_open_161 : decode cX5_open 161 = .ok (.iaload, 1) := by decide +kernel
theorem dX5_open_162 : decode cX5_open 162 = .ok (.invokevirtual 130, 3) := by decide +kernel
theorem dX5_open_165 : decode cX5_open 165 = .ok (.goto (-61), 3) := by decide +kernel
theorem dX5_open_168 : decode cX5_open 168 = .ok (.aload_n 0, 1) := by decide +kernel
theorem dX5_open_169 : decode cX5_open 169 = .ok (.iconst 0, 1) := by decide +kernel
theorem dX5_open_170 : decode cX5_open 170 = .ok (.putfield 85, 3) := by decide +kernel
theorem dX5_open_173 : decode cX5_open 173 = .ok (.aload_n 0, 1) := by decide +kernel
theorem dX5_open_174 : decode cX5_open 174 = .ok (.iconst 1, 1) := by decide +kernel
theorem dX5_open_175 : decode cX5_open 175 = .ok (.putfield 94, 3) := by decide +kernel
theorem dX5_open_178 : decode cX5_open 178 = .ok (.aload_n 0, 1) := by decide +kernel
theorem dX5_open_179 : decode cX5_open 179 = .ok (.invokevirtual 196, 3) := by decide +kernel
theorem dX5_open_182 : decode cX5_open 182 = .ok (.ireturn, 1) := by decide +kernel
theorem dX5_thereMany_0 : decode cX5_thereMany 0 = .ok (.iconst 0, 1) := by decide +kernel
theorem dX5_thereMany_1 : decode cX5_thereMany 1 = .ok (.istore_n 1, 1) := by decide +kernel
theorem dX5_thereMany_2 : decode cX5_thereMany 2 = .ok (.iconst 0, 1) := by decide +kernel
theorem dX5_thereMany_3 : decode cX5_thereMany 3 = .ok (.istore_n 2, 1) := by decide +kernel
theorem dX5_thereMany_4 : decode cX5_thereMany 4 = .ok (.iload_n 2, 1) := by decide +kernel
theorem dX5_thereMany_5 : decode cX5_thereMany 5 = .ok (.aload_n 0, 1) := by decide +kernel
theorem dX5_thereMany_6 : decode cX5_thereMany 6 = .ok (.getfield 110, 3) := by decide +kernel
theorem dX5_thereMany_9 : decode cX5_thereMany 9 = .ok (.if_icmp .ge 26, 3) := by decide +kernel
theorem dX5_thereMany_12 : decode cX5_thereMany 12 = .ok (.iload_n 1, 1) := by decide +kernel
theorem dX5_thereMany_13 : decode cX5_thereMany 13 = .ok (.aload_n 0, 1) := by decide +kernel
theorem dX5_thereMany_14 : decode cX5_thereMany 14 = .ok (.getfield 31, 3) := by decide +kernel
theorem dX5_thereMany_17 : decode cX5_thereMany 17 = .ok (.iload_n 2, 1) := by decide +kernel
theorem dX5_thereMany_18 : decode cX5_thereMany 18 = .ok (.baload, 1) := by decide +kernel
theorem dX5_thereMany_19 : decode cX5_thereMany 19 = .ok (.ifCond .eq 7, 3) := by decide +kernel
theorem dX5_thereMany_22 : decode cX5_thereMany 22 = .ok (.iconst 1, 1) := by decide +kernel
theorem dX5_thereMany_23 : decode cX5_thereMany 23 = .ok (.goto 4, 3) := by decide +kernel
theorem dX5_thereMany_26 : decode cX5_thereMany 26 = .ok (.iconst 0, 1) := by decide +kernel
theorem dX5_thereMany_27 : decode cX5_thereMany 27 = .ok (.iadd, 1) := by decide +kernel
theorem dX5_thereMany_28 : decode cX5_thereMany 28 = .ok (.istore_n 1, 1) := by decide +kernel
theorem dX5_thereMany_29 : decode cX5_thereMany 29 = .ok (.iinc 2 1, 3) := by decide +kernel
theorem dX5_thereMany_32 : decode cX5_thereMany 32 = .ok (.goto (-28), 3) := by decide +kernel
theorem dX5_thereMany_35 : decode cX5_thereMany 35 = .ok (.iload_n 1, 1) := by decide +kernel
theorem dX5_thereMany_36 : decode cX5_thereMany 36 = .ok (.ireturn, 1) := by decide +kernel
theorem dX5_poke_0 : decode cX5_poke 0 = .ok (.aload_n 0, 1) := by decide +kernel
theorem dX5_poke_1 : decode cX5_poke 1 = .ok (.iload_n 1, 1) := by decide +kernel
theorem dX5_poke_2 : decode cX5_poke 2 = .ok (.iconst 0, 1) := by decide +kernel
theorem dX5_poke_3 : decode cX5_poke 3 = .ok (.sipush 24031, 3) := by decide +kernel
theorem dX5_poke_6 : decode cX5_poke 6 = .ok (.invokestatic 133, 3) := by decide +kernel
theorem dX5_poke_9 : decode cX5_poke 9 = .ok (.ifCond .eq 7, 3) := by decide +kernel
theorem dX5_poke_12 : decode cX5_poke 12 = .ok (.iconst 0, 1) := by decide +kernel
theorem dX5_poke_13 : decode cX5_poke 13 = .ok (.goto 4, 3) := by decide +kernel
theorem dX5_poke_16 : decode cX5_poke 16 = .ok (.iconst 1, 1) := by decide +kernel
theorem dX5_poke_17 : decode cX5_poke 17 = .ok (.putfield 75, 3) := by decide +kernel
theorem dX5_poke_20 : decode cX5_poke 20 = .ok (.aload_n 0, 1) := by decide +kernel
theorem dX5_poke_21 : decode cX5_poke 21 = .ok (.getfield 75, 3) := by decide +kernel
theorem dX5_poke_24 : decode cX5_poke 24 = .ok (.ifCond .le 5, 3) := by decide +kernel
theorem dX5_poke_27 : decode cX5_poke 27 = .ok (.iconst 0, 1) := by decide +kernel
theorem dX5_poke_28 : decode cX5_poke 28 = .ok (.ireturn, 1) := by decide +kernel
theorem dX5_poke_29 : decode cX5_poke 29 = .ok (.aload_n 0, 1) := by decide +kernel
theorem dX5_poke_30 : decode cX5_poke 30 = .ok (.getfield 7, 3) := by decide +kernel
theorem dX5_poke_33 : decode cX5_poke 33 = .ok (.iload_n 1, 1) := by decide +kernel
theorem dX5_poke_34 : decode cX5_poke 34 = .ok (.iaload, 1) := by decide +kernel
theorem dX5_poke_35 : decode cX5_poke 35 = .ok (.istore_n 3, 1) := by decide +kernel
theorem dX5_poke_36 : decode cX5_poke 36 = .ok (.aload_n 0, 1) := by decide +kernel
theorem dX5_poke_37 : decode cX5_poke 37 = .ok (.getfield 7, 3) := by decide +kernel
theorem dX5_poke_40 : decode cX5_poke 40 = .ok (.iload_n 1, 1) := by decide +kernel
theorem dX5_poke_41 : decode cX5_poke 41 = .ok (.iload_n 3, 1) := by decide +kernel
theorem dX5_poke_42 : decode cX5_poke 42 = .ok (.iload_n 2, 1) := by decide +kernel
theorem dX5_poke_43 : decode cX5_poke 43 = .ok (.sipush 255, 3) := by decide +kernel
theorem dX5_poke_46 : decode cX5_poke 46 = .ok (.iand, 1) := by decide +kernel
theorem dX5_poke_47 : decode cX5_poke 47 = .ok (.ixor, 1) := by decide +kernel
theorem dX5_poke_48 : decode cX5_poke 48 = .ok (.iastore, 1) := by decide +kernel
theorem dX5_poke_49 : decode cX5_poke 49 = .ok (.iload_n 3, 1) := by decide +kernel
theorem dX5_poke_50 : decode cX5_poke 50 = .ok (.ireturn, 1) := by decide +kernel
theorem dX5_byteAt_0 : decode cX5_byteAt 0 = .ok (.aload_n 0, 1) := by decide +kernel
theorem dX5_byteAt_1 : decode cX5_byteAt 1 = .ok (.iload_n 1, 1) := by decide +kernel
theorem dX5_byteAt_2 : decode cX5_byteAt 2 = .ok (.iconst 0, 1) := by decide +kernel
theorem dX5_byteAt_3 : decode cX5_byteAt 3 = .ok (.sipush 24031, 3) := by decide +kernel
theorem dX5_byteAt_6 : decode cX5_byteAt 6 = .ok (.invokestatic 133, 3) := by decide +kernel
theorem dX5_byteAt_9 : decode cX5_byteAt 9 = .ok (.ifCond .eq 7, 3) := by decide +kernel
theorem dX5_byteAt_12 : decode cX5_byteAt 12 = .ok (.iconst 0, 1) := by decide +kernel
theorem dX5_byteAt_13 : decode cX5_byteAt 13 = .ok (.goto 4, 3) := by decide +kernel
theorem dX5_byteAt_16 : decode cX5_byteAt 16 = .ok (.iconst 1, 1) := by decide +kernel
theorem dX5_byteAt_17 : decode cX5_byteAt 17 = .ok (.putfield 75, 3) := by decide +kernel
theorem dX5_byteAt_20 : decode cX5_byteAt 20 = .ok (.aload_n 0, 1) := by decide +kernel
theorem dX5_byteAt_21 : decode cX5_byteAt 21 = .ok (.getfield 75, 3) := by decide +kernel
theorem dX5_byteAt_24 : decode cX5_byteAt 24 = .ok (.ifCond .le 7, 3) := by decide +kernel
theorem dX5_byteAt_27 : decode cX5_byteAt 27 = .ok (.iconst 0, 1) := by decide +kernel
theorem dX5_byteAt_28 : decode cX5_byteAt 28 = .ok (.goto 9, 3) := by decide +kernel
theorem dX5_byteAt_31 : decode cX5_byteAt 31 = .ok (.aload_n 0, 1) := by decide +kernel
theorem dX5_byteAt_32 : decode cX5_byteAt 32 = .ok (.getfield 7, 3) := by decide +kernel
theorem dX5_byteAt_35 : decode cX5_byteAt 35 = .ok (.iload_n 1, 1) := by decide +kernel
theorem dX5_byteAt_36 : decode cX5_byteAt 36 = .ok (.iaload, 1) := by decide +kernel
theorem dX5_byteAt_37 : decode cX5_byteAt 37 = .ok (.ireturn, 1) := by decide +kernel
theorem dX5_keepBeside_0 : decode cX5_keepBeside 0 = .ok (.iconst 0, 1) := by decide +kernel
theorem dX5_keepBeside_1 : decode cX5_keepBeside 1 = .ok (.istore_n 2, 1) := by decide +kernel
theorem dX5_keepBeside_2 : decode cX5_keepBeside 2 = .ok (.iload_n 2, 1) := by decide +kernel
theorem dX5_keepBeside_3 : decode cX5_keepBeside 3 = .ok (.bipush 64, 2) := by decide +kernel
theorem dX5_keepBeside_5 : decode cX5_keepBeside 5 = .ok (.if_icmp .ge 40, 3) := by decide +kernel
theorem dX5_keepBeside_8 : decode cX5_keepBeside 8 = .ok (.iload_n 1, 1) := by decide +kernel
theorem dX5_keepBeside_9 : decode cX5_keepBeside 9 = .ok (.ifCond .eq 18, 3) := by decide +kernel
theorem dX5_keepBeside_12 : decode cX5_keepBeside 12 = .ok (.aload_n 0, 1) := by decide +kernel
theorem dX5_keepBeside_13 : decode cX5_keepBeside 13 = .ok (.getfield 20, 3) := by decide +kernel
theorem dX5_keepBeside_16 : decode cX5_keepBeside 16 = .ok (.iload_n 2, 1) := by decide +kernel
theorem dX5_keepBeside_17 : decode cX5_keepBeside 17 = .ok (.aload_n 0, 1) := by decide +kernel
theorem dX5_keepBeside_18 : decode cX5_keepBeside 18 = .ok (.getfield 50, 3) := by decide +kernel
theorem dX5_keepBeside_21 : decode cX5_keepBeside 21 = .ok (.iload_n 2, 1) := by decide +kernel
theorem dX5_keepBeside_22 : decode cX5_keepBeside 22 = .ok (.laload, 1) := by decide +kernel
theorem dX5_keepBeside_23 : decode cX5_keepBeside 23 = .ok (.lastore, 1) := by decide +kernel
theorem dX5_keepBeside_24 : decode cX5_keepBeside 24 = .ok (.goto 15, 3) := by decide +kernel
theorem dX5_keepBeside_27 : decode cX5_keepBeside 27 = .ok (.aload_n 0, 1) := by decide +kernel
theorem dX5_keepBeside_28 : decode cX5_keepBeside 28 = .ok (.getfield 50, 3) := by decide +kernel
theorem dX5_keepBeside_31 : decode cX5_keepBeside 31 = .ok (.iload_n 2, 1) := by decide +kernel
theorem dX5_keepBeside_32 : decode cX5_keepBeside 32 = .ok (.aload_n 0, 1) := by decide +kernel
theorem dX5_keepBeside_33 : decode cX5_keepBeside 33 = .ok (.getfield 20, 3) := by decide +kernel
theorem dX5_keepBeside_36 : decode cX5_keepBeside 36 = .ok (.iload_n 2, 1) := by decide +kernel
theorem dX5_keepBeside_37 : decode cX5_keepBeside 37 = .ok (.laload, 1) := by decide +kernel
theorem dX5_keepBeside_38 : decode cX5_keepBeside 38 = .ok (.lastore, 1) := by decide +kernel
theorem dX5_keepBeside_39 : decode cX5_keepBeside 39 = .ok (.iinc 2 1, 3) := by decide +kernel
theorem dX5_keepBeside_42 : decode cX5_keepBeside 42 = .ok (.goto (-40), 3) := by decide +kernel
theorem dX5_keepBeside_45 : decode cX5_keepBeside 45 = .ok (.iconst 0, 1) := by decide +kernel
theorem dX5_keepBeside_46 : decode cX5_keepBeside 46 = .ok (.istore_n 2, 1) := by decide +kernel
theorem dX5_keepBeside_47 : decode cX5_keepBeside 47 = .ok (.iload_n 2, 1) := by decide +kernel
theorem dX5_keepBeside_48 : decode cX5_keepBeside 48 = .ok (.ldc 24, 2) := by decide +kernel
theorem dX5_keepBeside_50 : decode cX5_keepBeside 50 = .ok (.if_icmp .ge 40, 3) := by decide +kernel
theorem dX5_keepBeside_53 : decode cX5_keepBeside 53 = .ok (.iload_n 1, 1) := by decide +kernel
theorem dX5_keepBeside_54 : decode cX5_keepBeside 54 = .ok (.ifCond .eq 18, 3) := by decide +kernel
theorem dX5_keepBeside_57 : decode cX5_keepBeside 57 = .ok (.aload_n 0, 1) := by decide +kernel
theorem dX5_keepBeside_58 : decode cX5_keepBeside 58 = .ok (.getfield 25, 3) := by decide +kernel
theorem dX5_keepBeside_61 : decode cX5_keepBeside 61 = .ok (.iload_n 2, 1) := by decide +kernel
theorem dX5_keepBeside_62 : decode cX5_keepBeside 62 = .ok (.aload_n 0, 1) := by decide +kernel
theorem dX5_keepBeside_63 : decode cX5_keepBeside 63 = .ok (.getfield 53, 3) := by decide +kernel
theorem dX5_keepBeside_66 : decode cX5_keepBeside 66 = .ok (.iload_n 2, 1) := by decide +kernel
theorem dX5_keepBeside_67 : decode cX5_keepBeside 67 = .ok (.iaload, 1) := by decide +kernel
theorem dX5_keepBeside_68 : decode cX5_keepBeside 68 = .ok (.iastore, 1) := by decide +kernel
theorem dX5_keepBeside_69 : decode cX5_keepBeside 69 = .ok (.goto 15, 3) := by decide +kernel
theorem dX5_keepBeside_72 : decode cX5_keepBeside 72 = .ok (.aload_n 0, 1) := by decide +kernel
theorem dX5_keepBeside_73 : decode cX5_keepBeside 73 = .ok (.getfield 53, 3) := by decide +kernel
theorem dX5_keepBeside_76 : decode cX5_keepBeside 76 = .ok (.iload_n 2, 1) := by decide +kernel
theorem dX5_keepBeside_77 : decode cX5_keepBeside 77 = .ok (.aload_n 0, 1) := by decide +kernel
theorem dX5_keepBeside_78 : decode cX5_keepBeside 78 = .ok (.getfield 25, 3) := by decide +kernel
theorem dX5_keepBeside_81 : decode cX5_keepBeside 81 = .ok (.iload_n 2, 1) := by decide +kernel
theorem dX5_keepBeside_82 : decode cX5_keepBeside 82 = .ok (.iaload, 1) := by decide +kernel
theorem dX5_keepBeside_83 : decode cX5_keepBeside 83 = .ok (.iastore, 1) := by decide +kernel
theorem dX5_keepBeside_84 : decode cX5_keepBeside 84 = .ok (.iinc 2 1, 3) := by decide +kernel
theorem dX5_keepBeside_87 : decode cX5_keepBeside 87 = .ok (.goto (-40), 3) := by decide +kernel
theorem dX5_keepBeside_90 : decode cX5_keepBeside 90 = .ok (.iconst 0, 1) := by decide +kernel
theorem dX5_keepBeside_91 : decode cX5_keepBeside 91 = .ok (.istore_n 2, 1) := by decide +kernel
theorem dX5_keepBeside_92 : decode cX5_keepBeside 92 = .ok (.iload_n 2, 1) := by decide +kernel
theorem dX5_keepBeside_93 : decode cX5_keepBeside 93 = .ok (.sipush 2560, 3) := by decide +kernel
theorem dX5_keepBeside_96 : decode cX5_keepBeside 96 = .ok (.if_icmp .ge 40, 3) := by decide +kernel
theorem dX5_keepBeside_99 : decode cX5_keepBeside 99 = .ok (.iload_n 1, 1) := by decide +kernel
theorem dX5_keepBeside_100 : decode cX5_keepBeside 100 = .ok (.ifCond .eq 18, 3) := by decide +kernel
theorem dX5_keepBeside_103 : decode cX5_keepBeside 103 = .ok (.aload_n 0, 1) := by decide +kernel
theorem dX5_keepBeside_104 : decode cX5_keepBeside 104 = .ok (.getfield 28, 3) := by decide +kernel
theorem dX5_keepBeside_107 : decode cX5_keepBeside 107 = .ok (.iload_n 2, 1) := by decide +kernel
theorem dX5_keepBeside_108 : decode cX5_keepBeside 108 = .ok (.aload_n 0, 1) := by decide +kernel
theorem dX5_keepBeside_109 : decode cX5_keepBeside 109 = .ok (.getfield 56, 3) := by decide +kernel
theorem dX5_keepBeside_112 : decode cX5_keepBeside 112 = .ok (.iload_n 2, 1) := by decide +kernel
theorem dX5_keepBeside_113 : decode cX5_keepBeside 113 = .ok (.laload, 1) := by decide +kernel
theorem dX5_keepBeside_114 : decode cX5_keepBeside 114 = .ok (.lastore, 1) := by decide +kernel
theorem dX5_keepBeside_115 : decode cX5_keepBeside 115 = .ok (.goto 15, 3) := by decide +kernel
theorem dX5_keepBeside_118 : decode cX5_keepBeside 118 = .ok (.aload_n 0, 1) := by decide +kernel
theorem dX5_keepBeside_119 : decode cX5_keepBeside 119 = .ok (.getfield 56, 3) := by decide +kernel
theorem dX5_keepBeside_122 : decode cX5_keepBeside 122 = .ok (.iload_n 2, 1) := by decide +kernel
theorem dX5_keepBeside_123 : decode cX5_keepBeside 123 = .ok (.aload_n 0, 1) := by decide +kernel
theorem dX5_keepBeside_124 : decode cX5_keepBeside 124 = .ok (.getfield 28, 3) := by decide +kernel
theorem dX5_keepBeside_127 : decode cX5_keepBeside 127 = .ok (.iload_n 2, 1) := by decide +kernel
theorem dX5_keepBeside_128 : decode cX5_keepBeside 128 = .ok (.laload, 1) := by decide +kernel
theorem dX5_keepBeside_129 : decode cX5_keepBeside 129 = .ok (.lastore, 1) := by decide +kernel
theorem dX5_keepBeside_130 : decode cX5_keepBeside 130 = .ok (.iinc 2 1, 3) := by decide +kernel
theorem dX5_keepBeside_133 : decode cX5_keepBeside 133 = .ok (.goto (-41), 3) := by decide +kernel
theorem dX5_keepBeside_136 : decode cX5_keepBeside 136 = .ok (.iconst 0, 1) := by decide +kernel
theorem dX5_keepBeside_137 : decode cX5_keepBeside 137 = .ok (.istore_n 2, 1) := by decide +kernel
theorem dX5_keepBeside_138 : decode cX5_keepBeside 138 = .ok (.iload_n 2, 1) := by decide +kernel
theorem dX5_keepBeside_139 : decode cX5_keepBeside 139 = .ok (.sipush 800, 3) := by decide +kernel
theorem dX5_keepBeside_142 : decode cX5_keepBeside 142 = .ok (.if_icmp .ge 40, 3) := by decide +kernel
theorem dX5_keepBeside_145 : decode cX5_keepBeside 145 = .ok (.iload_n 1, 1) := by decide +kernel
theorem dX5_keepBeside_146 : decode cX5_keepBeside 146 = .ok (.ifCond .eq 18, 3) := by decide +kernel
theorem dX5_keepBeside_149 : decode cX5_keepBeside 149 = .ok (.aload_n 0, 1) := by decide +kernel
theorem dX5_keepBeside_150 : decode cX5_keepBeside 150 = .ok (.getfield 35, 3) := by decide +kernel
theorem dX5_keepBeside_153 : decode cX5_keepBeside 153 = .ok (.iload_n 2, 1) := by decide +kernel
theorem dX5_keepBeside_154 : decode cX5_keepBeside 154 = .ok (.aload_n 0, 1) := by decide +kernel
theorem dX5_keepBeside_155 : decode cX5_keepBeside 155 = .ok (.getfield 62, 3) := by decide +kernel
theorem dX5_keepBeside_158 : decode cX5_keepBeside 158 = .ok (.iload_n 2, 1) := by decide +kernel
theorem dX5_keepBeside_159 : decode cX5_keepBeside 159 = .ok (.iaload, 1) := by decide +kernel
theorem dX5_keepBeside_160 : decode cX5_keepBeside 160 = .ok (.iastore, 1) := by decide +kernel
theorem dX5_keepBeside_161 : decode cX5_keepBeside 161 = .ok (.goto 15, 3) := by decide +kernel
theorem dX5_keepBeside_164 : decode cX5_keepBeside 164 = .ok (.aload_n 0, 1) := by decide +kernel
theorem dX5_keepBeside_165 : decode cX5_keepBeside 165 = .ok (.getfield 62, 3) := by decide +kernel
theorem dX5_keepBeside_168 : decode cX5_keepBeside 168 = .ok (.iload_n 2, 1) := by decide +kernel
theorem dX5_keepBeside_169 : decode cX5_keepBeside 169 = .ok (.aload_n 0, 1) := by decide +kernel
theorem dX5_keepBeside_170 : decode cX5_keepBeside 170 = .ok (.getfield 35, 3) := by decide +kernel
theorem dX5_keepBeside_173 : decode cX5_keepBeside 173 = .ok (.iload_n 2, 1) := by decide +kernel
theorem dX5_keepBeside_174 : decode cX5_keepBeside 174 = .ok (.iaload, 1) := by decide +kernel
theorem dX5_keepBeside_175 : decode cX5_keepBeside 175 = .ok (.iastore, 1) := by decide +kernel
theorem dX5_keepBeside_176 : decode cX5_keepBeside 176 = .ok (.iinc 2 1, 3) := by decide +kernel
theorem dX5_keepBeside_179 : decode cX5_keepBeside 179 = .ok (.goto (-41), 3) := by decide +kernel
theorem dX5_keepBeside_182 : decode cX5_keepBeside 182 = .ok (.iconst 0, 1) := by decide +kernel
theorem dX5_keepBeside_183 : decode cX5_keepBeside 183 = .ok (.istore_n 2, 1) := by decide +kernel
theorem dX5_keepBeside_184 : decode cX5_keepBeside 184 = .ok (.iload_n 2, 1) := by decide +kernel
theorem dX5_keepBeside_185 : decode cX5_keepBeside 185 = .ok (.bipush 100, 2) := by decide +kernel
theorem dX5_keepBeside_187 : decode cX5_keepBeside 187 = .ok (.if_icmp .ge 88, 3) := by decide +kernel
theorem dX5_keepBeside_190 : decode cX5_keepBeside 190 = .ok (.iload_n 1, 1) := by decide +kernel
theorem dX5_keepBeside_191 : decode cX5_keepBeside 191 = .ok (.ifCond .eq 42, 3) := by decide +kernel
theorem dX5_keepBeside_194 : decode cX5_keepBeside 194 = .ok (.aload_n 0, 1) := by decide +kernel
theorem dX5_keepBeside_195 : decode cX5_keepBeside 195 = .ok (.getfield 31, 3) := by decide +kernel
theorem dX5_keepBeside_198 : decode cX5_keepBeside 198 = .ok (.iload_n 2, 1) := by decide +kernel
theorem dX5_keepBeside_199 : decode cX5_keepBeside 199 = .ok (.aload_n 0, 1) := by decide +kernel
theorem dX5_keepBeside_200 : decode cX5_keepBeside 200 = .ok (.getfield 59, 3) := by decide +kernel
theorem dX5_keepBeside_203 : decode cX5_keepBeside 203 = .ok (.iload_n 2, 1) := by decide +kernel
theorem dX5_keepBeside_204 : decode cX5_keepBeside 204 = .ok (.baload, 1) := by decide +kernel
theorem dX5_keepBeside_205 : decode cX5_keepBeside 205 = .ok (.bastore, 1) := by decide +kernel
theorem dX5_keepBeside_206 : decode cX5_keepBeside 206 = .ok (.aload_n 0, 1) := by decide +kernel
theorem dX5_keepBeside_207 : decode cX5_keepBeside 207 = .ok (.getfield 38, 3) := by decide +kernel
theorem dX5_keepBeside_210 : decode cX5_keepBeside 210 = .ok (.iload_n 2, 1) := by decide +kernel
theorem dX5_keepBeside_211 : decode cX5_keepBeside 211 = .ok (.aload_n 0, 1) := by decide +kernel
theorem dX5_keepBeside_212 : decode cX5_keepBeside 212 = .ok (.getfield 65, 3) := by decide +kernel
theorem dX5_keepBeside_215 : decode cX5_keepBeside 215 = .ok (.iload_n 2, 1) := by decide +kernel
theorem dX5_keepBeside_216 : decode cX5_keepBeside 216 = .ok (.iaload, 1) := by decide +kernel
theorem dX5_keepBeside_217 : decode cX5_keepBeside 217 = .ok (.iastore, 1) := by decide +kernel
theorem dX5_keepBeside_218 : decode cX5_keepBeside 218 = .ok (.aload_n 0, 1) := by decide +kernel
theorem dX5_keepBeside_219 : decode cX5_keepBeside 219 = .ok (.getfield 41, 3) := by decide +kernel
theorem dX5_keepBeside_222 : decode cX5_keepBeside 222 = .ok (.iload_n 2, 1) := by decide +kernel
theorem dX5_keepBeside_223 : decode cX5_keepBeside 223 = .ok (.aload_n 0, 1) := by decide +kernel
theorem dX5_keepBeside_224 : decode cX5_keepBeside 224 = .ok (.getfield 68, 3) := by decide +kernel
theorem dX5_keepBeside_227 : decode cX5_keepBeside 227 = .ok (.iload_n 2, 1) := by decide +kernel
theorem dX5_keepBeside_228 : decode cX5_keepBeside 228 = .ok (.laload, 1) := by decide +kernel
theorem dX5_keepBeside_229 : decode cX5_keepBeside 229 = .ok (.lastore, 1) := by decide +kernel
theorem dX5_keepBeside_230 : decode cX5_keepBeside 230 = .ok (.goto 39, 3) := by decide +kernel
theorem dX5_keepBeside_233 : decode cX5_keepBeside 233 = .ok (.aload_n 0, 1) := by decide +kernel
theorem dX5_keepBeside_234 : decode cX5_keepBeside 234 = .ok (.getfield 59, 3) := by decide +kernel
theorem dX5_keepBeside_237 : decode cX5_keepBeside 237 = .ok (.iload_n 2, 1) := by decide +kernel
theorem dX5_keepBeside_238 : decode cX5_keepBeside 238 = .ok (.aload_n 0, 1) := by decide +kernel
theorem dX5_keepBeside_239 : decode cX5_keepBeside 239 = .ok (.getfield 31, 3) := by decide +kernel
theorem dX5_keepBeside_242 : decode cX5_keepBeside 242 = .ok (.iload_n 2, 1) := by decide +kernel
theorem dX5_keepBeside_243 : decode cX5_keepBeside 243 = .ok (.baload, 1) := by decide +kernel
theorem dX5_keepBeside_244 : decode cX5_keepBeside 244 = .ok (.bastore, 1) := by decide +kernel
theorem dX5_keepBeside_245 : decode cX5_keepBeside 245 = .ok (.aload_n 0, 1) := by decide +kernel
theorem dX5_keepBeside_246 : decode cX5_keepBeside 246 = .ok (.getfield 65, 3) := by decide +kernel
theorem dX5_keepBeside_249 : decode cX5_keepBeside 249 = .ok (.iload_n 2, 1) := by decide +kernel
theorem dX5_keepBeside_250 : decode cX5_keepBeside 250 = .ok (.aload_n 0, 1) := by decide +kernel
theorem dX5_keepBeside_251 : decode cX5_keepBeside 251 = .ok (.getfield 38, 3) := by decide +kernel
theorem dX5_keepBeside_254 : decode cX5_keepBeside 254 = .ok (.iload_n 2, 1) := by decide +kernel
theorem dX5_keepBeside_255 : decode cX5_keepBeside 255 = .ok (.iaload, 1) := by decide +kernel
theorem dX5_keepBeside_256 : decode cX5_keepBeside 256 = .ok (.iastore, 1) := by decide +kernel
theorem dX5_keepBeside_257 : decode cX5_keepBeside 257 = .ok (.aload_n 0, 1) := by decide +kernel
theorem dX5_keepBeside_258 : decode cX5_keepBeside 258 = .ok (.getfield 68, 3) := by decide +kernel
theorem dX5_keepBeside_261 : decode cX5_keepBeside 261 = .ok (.iload_n 2, 1) := by decide +kernel
theorem dX5_keepBeside_262 : decode cX5_keepBeside 262 = .ok (.aload_n 0, 1) := by decide +kernel
theorem dX5_keepBeside_263 : decode cX5_keepBeside 263 = .ok (.getfield 41, 3) := by decide +kernel
theorem dX5_keepBeside_266 : decode cX5_keepBeside 266 = .ok (.iload_n 2, 1) := by decide +kernel
theorem dX5_keepBeside_267 : decode cX5_keepBeside 267 = .ok (.laload, 1) := by decide +kernel
theorem dX5_keepBeside_268 : decode cX5_keepBeside 268 = .ok (.lastore, 1) := by decide +kernel
theorem dX5_keepBeside_269 : decode cX5_keepBeside 269 = .ok (.iinc 2 1, 3) := by decide +kernel
theorem dX5_keepBeside_272 : decode cX5_keepBeside 272 = .ok (.goto (-88), 3) := by decide +kernel
theorem dX5_keepBeside_275 : decode cX5_keepBeside 275 = .ok (.return_, 1) := by decide +kernel
theorem dX5_badAt_0 : decode cX5_badAt 0 = .ok (.aload_n 0, 1) := by decide +kernel
theorem dX5_badAt_1 : decode cX5_badAt 1 = .ok (.aload_n 0, 1) := by decide +kernel
theorem dX5_badAt_2 : decode cX5_badAt 2 = .ok (.getfield 94, 3) := by decide +kernel
theorem dX5_badAt_5 : decode cX5_badAt 5 = .ok (.ifCond .eq 7, 3) := by decide +kernel
theorem dX5_badAt_8 : decode cX5_badAt 8 = .ok (.iconst 0, 1) := by decide +kernel
theorem dX5_badAt_9 : decode cX5_badAt 9 = .ok (.goto 4, 3) := by decide +kernel
theorem dX5_badAt_12 : decode cX5_badAt 12 = .ok (.iconst 1, 1) := by decide +kernel
theorem dX5_badAt_13 : decode cX5_badAt 13 = .ok (.putfield 75, 3) := by decide +kernel
theorem dX5_badAt_16 : decode cX5_badAt 16 = .ok (.aload_n 0, 1) := by decide +kernel
theorem dX5_badAt_17 : decode cX5_badAt 17 = .ok (.getfield 75, 3) := by decide +kernel
theorem dX5_badAt_20 : decode cX5_badAt 20 = .ok (.ifCond .le 5, 3) := by decide +kernel
theorem dX5_badAt_23 : decode cX5_badAt 23 = .ok (.iconst 0, 1) := by decide +kernel
theorem dX5_badAt_24 : decode cX5_badAt 24 = .ok (.ireturn, 1) := by decide +kernel
theorem dX5_badAt_25 : decode cX5_badAt 25 = .ok (.aload_n 0, 1) := by decide +kernel
theorem dX5_badAt_26 : decode cX5_badAt 26 = .ok (.iconst 0, 1) := by decide +kernel
theorem dX5_badAt_27 : decode cX5_badAt 27 = .ok (.invokevirtual 199, 3) := by decide +kernel
theorem dX5_badAt_30 : decode cX5_badAt 30 = .ok (.aload_n 0, 1) := by decide +kernel
theorem dX5_badAt_31 : decode cX5_badAt 31 = .ok (.getfield 98, 3) := by decide +kernel
theorem dX5_badAt_34 : decode cX5_badAt 34 = .ok (.istore_n 1, 1) := by decide +kernel
theorem dX5_badAt_35 : decode cX5_badAt 35 = .ok (.aload_n 0, 1) := by decide +kernel
theorem dX5_badAt_36 : decode cX5_badAt 36 = .ok (.getfield 101, 3) := by decide +kernel
theorem dX5_badAt_39 : decode cX5_badAt 39 = .ok (.istore_n 2, 1) := by decide +kernel
theorem dX5_badAt_40 : decode cX5_badAt 40 = .ok (.aload_n 0, 1) := by decide +kernel
theorem dX5_badAt_41 : decode cX5_badAt 41 = .ok (.getfield 104, 3) := by decide +kernel
theorem dX5_badAt_44 : decode cX5_badAt 44 = .ok (.istore_n 3, 1) := by decide +kernel
theorem dX5_badAt_45 : decode cX5_badAt 45 = .ok (.aload_n 0, 1) := by decide +kernel
theorem dX5_badAt_46 : decode cX5_badAt 46 = .ok (.getfield 107, 3) := by decide +kernel
theorem dX5_badAt_49 : decode cX5_badAt 49 = .ok (.istore 4, 2) := by decide +kernel
theorem dX5_badAt_51 : decode cX5_badAt 51 = .ok (.aload_n 0, 1) := by decide +kernel
theorem dX5_badAt_52 : decode cX5_badAt 52 = .ok (.getfield 110, 3) := by decide +kernel
theorem dX5_badAt_55 : decode cX5_badAt 55 = .ok (.istore 5, 2) := by decide +kernel
theorem dX5_badAt_57 : decode cX5_badAt 57 = .ok (.aload_n 0, 1) := by decide +kernel
theorem dX5_badAt_58 : decode cX5_badAt 58 = .ok (.getfield 113, 3) := by decide +kernel
theorem dX5_badAt_61 : decode cX5_badAt 61 = .ok (.istore 6, 2) := by decide +kernel
theorem dX5_badAt_63 : decode cX5_badAt 63 = .ok (.aload_n 0, 1) := by decide +kernel
theorem dX5_badAt_64 : decode cX5_badAt 64 = .ok (.invokevirtual 82, 3) := by decide +kernel
theorem dX5_badAt_67 : decode cX5_badAt 67 = .ok (.iconst (-1), 1) := by decide +kernel
theorem dX5_badAt_68 : decode cX5_badAt 68 = .ok (.istore 7, 2) := by decide +kernel
theorem dX5_badAt_70 : decode cX5_badAt 70 = .ok (.aload_n 0, 1) := by decide +kernel
theorem dX5_badAt_71 : decode cX5_badAt 71 = .ok (.getfield 98, 3) := by decide +kernel
theorem dX5_badAt_74 : decode cX5_badAt 74 = .ok (.iload_n 1, 1) := by decide +kernel
theorem dX5_badAt_75 : decode cX5_badAt 75 = .ok (.if_icmp .ge 64, 3) := by decide +kernel
theorem dX5_badAt_78 : decode cX5_badAt 78 = .ok (.iload 7, 2) := by decide +kernel
theorem dX5_badAt_80 : decode cX5_badAt 80 = .ok (.iconst (-1), 1) := by decide +kernel
theorem dX5_badAt_81 : decode cX5_badAt 81 = .ok (.if_icmp .ne 58, 3) := by decide +kernel
theorem dX5_badAt_84 : decode cX5_badAt 84 = .ok (.aload_n 0, 1) := by decide +kernel
theorem dX5_badAt_85 : decode cX5_badAt 85 = .ok (.bipush 32, 2) := by decide +kernel
theorem dX5_badAt_87 : decode cX5_badAt 87 = .ok (.aload_n 0, 1) := by decide +kernel
theorem dX5_badAt_88 : decode cX5_badAt 88 = .ok (.getfield 98, 3) := by decide +kernel
theorem dX5_badAt_91 : decode cX5_badAt 91 = .ok (.iadd, 1) := by decide +kernel
theorem dX5_badAt_92 : decode cX5_badAt 92 = .ok (.bipush 32, 2) := by decide +kernel
theorem dX5_badAt_94 : decode cX5_badAt 94 = .ok (.iload_n 1, 1) := by decide +kernel
theorem dX5_badAt_95 : decode cX5_badAt 95 = .ok (.iadd, 1) := by decide +kernel
theorem dX5_badAt_96 : decode cX5_badAt 96 = .ok (.invokevirtual 193, 3) := by decide +kernel
theorem dX5_badAt_99 : decode cX5_badAt 99 = .ok (.ifCond .ne 12, 3) := by decide +kernel
theorem dX5_badAt_102 : decode cX5_badAt 102 = .ok (.aload_n 0, 1) := by decide +kernel
theorem dX5_badAt_103 : decode cX5_badAt 103 = .ok (.getfield 101, 3) := by decide +kernel
theorem dX5_badAt_106 : decode cX5_badAt 106 = .ok (.istore 7, 2) := by decide +kernel
theorem dX5_badAt_108 : decode cX5_badAt 108 = .ok (.goto (-38), 3) := by decide +kernel
theorem dX5_badAt_111 : decode cX5_badAt 111 = .ok (.aload_n 0, 1) := by decide +kernel
theorem dX5_badAt_112 : decode cX5_badAt 112 = .ok (.bipush 32, 2) := by decide +kernel
theorem dX5_badAt_114 : decode cX5_badAt 114 = .ok (.aload_n 0, 1) := by decide +kernel
theorem dX5_badAt_115 : decode cX5_badAt 115 = .ok (.getfield 98, 3) := by decide +kernel
theorem dX5_badAt_118 : decode cX5_badAt 118 = .ok (.iadd, 1) := by decide +kernel
theorem dX5_badAt_119 : decode cX5_badAt 119 = .ok (.aload_n 0, 1) := by decide +kernel
theorem dX5_badAt_120 : decode cX5_badAt 120 = .ok (.getfield 7, 3) := by decide +kernel
theorem dX5_badAt_123 : decode cX5_badAt 123 = .ok (.bipush 32, 2) := by decide +kernel
theorem dX5_badAt_125 : decode cX5_badAt 125 = .ok (.aload_n 0, 1) := by decide +kernel
theorem dX5_badAt_126 : decode cX5_badAt 126 = .ok (.getfield 98, 3) := by decide +kernel
theorem dX5_badAt_129 : decode cX5_badAt 129 = .ok (.iadd, 1) := by decide +kernel
theorem dX5_badAt_130 : decode cX5_badAt 130 = .ok (.iconst 3, 1) := by decide +kernel
theorem dX5_badAt_131 : decode cX5_badAt 131 = .ok (.iadd, 1) := by decide +kernel
theorem dX5_badAt_132 : decode cX5_badAt 132 = .ok (.iaload, 1) := by decide +kernel
theorem dX5_badAt_133 : decode cX5_badAt 133 = .ok (.invokevirtual 130, 3) := by decide +kernel
theorem dX5_badAt_136 : decode cX5_badAt 136 = .ok (.goto (-66), 3) := by decide +kernel
theorem dX5_badAt_139 : decode cX5_badAt 139 = .ok (.aload_n 0, 1) := by decide +kernel
theorem dX5_badAt_140 : decode cX5_badAt 140 = .ok (.iload_n 1, 1) := by decide +kernel
theorem dX5_badAt_141 : decode cX5_badAt 141 = .ok (.putfield 98, 3) := by decide +kernel
theorem dX5_badAt_144 : decode cX5_badAt 144 = .ok (.aload_n 0, 1) := by decide +kernel
theorem dX5_badAt_145 : decode cX5_badAt 145 = .ok (.iload_n 2, 1) := by decide +kernel
theorem dX5_badAt_146 : decode cX5_badAt 146 = .ok (.putfield 101, 3) := by decide +kernel
theorem dX5_badAt_149 : decode cX5_badAt 149 = .ok (.aload_n 0, 1) := by decide +kernel
theorem dX5_badAt_150 : decode cX5_badAt 150 = .ok (.iload_n 3, 1) := by decide +kernel
theorem dX5_badAt_151 : decode cX5_badAt 151 = .ok (.putfield 104, 3) := by decide +kernel
theorem dX5_badAt_154 : decode cX5_badAt 154 = .ok (.aload_n 0, 1) := by decide +kernel
theorem dX5_badAt_155 : decode cX5_badAt 155 = .ok (.iload 4, 2) := by decide +kernel
theorem dX5_badAt_157 : decode cX5_badAt 157 = .ok (.putfield 107, 3) := by decide +kernel
theorem dX5_badAt_160 : decode cX5_badAt 160 = .ok (.aload_n 0, 1) := by decide +kernel
theorem dX5_badAt_161 : decode cX5_badAt 161 = .ok (.iload 5, 2) := by decide +kernel
theorem dX5_badAt_163 : decode cX5_badAt 163 = .ok (.putfield 110, 3) := by decide +kernel
theorem dX5_badAt_166 : decode cX5_badAt 166 = .ok (.aload_n 0, 1) := by decide +kernel
theorem dX5_badAt_167 : decode cX5_badAt 167 = .ok (.iload 6, 2) := by decide +kernel
theorem dX5_badAt_169 : decode cX5_badAt 169 = .ok (.putfield 113, 3) := by decide +kernel
theorem dX5_badAt_172 : decode cX5_badAt 172 = .ok (.aload_n 0, 1) := by decide +kernel
theorem dX5_badAt_173 : decode cX5_badAt 173 = .ok (.iconst 1, 1) := by decide +kernel
theorem dX5_badAt_174 : decode cX5_badAt 174 = .ok (.invokevirtual 199, 3) := by decide +kernel
theorem dX5_badAt_177 : decode cX5_badAt 177 = .ok (.iload 7, 2) := by decide +kernel
theorem dX5_badAt_179 : decode cX5_badAt 179 = .ok (.ireturn, 1) := by decide +kernel
theorem dX5_isVersion_0 : decode cX5_isVersion 0 = .ok (.iload_n 1, 1) := by decide +kernel
theorem dX5_isVersion_1 : decode cX5_isVersion 1 = .ok (.iconst (-1), 1) := by decide +kernel
theorem dX5_isVersion_2 : decode cX5_isVersion 2 = .ok (.if_icmp .eq 11, 3) := by decide +kernel
theorem dX5_isVersion_5 : decode cX5_isVersion 5 = .ok (.aload_n 0, 1) := by decide +kernel
theorem dX5_isVersion_6 : decode cX5_isVersion 6 = .ok (.iload_n 1, 1) := by decide +kernel
theorem dX5_isVersion_7 : decode cX5_isVersion 7 = .ok (.invokevirtual 152, 3) := by decide +kernel
theorem dX5_isVersion_10 : decode cX5_isVersion 10 = .ok (.ifCond .eq 7, 3) := by decide +kernel
theorem dX5_isVersion_13 : decode cX5_isVersion 13 = .ok (.iconst 1, 1) := by decide +kernel
theorem dX5_isVersion_14 : decode cX5_isVersion 14 = .ok (.goto 4, 3) := by decide +kernel
theorem dX5_isVersion_17 : decode cX5_isVersion 17 = .ok (.iconst 0, 1) := by decide +kernel
theorem dX5_isVersion_18 : decode cX5_isVersion 18 = .ok (.ireturn, 1) := by decide +kernel
theorem dX5_has_0 : decode cX5_has 0 = .ok (.aload_n 0, 1) := by decide +kernel
theorem dX5_has_1 : decode cX5_has 1 = .ok (.aload_n 0, 1) := by decide +kernel
theorem dX5_has_2 : decode cX5_has 2 = .ok (.getfield 94, 3) := by decide +kernel
theorem dX5_has_5 : decode cX5_has 5 = .ok (.ifCond .ne 7, 3) := by decide +kernel
theorem dX5_has_8 : decode cX5_has 8 = .ok (.iconst 1, 1) := by decide +kernel
theorem dX5_has_9 : decode cX5_has 9 = .ok (.goto 36, 3) := by decide +kernel
theorem dX5_has_12 : decode cX5_has 12 = .ok (.aload_n 0, 1) := by decide +kernel
theorem dX5_has_13 : decode cX5_has 13 = .ok (.iload_n 1, 1) := by decide +kernel
theorem dX5_has_14 : decode cX5_has 14 = .ok (.invokevirtual 203, 3) := by decide +kernel
theorem dX5_has_17 : decode cX5_has 17 = .ok (.ifCond .eq 23, 3) := by decide +kernel
theorem dX5_has_20 : decode cX5_has 20 = .ok (.iload_n 2, 1) := by decide +kernel
theorem dX5_has_21 : decode cX5_has 21 = .ok (.iconst 0, 1) := by decide +kernel
theorem dX5_has_22 : decode cX5_has 22 = .ok (.bipush 63, 2) := by decide +kernel
theorem dX5_has_24 : decode cX5_has 24 = .ok (.invokestatic 133, 3) := by decide +kernel
theorem dX5_has_27 : decode cX5_has 27 = .ok (.ifCond .eq 13, 3) := by decide +kernel
theorem dX5_has_30 : decode cX5_has 30 = .ok (.iload_n 3, 1) := by decide +kernel
theorem dX5_has_31 : decode cX5_has 31 = .ok (.iconst 0, 1) := by decide +kernel
theorem dX5_has_32 : decode cX5_has 32 = .ok (.bipush 63, 2) := by decide +kernel
theorem dX5_has_34 : decode cX5_has 34 = .ok (.invokestatic 133, 3) := by decide +kernel
theorem dX5_has_37 : decode cX5_has 37 = .ok (.ifCond .ne 7, 3) := by decide +kernel
theorem dX5_has_40 : decode cX5_has 40 = .ok (.iconst 2, 1) := by decide +kernel
theorem dX5_has_41 : decode cX5_has 41 = .ok (.goto 4, 3) := by decide +kernel
theorem dX5_has_44 : decode cX5_has 44 = .ok (.iconst 0, 1) := by decide +kernel
theorem dX5_has_45 : decode cX5_has 45 = .ok (.putfield 75, 3) := by decide +kernel
theorem dX5_has_48 : decode cX5_has 48 = .ok (.aload_n 0, 1) := by decide +kernel
theorem dX5_has_49 : decode cX5_has 49 = .ok (.getfield 75, 3) := by decide +kernel
theorem dX5_has_52 : decode cX5_has 52 = .ok (.ifCond .ne 22, 3) := by decide +kernel
theorem dX5_has_55 : decode cX5_has 55 = .ok (.aload_n 0, 1) := by decide +kernel
theorem dX5_has_56 : decode cX5_has 56 = .ok (.iload_n 1, 1) := by decide +kernel
theorem dX5_has_57 : decode cX5_has 57 = .ok (.iload_n 2, 1) := by decide +kernel
theorem dX5_has_58 : decode cX5_has 58 = .ok (.invokevirtual 178, 3) := by decide +kernel
theorem dX5_has_61 : decode cX5_has 61 = .ok (.iload_n 3, 1) := by decide +kernel
theorem dX5_has_62 : decode cX5_has 62 = .ok (.lushr, 1) := by decide +kernel
theorem dX5_has_63 : decode cX5_has 63 = .ok (.lconst 1, 1) := by decide +kernel
theorem dX5_has_64 : decode cX5_has 64 = .ok (.land, 1) := by decide +kernel
theorem dX5_has_65 : decode cX5_has 65 = .ok (.lconst 1, 1) := by decide +kernel
theorem dX5_has_66 : decode cX5_has 66 = .ok (.lcmp, 1) := by decide +kernel
theorem dX5_has_67 : decode cX5_has 67 = .ok (.ifCond .ne 7, 3) := by decide +kernel
theorem dX5_has_70 : decode cX5_has 70 = .ok (.iconst 1, 1) := by decide +kernel
theorem dX5_has_71 : decode cX5_has 71 = .ok (.goto 4, 3) := by decide +kernel
theorem dX5_has_74 : decode cX5_has 74 = .ok (.iconst 0, 1) := by decide +kernel
theorem dX5_has_75 : decode cX5_has 75 = .ok (.ireturn, 1) := by decide +kernel
theorem dX5_chunk_0 : decode cX5_chunk 0 = .ok (.aload_n 0, 1) := by decide +kernel
theorem dX5_chunk_1 : decode cX5_chunk 1 = .ok (.aload_n 0, 1) := by decide +kernel
theorem dX5_chunk_2 : decode cX5_chunk 2 = .ok (.getfield 94, 3) := by decide +kernel
theorem dX5_chunk_5 : decode cX5_chunk 5 = .ok (.ifCond .ne 7, 3) := by decide +kernel
theorem dX5_chunk_8 : decode cX5_chunk 8 = .ok (.iconst 1, 1) := by decide +kernel
theorem dX5_chunk_9 : decode cX5_chunk 9 = .ok (.goto 26, 3) := by decide +kernel
theorem dX5_chunk_12 : decode cX5_chunk 12 = .ok (.aload_n 0, 1) := by decide +kernel
theorem dX5_chunk_13 : decode cX5_chunk 13 = .ok (.iload_n 1, 1) := by decide +kernel
theorem dX5_chunk_14 : decode cX5_chunk 14 = .ok (.invokevirtual 152, 3) := by decide +kernel
theorem dX5_chunk_17 : decode cX5_chunk 17 = .ok (.ifCond .eq 13, 3) := by decide +kernel
theorem dX5_chunk_20 : decode cX5_chunk 20 = .ok (.iload_n 2, 1) := by decide +kernel
theorem dX5_chunk_21 : decode cX5_chunk 21 = .ok (.iconst 0, 1) := by decide +kernel
theorem dX5_chunk_22 : decode cX5_chunk 22 = .ok (.bipush 7, 2) := by decide +kernel
theorem dX5_chunk_24 : decode cX5_chunk 24 = .ok (.invokestatic 133, 3) := by decide +kernel
theorem dX5_chunk_27 : decode cX5_chunk 27 = .ok (.ifCond .ne 7, 3) := by decide +kernel
theorem dX5_chunk_30 : decode cX5_chunk 30 = .ok (.iconst 2, 1) := by decide +kernel
theorem dX5_chunk_31 : decode cX5_chunk 31 = .ok (.goto 4, 3) := by decide +kernel
theorem dX5_chunk_34 : decode cX5_chunk 34 = .ok (.iconst 0, 1) := by decide +kernel
theorem dX5_chunk_35 : decode cX5_chunk 35 = .ok (.putfield 75, 3) := by decide +kernel
theorem dX5_chunk_38 : decode cX5_chunk 38 = .ok (.aload_n 0, 1) := by decide +kernel
theorem dX5_chunk_39 : decode cX5_chunk 39 = .ok (.getfield 75, 3) := by decide +kernel
theorem dX5_chunk_42 : decode cX5_chunk 42 = .ok (.ifCond .le 7, 3) := by decide +kernel
theorem dX5_chunk_45 : decode cX5_chunk 45 = .ok (.iconst 0, 1) := by decide +kernel
theorem dX5_chunk_46 : decode cX5_chunk 46 = .ok (.goto 14, 3) := by decide +kernel
theorem dX5_chunk_49 : decode cX5_chunk 49 = .ok (.aload_n 0, 1) := by decide +kernel
theorem dX5_chunk_50 : decode cX5_chunk 50 = .ok (.getfield 35, 3) := by decide +kernel
theorem dX5_chunk_53 : decode cX5_chunk 53 = .ok (.bipush 8, 2) := by decide +kernel
theorem dX5_chunk_55 : decode cX5_chunk 55 = .ok (.iload_n 1, 1) := by decide +kernel
theorem dX5_chunk_56 : decode cX5_chunk 56 = .ok (.imul, 1) := by decide +kernel
theorem dX5_chunk_57 : decode cX5_chunk 57 = .ok (.iload_n 2, 1) := by decide +kernel
theorem dX5_chunk_58 : decode cX5_chunk 58 = .ok (.iadd, 1) := by decide +kernel
theorem dX5_chunk_59 : decode cX5_chunk 59 = .ok (.iaload, 1) := by decide +kernel
theorem dX5_chunk_60 : decode cX5_chunk 60 = .ok (.ireturn, 1) := by decide +kernel
theorem dX5_named_0 : decode cX5_named 0 = .ok (.aload_n 0, 1) := by decide +kernel
theorem dX5_named_1 : decode cX5_named 1 = .ok (.aload_n 0, 1) := by decide +kernel
theorem dX5_named_2 : decode cX5_named 2 = .ok (.getfield 94, 3) := by decide +kernel
theorem dX5_named_5 : decode cX5_named 5 = .ok (.ifCond .ne 7, 3) := by decide +kernel
theorem dX5_named_8 : decode cX5_named 8 = .ok (.iconst 1, 1) := by decide +kernel
theorem dX5_named_9 : decode cX5_named 9 = .ok (.goto 22, 3) := by decide +kernel
theorem dX5_named_12 : decode cX5_named 12 = .ok (.iload_n 1, 1) := by decide +kernel
theorem dX5_named_13 : decode cX5_named 13 = .ok (.iconst 0, 1) := by decide +kernel
theorem dX5_named_14 : decode cX5_named 14 = .ok (.aload_n 0, 1) := by decide +kernel
theorem dX5_named_15 : decode cX5_named 15 = .ok (.getfield 79, 3) := by decide +kernel
theorem dX5_named_18 : decode cX5_named 18 = .ok (.iconst 1, 1) := by decide +kernel
theorem dX5_named_19 : decode cX5_named 19 = .ok (.isub, 1) := by decide +kernel
theorem dX5_named_20 : decode cX5_named 20 = .ok (.invokestatic 133, 3) := by decide +kernel
theorem dX5_named_23 : decode cX5_named 23 = .ok (.ifCond .ne 7, 3) := by decide +kernel
theorem dX5_named_26 : decode cX5_named 26 = .ok (.iconst 2, 1) := by decide +kernel
theorem dX5_named_27 : decode cX5_named 27 = .ok (.goto 4, 3) := by decide +kernel
theorem dX5_named_30 : decode cX5_named 30 = .ok (.iconst 0, 1) := by decide +kernel
theorem dX5_named_31 : decode cX5_named 31 = .ok (.putfield 75, 3) := by decide +kernel
theorem dX5_named_34 : decode cX5_named 34 = .ok (.aload_n 0, 1) := by decide +kernel
theorem dX5_named_35 : decode cX5_named 35 = .ok (.getfield 75, 3) := by decide +kernel
theorem dX5_named_38 : decode cX5_named 38 = .ok (.ifCond .le 7, 3) := by decide +kernel
theorem dX5_named_41 : decode cX5_named 41 = .ok (.iconst 0, 1) := by decide +kernel
theorem dX5_named_42 : decode cX5_named 42 = .ok (.goto 8, 3) := by decide +kernel
theorem dX5_named_45 : decode cX5_named 45 = .ok (.aload_n 0, 1) := by decide +kernel
theorem dX5_named_46 : decode cX5_named 46 = .ok (.iload_n 1, 1) := by decide +kernel
theorem dX5_named_47 : decode cX5_named 47 = .ok (.invokevirtual 145, 3) := by decide +kernel
theorem dX5_named_50 : decode cX5_named 50 = .ok (.ireturn, 1) := by decide +kernel
theorem dX5_differ_0 : decode cX5_differ 0 = .ok (.aload_n 0, 1) := by decide +kernel
theorem dX5_differ_1 : decode cX5_differ 1 = .ok (.aload_n 0, 1) := by decide +kernel
theorem dX5_differ_2 : decode cX5_differ 2 = .ok (.getfield 94, 3) := by decide +kernel
theorem dX5_differ_5 : decode cX5_differ 5 = .ok (.ifCond .ne 7, 3) := by decide +kernel
theorem dX5_differ_8 : decode cX5_differ 8 = .ok (.iconst 1, 1) := by decide +kernel
theorem dX5_differ_9 : decode cX5_differ 9 = .ok (.goto 24, 3) := by decide +kernel
theorem dX5_differ_12 : decode cX5_differ 12 = .ok (.aload_n 0, 1) := by decide +kernel
theorem dX5_differ_13 : decode cX5_differ 13 = .ok (.iload_n 1, 1) := by decide +kernel
theorem dX5_differ_14 : decode cX5_differ 14 = .ok (.invokevirtual 203, 3) := by decide +kernel
theorem dX5_differ_17 : decode cX5_differ 17 = .ok (.ifCond .eq 11, 3) := by decide +kernel
theorem dX5_differ_20 : decode cX5_differ 20 = .ok (.aload_n 0, 1) := by decide +kernel
theorem dX5_differ_21 : decode cX5_differ 21 = .ok (.iload_n 2, 1) := by decide +kernel
theorem dX5_differ_22 : decode cX5_differ 22 = .ok (.invokevirtual 203, 3) := by decide +kernel
theorem dX5_differ_25 : decode cX5_differ 25 = .ok (.ifCond .ne 7, 3) := by decide +kernel
theorem dX5_differ_28 : decode cX5_differ 28 = .ok (.iconst 2, 1) := by decide +kernel
theorem dX5_differ_29 : decode cX5_differ 29 = .ok (.goto 4, 3) := by decide +kernel
theorem dX5_differ_32 : decode cX5_differ 32 = .ok (.iconst 0, 1) := by decide +kernel
theorem dX5_differ_33 : decode cX5_differ 33 = .ok (.putfield 75, 3) := by decide +kernel
theorem dX5_differ_36 : decode cX5_differ 36 = .ok (.aload_n 0, 1) := by decide +kernel
theorem dX5_differ_37 : decode cX5_differ 37 = .ok (.getfield 75, 3) := by decide +kernel
theorem dX5_differ_40 : decode cX5_differ 40 = .ok (.ifCond .le 5, 3) := by decide +kernel
theorem dX5_differ_43 : decode cX5_differ 43 = .ok (.iconst 0, 1) := by decide +kernel
theorem dX5_differ_44 : decode cX5_differ 44 = .ok (.ireturn, 1) := by decide +kernel
theorem dX5_differ_45 : decode cX5_differ 45 = .ok (.iconst 0, 1) := by decide +kernel
theorem dX5_differ_46 : decode cX5_differ 46 = .ok (.istore_n 3, 1) := by decide +kernel
theorem dX5_differ_47 : decode cX5_differ 47 = .ok (.iconst 0, 1) := by decide +kernel
theorem dX5_differ_48 : decode cX5_differ 48 = .ok (.istore 4, 2) := by decide +kernel
theorem dX5_differ_50 : decode cX5_differ 50 = .ok (.iload 4, 2) := by decide +kernel
theorem dX5_differ_52 : decode cX5_differ 52 = .ok (.bipush 64, 2) := by decide +kernel
theorem dX5_differ_54 : decode cX5_differ 54 = .ok (.if_icmp .ge 58, 3) := by decide +kernel
theorem dX5_differ_57 : decode cX5_differ 57 = .ok (.iconst 0, 1) := by decide +kernel
theorem dX5_differ_58 : decode cX5_differ 58 = .ok (.istore 5, 2) := by decide +kernel
theorem dX5_differ_60 : decode cX5_differ 60 = .ok (.iload 5, 2) := by decide +kernel
theorem dX5_differ_62 : decode cX5_differ 62 = .ok (.bipush 64, 2) := by decide +kernel
theorem dX5_differ_64 : decode cX5_differ 64 = .ok (.if_icmp .ge 42, 3) := by decide +kernel
theorem dX5_differ_67 : decode cX5_differ 67 = .ok (.iload_n 3, 1) := by decide +kernel
theorem dX5_differ_68 : decode cX5_differ 68 = .ok (.aload_n 0, 1) := by decide +kernel
theorem dX5_differ_69 : decode cX5_differ 69 = .ok (.iload_n 1, 1) := by decide +kernel
theorem dX5_differ_70 : decode cX5_differ 70 = .ok (.iload 4, 2) := by decide +kernel
theorem dX5_differ_72 : decode cX5_differ 72 = .ok (.invokevirtual 178, 3) := by decide +kernel
theorem dX5_differ_75 : decode cX5_differ 75 = .ok (.aload_n 0, 1) := by decide +kernel
theorem dX5_differ_76 : decode cX5_differ 76 = .ok (.iload_n 2, 1) := by decide +kernel
theorem dX5_differ_77 : decode cX5_differ 77 = .ok (.iload 4, 2) := by decide +kernel
theorem dX5_differ_79 : decode cX5_differ 79 = .ok (.invokevirtual 178, 3) := by decide +kernel
theorem dX5_differ_82 : decode cX5_differ 82 = .ok (.lxor, 1) := by decide +kernel
theorem dX5_differ_83 : decode cX5_differ 83 = .ok (.iload 5, 2) := by decide +kernel
theorem dX5_differ_85 : decode cX5_differ 85 = .ok (.lushr, 1) := by decide +kernel
theorem dX5_differ_86 : decode cX5_differ 86 = .ok (.lconst 1, 1) := by decide +kernel
theorem dX5_differ_87 : decode cX5_differ 87 = .ok (.land, 1) := by decide +kernel
theorem dX5_differ_88 : decode cX5_differ 88 = .ok (.lconst 1, 1) := by decide +kernel
theorem dX5_differ_89 : decode cX5_differ 89 = .ok (.lcmp, 1) := by decide +kernel
theorem dX5_differ_90 : decode cX5_differ 90 = .ok (.ifCond .ne 7, 3) := by decide +kernel
theorem dX5_differ_93 : decode cX5_differ 93 = .ok (.iconst 1, 1) := by decide +kernel
theorem dX5_differ_94 : decode cX5_differ 94 = .ok (.goto 4, 3) := by decide +kernel
theorem dX5_differ_97 : decode cX5_differ 97 = .ok (.iconst 0, 1) := by decide +kernel
theorem dX5_differ_98 : decode cX5_differ 98 = .ok (.iadd, 1) := by decide +kernel
theorem dX5_differ_99 : decode cX5_differ 99 = .ok (.istore_n 3, 1) := by decide +kernel
theorem dX5_differ_100 : decode cX5_differ 100 = .ok (.iinc 5 1, 3) := by decide +kernel
theorem dX5_differ_103 : decode cX5_differ 103 = .ok (.goto (-43), 3) := by decide +kernel
theorem dX5_differ_106 : decode cX5_differ 106 = .ok (.iinc 4 1, 3) := by decide +kernel
theorem dX5_differ_109 : decode cX5_differ 109 = .ok (.goto (-59), 3) := by decide +kernel
theorem dX5_differ_112 : decode cX5_differ 112 = .ok (.iload_n 3, 1) := by decide +kernel
theorem dX5_differ_113 : decode cX5_differ 113 = .ok (.ireturn, 1) := by decide +kernel
theorem dX5_far_0 : decode cX5_far 0 = .ok (.aload_n 0, 1) := by decide +kernel
theorem dX5_far_1 : decode cX5_far 1 = .ok (.aload_n 0, 1) := by decide +kernel
theorem dX5_far_2 : decode cX5_far 2 = .ok (.getfield 94, 3) := by decide +kernel
theorem dX5_far_5 : decode cX5_far 5 = .ok (.ifCond .ne 7, 3) := by decide +kernel
theorem dX5_far_8 : decode cX5_far 8 = .ok (.iconst 1, 1) := by decide +kernel
theorem dX5_far_9 : decode cX5_far 9 = .ok (.goto 36, 3) := by decide +kernel
theorem dX5_far_12 : decode cX5_far 12 = .ok (.aload_n 0, 1) := by decide +kernel
theorem dX5_far_13 : decode cX5_far 13 = .ok (.iload_n 1, 1) := by decide +kernel
theorem dX5_far_14 : decode cX5_far 14 = .ok (.invokevirtual 203, 3) := by decide +kernel
theorem dX5_far_17 : decode cX5_far 17 = .ok (.ifCond .eq 23, 3) := by decide +kernel
theorem dX5_far_20 : decode cX5_far 20 = .ok (.iload_n 2, 1) := by decide +kernel
theorem dX5_far_21 : decode cX5_far 21 = .ok (.iconst 0, 1) := by decide +kernel
theorem dX5_far_22 : decode cX5_far 22 = .ok (.bipush 63, 2) := by decide +kernel
theorem dX5_far_24 : decode cX5_far 24 = .ok (.invokestatic 133, 3) := by decide +kernel
theorem dX5_far_27 : decode cX5_far 27 = .ok (.ifCond .eq 13, 3) := by decide +kernel
theorem dX5_far_30 : decode cX5_far 30 = .ok (.iload_n 3, 1) := by decide +kernel
theorem dX5_far_31 : decode cX5_far 31 = .ok (.iconst 0, 1) := by decide +kernel
theorem dX5_far_32 : decode cX5_far 32 = .ok (.bipush 63, 2) := by decide +kernel
theorem dX5_far_34 : decode cX5_far 34 = .ok (.invokestatic 133, 3) := by decide +kernel
theorem dX5_far_37 : decode cX5_far 37 = .ok (.ifCond .ne 7, 3) := by decide +kernel
theorem dX5_far_40 : decode cX5_far 40 = .ok (.iconst 2, 1) := by decide +kernel
theorem dX5_far_41 : decode cX5_far 41 = .ok (.goto 4, 3) := by decide +kernel
theorem dX5_far_44 : decode cX5_far 44 = .ok (.iconst 0, 1) := by decide +kernel
theorem dX5_far_45 : decode cX5_far 45 = .ok (.putfield 75, 3) := by decide +kernel
theorem dX5_far_48 : decode cX5_far 48 = .ok (.aload_n 0, 1) := by decide +kernel
theorem dX5_far_49 : decode cX5_far 49 = .ok (.getfield 75, 3) := by decide +kernel
theorem dX5_far_52 : decode cX5_far 52 = .ok (.ifCond .le 5, 3) := by decide +kernel
theorem dX5_far_55 : decode cX5_far 55 = .ok (.iconst 0, 1) := by decide +kernel
theorem dX5_far_56 : decode cX5_far 56 = .ok (.ireturn, 1) := by decide +kernel
theorem dX5_far_57 : decode cX5_far 57 = .ok (.lconst 1, 1) := by decide +kernel
theorem dX5_far_58 : decode cX5_far 58 = .ok (.iload_n 2, 1) := by decide +kernel
theorem dX5_far_59 : decode cX5_far 59 = .ok (.lshl, 1) := by decide +kernel
theorem dX5_far_60 : decode cX5_far 60 = .ok (.lstore 4, 2) := by decide +kernel
theorem dX5_far_62 : decode cX5_far 62 = .ok (.iconst 0, 1) := by decide +kernel
theorem dX5_far_63 : decode cX5_far 63 = .ok (.istore 6, 2) := by decide +kernel
theorem dX5_far_65 : decode cX5_far 65 = .ok (.lconst 0, 1) := by decide +kernel
theorem dX5_far_66 : decode cX5_far 66 = .ok (.lstore 7, 2) := by decide +kernel
theorem dX5_far_68 : decode cX5_far 68 = .ok (.lload 4, 2) := by decide +kernel
theorem dX5_far_70 : decode cX5_far 70 = .ok (.lload 7, 2) := by decide +kernel
theorem dX5_far_72 : decode cX5_far 72 = .ok (.lcmp, 1) := by decide +kernel
theorem dX5_far_73 : decode cX5_far 73 = .ok (.ifCond .eq 67, 3) := by decide +kernel
theorem dX5_far_76 : decode cX5_far 76 = .ok (.lload 4, 2) := by decide +kernel
theorem dX5_far_78 : decode cX5_far 78 = .ok (.iload_n 3, 1) := by decide +kernel
theorem dX5_far_79 : decode cX5_far 79 = .ok (.lushr, 1) := by decide +kernel
theorem dX5_far_80 : decode cX5_far 80 = .ok (.lconst 1, 1) := by decide +kernel
theorem dX5_far_81 : decode cX5_far 81 = .ok (.land, 1) := by decide +kernel
theorem dX5_far_82 : decode cX5_far 82 = .ok (.lconst 1, 1) := by decide +kernel
theorem dX5_far_83 : decode cX5_far 83 = .ok (.lcmp, 1) := by decide +kernel
theorem dX5_far_84 : decode cX5_far 84 = .ok (.ifCond .ne 6, 3) := by decide +kernel
theorem dX5_far_87 : decode cX5_far 87 = .ok (.iload 6, 2) := by decide +kernel
theorem dX5_far_89 : decode cX5_far 89 = .ok (.ireturn, 1) := by decide +kernel
theorem dX5_far_90 : decode cX5_far 90 = .ok (.lload 4, 2) := by decide +kernel
theorem dX5_far_92 : decode cX5_far 92 = .ok (.lstore 7, 2) := by decide +kernel
theorem dX5_far_94 : decode cX5_far 94 = .ok (.iconst 0, 1) := by decide +kernel
theorem dX5_far_95 : decode cX5_far 95 = .ok (.istore 9, 2) := by decide +kernel
theorem dX5_far_97 : decode cX5_far 97 = .ok (.iload 9, 2) := by decide +kernel
theorem dX5_far_99 : decode cX5_far 99 = .ok (.bipush 64, 2) := by decide +kernel
theorem dX5_far_101 : decode cX5_far 101 = .ok (.if_icmp .ge 33, 3) := by decide +kernel
theorem dX5_far_104 : decode cX5_far 104 = .ok (.lload 7, 2) := by decide +kernel
theorem dX5_far_106 : decode cX5_far 106 = .ok (.iload 9, 2) := by decide +kernel
theorem dX5_far_108 : decode cX5_far 108 = .ok (.lushr, 1) := by decide +kernel
theorem dX5_far_109 : decode cX5_far 109 = .ok (.lconst 1, 1) := by decide +kernel
theorem dX5_far_110 : decode cX5_far 110 = .ok (.land, 1) := by decide +kernel
theorem dX5_far_111 : decode cX5_far 111 = .ok (.lconst 1, 1) := by decide +kernel
theorem dX5_far_112 : decode cX5_far 112 = .ok (.lcmp, 1) := by decide +kernel
theorem dX5_far_113 : decode cX5_far 113 = .ok (.ifCond .ne 15, 3) := by decide +kernel
theorem dX5_far_116 : decode cX5_far 116 = .ok (.lload 4, 2) := by decide +kernel
theorem dX5_far_118 : decode cX5_far 118 = .ok (.aload_n 0, 1) := by decide +kernel
theorem dX5_far_119 : decode cX5_far 119 = .ok (.iload_n 1, 1) := by decide +kernel
theorem dX5_far_120 : decode cX5_far 120 = .ok (.iload 9, 2) := by decide +kernel
theorem dX5_far_122 : decode cX5_far 122 = .ok (.invokevirtual 178, 3) := by decide +kernel
theorem dX5_far_125 : decode cX5_far 125 = .ok (.lor, 1) := by decide +kernel
theorem dX5_far_126 : decode cX5_far 126 = .ok (.lstore 4, 2) := by decide +kernel
theorem dX5_far_128 : decode cX5_far 128 = .ok (.iinc 9 1, 3) := by decide +kernel
theorem dX5_far_131 : decode cX5_far 131 = .ok (.goto (-34), 3) := by decide +kernel
theorem dX5_far_134 : decode cX5_far 134 = .ok (.iinc 6 1, 3) := by decide +kernel
theorem dX5_far_137 : decode cX5_far 137 = .ok (.goto (-69), 3) := by decide +kernel
theorem dX5_far_140 : decode cX5_far 140 = .ok (.iconst (-1), 1) := by decide +kernel
theorem dX5_far_141 : decode cX5_far 141 = .ok (.ireturn, 1) := by decide +kernel
theorem dX5_usable_0 : decode cX5_usable 0 = .ok (.aload_n 0, 1) := by decide +kernel
theorem dX5_usable_1 : decode cX5_usable 1 = .ok (.aload_n 0, 1) := by decide +kernel
theorem dX5_usable_2 : decode cX5_usable 2 = .ok (.getfield 94, 3) := by decide +kernel
theorem dX5_usable_5 : decode cX5_usable 5 = .ok (.ifCond .ne 7, 3) := by decide +kernel
theorem dX5_usable_8 : decode cX5_usable 8 = .ok (.iconst 1, 1) := by decide +kernel
theorem dX5_usable_9 : decode cX5_usable 9 = .ok (.goto 22, 3) := by decide +kernel
theorem dX5_usable_12 : decode cX5_usable 12 = .ok (.iload_n 1, 1) := by decide +kernel
theorem dX5_usable_13 : decode cX5_usable 13 = .ok (.iconst 0, 1) := by decide +kernel
theorem dX5_usable_14 : decode cX5_usable 14 = .ok (.aload_n 0, 1) := by decide +kernel
theorem dX5_usable_15 : decode cX5_usable 15 = .ok (.getfield 113, 3) := by decide +kernel
theorem dX5_usable_18 : decode cX5_usable 18 = .ok (.iconst 1, 1) := by decide +kernel
theorem dX5_usable_19 : decode cX5_usable 19 = .ok (.isub, 1) := by decide +kernel
theorem dX5_usable_20 : decode cX5_usable 20 = .ok (.invokestatic 133, 3) := by decide +kernel
theorem dX5_usable_23 : decode cX5_usable 23 = .ok (.ifCond .ne 7, 3) := by decide +kernel
theorem dX5_usable_26 : decode cX5_usable 26 = .ok (.iconst 2, 1) := by decide +kernel
theorem dX5_usable_27 : decode cX5_usable 27 = .ok (.goto 4, 3) := by decide +kernel
theorem dX5_usable_30 : decode cX5_usable 30 = .ok (.iconst 0, 1) := by decide +kernel
theorem dX5_usable_31 : decode cX5_usable 31 = .ok (.putfield 75, 3) := by decide +kernel
theorem dX5_usable_34 : decode cX5_usable 34 = .ok (.aload_n 0, 1) := by decide +kernel
theorem dX5_usable_35 : decode cX5_usable 35 = .ok (.getfield 75, 3) := by decide +kernel
theorem dX5_usable_38 : decode cX5_usable 38 = .ok (.ifCond .ne 20, 3) := by decide +kernel
theorem dX5_usable_41 : decode cX5_usable 41 = .ok (.aload_n 0, 1) := by decide +kernel
theorem dX5_usable_42 : decode cX5_usable 42 = .ok (.aload_n 0, 1) := by decide +kernel
theorem dX5_usable_43 : decode cX5_usable 43 = .ok (.getfield 38, 3) := by decide +kernel
theorem dX5_usable_46 : decode cX5_usable 46 = .ok (.iload_n 1, 1) := by decide +kernel
theorem dX5_usable_47 : decode cX5_usable 47 = .ok (.iaload, 1) := by decide +kernel
theorem dX5_usable_48 : decode cX5_usable 48 = .ok (.invokevirtual 152, 3) := by decide +kernel
theorem dX5_usable_51 : decode cX5_usable 51 = .ok (.ifCond .eq 7, 3) := by decide +kernel
theorem dX5_usable_54 : decode cX5_usable 54 = .ok (.iconst 1, 1) := by decide +kernel
theorem dX5_usable_55 : decode cX5_usable 55 = .ok (.goto 4, 3) := by decide +kernel
theorem dX5_usable_58 : decode cX5_usable 58 = .ok (.iconst 0, 1) := by decide +kernel
theorem dX5_usable_59 : decode cX5_usable 59 = .ok (.ireturn, 1) := by decide +kernel
theorem dX5_mask_0 : decode cX5_mask 0 = .ok (.aload_n 0, 1) := by decide +kernel
theorem dX5_mask_1 : decode cX5_mask 1 = .ok (.aload_n 0, 1) := by decide +kernel
theorem dX5_mask_2 : decode cX5_mask 2 = .ok (.getfield 94, 3) := by decide +kernel
theorem dX5_mask_5 : decode cX5_mask 5 = .ok (.ifCond .ne 7, 3) := by decide +kernel
theorem dX5_mask_8 : decode cX5_mask 8 = .ok (.iconst 1, 1) := by decide +kernel
theorem dX5_mask_9 : decode cX5_mask 9 = .ok (.goto 22, 3) := by decide +kernel
theorem dX5_mask_12 : decode cX5_mask 12 = .ok (.iload_n 1, 1) := by decide +kernel
theorem dX5_mask_13 : decode cX5_mask 13 = .ok (.iconst 0, 1) := by decide +kernel
theorem dX5_mask_14 : decode cX5_mask 14 = .ok (.aload_n 0, 1) := by decide +kernel
theorem dX5_mask_15 : decode cX5_mask 15 = .ok (.getfield 113, 3) := by decide +kernel
theorem dX5_mask_18 : decode cX5_mask 18 = .ok (.iconst 1, 1) := by decide +kernel
theorem dX5_mask_19 : decode cX5_mask 19 = .ok (.isub, 1) := by decide +kernel
theorem dX5_mask_20 : decode cX5_mask 20 = .ok (.invokestatic 133, 3) := by decide +kernel
theorem dX5_mask_23 : decode cX5_mask 23 = .ok (.ifCond .ne 7, 3) := by decide +kernel
theorem dX5_mask_26 : decode cX5_mask 26 = .ok (.iconst 2, 1) := by decide +kernel
theorem dX5_mask_27 : decode cX5_mask 27 = .ok (.goto 4, 3) := by decide +kernel
theorem dX5_mask_30 : decode cX5_mask 30 = .ok (.iconst 0, 1) := by decide +kernel
theorem dX5_mask_31 : decode cX5_mask 31 = .ok (.putfield 75, 3) := by decide +kernel
theorem dX5_mask_34 : decode cX5_mask 34 = .ok (.aload_n 0, 1) := by decide +kernel
theorem dX5_mask_35 : decode cX5_mask 35 = .ok (.getfield 75, 3) := by decide +kernel
theorem dX5_mask_38 : decode cX5_mask 38 = .ok (.ifCond .le 7, 3) := by decide +kernel
theorem dX5_mask_41 : decode cX5_mask 41 = .ok (.lconst 0, 1) := by decide +kernel
theorem dX5_mask_42 : decode cX5_mask 42 = .ok (.goto 9, 3) := by decide +kernel
theorem dX5_mask_45 : decode cX5_mask 45 = .ok (.aload_n 0, 1) := by decide +kernel
theorem dX5_mask_46 : decode cX5_mask 46 = .ok (.getfield 41, 3) := by decide +kernel
theorem dX5_mask_49 : decode cX5_mask 49 = .ok (.iload_n 1, 1) := by decide +kernel
theorem dX5_mask_50 : decode cX5_mask 50 = .ok (.laload, 1) := by decide +kernel
theorem dX5_mask_51 : decode cX5_mask 51 = .ok (.lreturn, 1) := by decide +kernel
theorem dX5_told_0 : decode cX5_told 0 = .ok (.aload_n 0, 1) := by decide +kernel
theorem dX5_told_1 : decode cX5_told 1 = .ok (.aload_n 0, 1) := by decide +kernel
theorem dX5_told_2 : decode cX5_told 2 = .ok (.getfield 94, 3) := by decide +kernel
theorem dX5_told_5 : decode cX5_told 5 = .ok (.ifCond .ne 7, 3) := by decide +kernel
theorem dX5_told_8 : decode cX5_told 8 = .ok (.iconst 1, 1) := by decide +kernel
theorem dX5_told_9 : decode cX5_told 9 = .ok (.goto 18, 3) := by decide +kernel
theorem dX5_told_12 : decode cX5_told 12 = .ok (.iload_n 1, 1) := by decide +kernel
theorem dX5_told_13 : decode cX5_told 13 = .ok (.iconst 0, 1) := by decide +kernel
theorem dX5_told_14 : decode cX5_told 14 = .ok (.bipush 9, 2) := by decide +kernel
theorem dX5_told_16 : decode cX5_told 16 = .ok (.invokestatic 133, 3) := by decide +kernel
theorem dX5_told_19 : decode cX5_told 19 = .ok (.ifCond .ne 7, 3) := by decide +kernel
theorem dX5_told_22 : decode cX5_told 22 = .ok (.iconst 2, 1) := by decide +kernel
theorem dX5_told_23 : decode cX5_told 23 = .ok (.goto 4, 3) := by decide +kernel
theorem dX5_told_26 : decode cX5_told 26 = .ok (.iconst 0, 1) := by decide +kernel
theorem dX5_told_27 : decode cX5_told 27 = .ok (.putfield 75, 3) := by decide +kernel
theorem dX5_told_30 : decode cX5_told 30 = .ok (.aload_n 0, 1) := by decide +kernel
theorem dX5_told_31 : decode cX5_told 31 = .ok (.getfield 75, 3) := by decide +kernel
theorem dX5_told_34 : decode cX5_told 34 = .ok (.ifCond .le 5, 3) := by decide +kernel
theorem dX5_told_37 : decode cX5_told 37 = .ok (.iconst 0, 1) := by decide +kernel
theorem dX5_told_38 : decode cX5_told 38 = .ok (.ireturn, 1) := by decide +kernel
theorem dX5_told_39 : decode cX5_told 39 = .ok (.iload_n 1, 1) := by decide +kernel
theorem dX5_told_40 : decode cX5_told 40 = .ok (.ifCond .ne 8, 3) := by decide +kernel
theorem dX5_told_43 : decode cX5_told 43 = .ok (.aload_n 0, 1) := by decide +kernel
theorem dX5_told_44 : decode cX5_told 44 = .ok (.invokevirtual 196, 3) := by decide +kernel
theorem dX5_told_47 : decode cX5_told 47 = .ok (.ireturn, 1) := by decide +kernel
theorem dX5_told_48 : decode cX5_told 48 = .ok (.iload_n 1, 1) := by decide +kernel
theorem dX5_told_49 : decode cX5_told 49 = .ok (.iconst 1, 1) := by decide +kernel
theorem dX5_told_50 : decode cX5_told 50 = .ok (.if_icmp .ne 8, 3) := by decide +kernel
theorem dX5_told_53 : decode cX5_told 53 = .ok (.aload_n 0, 1) := by decide +kernel
theorem dX5_told_54 : decode cX5_told 54 = .ok (.getfield 110, 3) := by decide +kernel
theorem dX5_told_57 : decode cX5_told 57 = .ok (.ireturn, 1) := by decide +kernel
theorem dX5_told_58 : decode cX5_told 58 = .ok (.iload_n 1, 1) := by decide +kernel
theorem dX5_told_59 : decode cX5_told 59 = .ok (.iconst 2, 1) := by decide +kernel
theorem dX5_told_60 : decode cX5_told 60 = .ok (.if_icmp .ne 8, 3) := by decide +kernel
theorem dX5_told_63 : decode cX5_told 63 = .ok (.aload_n 0, 1) := by decide +kernel
theorem dX5_told_64 : decode cX5_told 64 = .ok (.getfield 113, 3) := by decide +kernel
theorem dX5_told_67 : decode cX5_told 67 = .ok (.ireturn, 1) := by decide +kernel
theorem dX5_told_68 : decode cX5_told 68 = .ok (.iload_n 1, 1) := by decide +kernel
theorem dX5_told_69 : decode cX5_told 69 = .ok (.iconst 3, 1) := by decide +kernel
theorem dX5_told_70 : decode cX5_told 70 = .ok (.if_icmp .ne 8, 3) := by decide +kernel
theorem dX5_told_73 : decode cX5_told 73 = .ok (.aload_n 0, 1) := by decide +kernel
theorem dX5_told_74 : decode cX5_told 74 = .ok (.getfield 98, 3) := by decide +kernel
theorem dX5_told_77 : decode cX5_told 77 = .ok (.ireturn, 1) := by decide +kernel
theorem dX5_told_78 : decode cX5_told 78 = .ok (.iload_n 1, 1) := by decide +kernel
theorem dX5_told_79 : decode cX5_told 79 = .ok (.iconst 4, 1) := by decide +kernel
theorem dX5_told_80 : decode cX5_told 80 = .ok (.if_icmp .ne 8, 3) := by decide +kernel
theorem dX5_told_83 : decode cX5_told 83 = .ok (.aload_n 0, 1) := by decide +kernel
theorem dX5_told_84 : decode cX5_told 84 = .ok (.getfield 104, 3) := by decide +kernel
theorem dX5_told_87 : decode cX5_told 87 = .ok (.ireturn, 1) := by decide +kernel
theorem dX5_told_88 : decode cX5_told 88 = .ok (.iload_n 1, 1) := by decide +kernel
theorem dX5_told_89 : decode cX5_told 89 = .ok (.iconst 5, 1) := by decide +kernel
theorem dX5_told_90 : decode cX5_told 90 = .ok (.if_icmp .ne 8, 3) := by decide +kernel
theorem dX5_told_93 : decode cX5_told 93 = .ok (.aload_n 0, 1) := by decide +kernel
theorem dX5_told_94 : decode cX5_told 94 = .ok (.getfield 88, 3) := by decide +kernel
theorem dX5_told_97 : decode cX5_told 97 = .ok (.ireturn, 1) := by decide +kernel
theorem dX5_told_98 : decode cX5_told 98 = .ok (.iload_n 1, 1) := by decide +kernel
theorem dX5_told_99 : decode cX5_told 99 = .ok (.bipush 7, 2) := by decide +kernel
theorem dX5_told_101 : decode cX5_told 101 = .ok (.if_icmp .ne 8, 3) := by decide +kernel
theorem dX5_told_104 : decode cX5_told 104 = .ok (.aload_n 0, 1) := by decide +kernel
theorem dX5_told_105 : decode cX5_told 105 = .ok (.invokevirtual 184, 3) := by decide +kernel
theorem dX5_told_108 : decode cX5_told 108 = .ok (.ireturn, 1) := by decide +kernel
theorem dX5_told_109 : decode cX5_told 109 = .ok (.iload_n 1, 1) := by decide +kernel
theorem dX5_told_110 : decode cX5_told 110 = .ok (.bipush 8, 2) := by decide +kernel
theorem dX5_told_112 : decode cX5_told 112 = .ok (.if_icmp .ne 8, 3) := by decide +kernel
theorem dX5_told_115 : decode cX5_told 115 = .ok (.aload_n 0, 1) := by decide +kernel
theorem dX5_told_116 : decode cX5_told 116 = .ok (.getfield 101, 3) := by decide +kernel
theorem dX5_told_119 : decode cX5_told 119 = .ok (.ireturn, 1) := by decide +kernel
theorem dX5_told_120 : decode cX5_told 120 = .ok (.iload_n 1, 1) := by decide +kernel
theorem dX5_told_121 : decode cX5_told 121 = .ok (.bipush 9, 2) := by decide +kernel
theorem dX5_told_123 : decode cX5_told 123 = .ok (.if_icmp .ne 8, 3) := by decide +kernel
theorem dX5_told_126 : decode cX5_told 126 = .ok (.aload_n 0, 1) := by decide +kernel
theorem dX5_told_127 : decode cX5_told 127 = .ok (.getfield 85, 3) := by decide +kernel
theorem dX5_told_130 : decode cX5_told 130 = .ok (.ireturn, 1) := by decide +kernel
theorem dX5_told_131 : decode cX5_told 131 = .ok (.iconst 0, 1) := by decide +kernel
theorem dX5_told_132 : decode cX5_told 132 = .ok (.istore_n 2, 1) := by decide +kernel
theorem dX5_told_133 : decode cX5_told 133 = .ok (.iconst 0, 1) := by decide +kernel
theorem dX5_told_134 : decode cX5_told 134 = .ok (.istore_n 3, 1) := by decide +kernel
theorem dX5_told_135 : decode cX5_told 135 = .ok (.iload_n 3, 1) := by decide +kernel
theorem dX5_told_136 : decode cX5_told 136 = .ok (.bipush 64, 2) := by decide +kernel
theorem dX5_told_138 : decode cX5_told 138 = .ok (.if_icmp .ge 43, 3) := by decide +kernel
theorem dX5_told_141 : decode cX5_told 141 = .ok (.iconst 0, 1) := by decide +kernel
theorem dX5_told_142 : decode cX5_told 142 = .ok (.istore 4, 2) := by decide +kernel
theorem dX5_told_144 : decode cX5_told 144 = .ok (.iload 4, 2) := by decide +kernel
theorem dX5_told_146 : decode cX5_told 146 = .ok (.bipush 64, 2) := by decide +kernel
theorem dX5_told_148 : decode cX5_told 148 = .ok (.if_icmp .ge 27, 3) := by decide +kernel
theorem dX5_told_151 : decode cX5_told 151 = .ok (.iload_n 2, 1) := by decide +kernel
theorem dX5_told_152 : decode cX5_told 152 = .ok (.aload_n 0, 1) := by decide +kernel
theorem dX5_told_153 : decode cX5_told 153 = .ok (.iload_n 3, 1) := by decide +kernel
theorem dX5_told_154 : decode cX5_told 154 = .ok (.iload 4, 2) := by decide +kernel
theorem dX5_told_156 : decode cX5_told 156 = .ok (.invokevirtual 148, 3) := by decide +kernel
theorem dX5_told_159 : decode cX5_told 159 = .ok (.ifCond .eq 7, 3) := by decide +kernel
theorem dX5_told_162 : decode cX5_told 162 = .ok (.iconst 1, 1) := by decide +kernel
theorem dX5_told_163 : decode cX5_told 163 = .ok (.goto 4, 3) := by decide +kernel
theorem dX5_told_166 : decode cX5_told 166 = .ok (.iconst 0, 1) := by decide +kernel
theorem dX5_told_167 : decode cX5_told 167 = .ok (.iadd, 1) := by decide +kernel
theorem dX5_told_168 : decode cX5_told 168 = .ok (.istore_n 2, 1) := by decide +kernel
theorem dX5_told_169 : decode cX5_told 169 = .ok (.iinc 4 1, 3) := by decide +kernel
theorem dX5_told_172 : decode cX5_told 172 = .ok (.goto (-28), 3) := by decide +kernel
theorem dX5_told_175 : decode cX5_told 175 = .ok (.iinc 3 1, 3) := by decide +kernel
theorem dX5_told_178 : decode cX5_told 178 = .ok (.goto (-43), 3) := by decide +kernel
theorem dX5_told_181 : decode cX5_told 181 = .ok (.iload_n 2, 1) := by decide +kernel
theorem dX5_told_182 : decode cX5_told 182 = .ok (.ireturn, 1) := by decide +kernel
theorem dX5_isOpen_0 : decode cX5_isOpen 0 = .ok (.aload_n 0, 1) := by decide +kernel
theorem dX5_isOpen_1 : decode cX5_isOpen 1 = .ok (.iconst 0, 1) := by decide +kernel
theorem dX5_isOpen_2 : decode cX5_isOpen 2 = .ok (.putfield 75, 3) := by decide +kernel
theorem dX5_isOpen_5 : decode cX5_isOpen 5 = .ok (.aload_n 0, 1) := by decide +kernel
theorem dX5_isOpen_6 : decode cX5_isOpen 6 = .ok (.getfield 94, 3) := by decide +kernel
theorem dX5_isOpen_9 : decode cX5_isOpen 9 = .ok (.ireturn, 1) := by decide +kernel
