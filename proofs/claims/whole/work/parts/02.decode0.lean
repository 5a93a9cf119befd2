theorem dJ7_fill_53178_0 : decode cJ7_fill_53178 0 = .ok (.iconst 0, 1) := by decide +kernel
theorem dJ7_fill_53178_1 : decode cJ7_fill_53178 1 = .ok (.istore_n 2, 1) := by decide +kernel
theorem dJ7_fill_53178_2 : decode cJ7_fill_53178 2 = .ok (.aload_n 0, 1) := by decide +kernel
theorem dJ7_fill_53178_3 : decode cJ7_fill_53178 3 = .ok (.arraylength, 1) := by decide +kernel
theorem dJ7_fill_53178_4 : decode cJ7_fill_53178 4 = .ok (.istore_n 3, 1) := by decide +kernel
theorem dJ7_fill_53178_5 : decode cJ7_fill_53178 5 = .ok (.iload_n 2, 1) := by decide +kernel
theorem dJ7_fill_53178_6 : decode cJ7_fill_53178 6 = .ok (.iload_n 3, 1) := by decide +kernel
theorem dJ7_fill_53178_7 : decode cJ7_fill_53178 7 = .ok (.if_icmp .ge 13, 3) := by decide +kernel
theorem dJ7_fill_53178_10 : decode cJ7_fill_53178 10 = .ok (.aload_n 0, 1) := by decide +kernel
theorem dJ7_fill_53178_11 : decode cJ7_fill_53178 11 = .ok (.iload_n 2, 1) := by decide +kernel
theorem dJ7_fill_53178_12 : decode cJ7_fill_53178 12 = .ok (.iload_n 1, 1) := by decide +kernel
theorem dJ7_fill_53178_13 : decode cJ7_fill_53178 13 = .ok (.iastore, 1) := by decide +kernel
theorem dJ7_fill_53178_14 : decode cJ7_fill_53178 14 = .ok (.iinc 2 1, 3) := by decide +kernel
theorem dJ7_fill_53178_17 : decode cJ7_fill_53178 17 = .ok (.goto (-12), 3) := by decide +kernel
theorem dJ7_fill_53178_20 : decode cJ7_fill_53178 20 = .ok (.return_, 1) := by decide +kernel
theorem dJ9_abs_0f7a4_0 : decode cJ9_abs_0f7a4 0 = .ok (.iload_n 0, 1) := by decide +kernel
theorem dJ9_abs_0f7a4_1 : decode cJ9_abs_0f7a4 1 = .ok (.ifCond .ge 8, 3) := by decide +kernel
theorem dJ9_abs_0f7a4_4 : decode cJ9_abs_0f7a4 4 = .ok (.iload_n 0, 1) := by decide +kernel
theorem dJ9_abs_0f7a4_5 : decode cJ9_abs_0f7a4 5 = .ok (.ineg, 1) := by decide +kernel
theorem dJ9_abs_0f7a4_6 : decode cJ9_abs_0f7a4 6 = .ok (.goto 4, 3) := by decide +kernel
theorem dJ9_abs_0f7a4_9 : decode cJ9_abs_0f7a4 9 = .ok (.iload_n 0, 1) := by decide +kernel
theorem dJ9_abs_0f7a4_10 : decode cJ9_abs_0f7a4 10 = .ok (.ireturn, 1) := by decide +kernel
theorem dJ9_max_7cf53_0 : decode cJ9_max_7cf53 0 = .ok (.iload_n 0, 1) := by decide +kernel
theorem dJ9_max_7cf53_1 : decode cJ9_max_7cf53 1 = .ok (.iload_n 1, 1) := by decide +kernel
theorem dJ9_max_7cf53_2 : decode cJ9_max_7cf53 2 = .ok (.if_icmp .lt 7, 3) := by decide +kernel
theorem dJ9_max_7cf53_5 : decode cJ9_max_7cf53 5 = .ok (.iload_n 0, 1) := by decide +kernel
theorem dJ9_max_7cf53_6 : decode cJ9_max_7cf53 6 = .ok (.goto 4, 3) := by decide +kernel
theorem dJ9_max_7cf53_9 : decode cJ9_max_7cf53 9 = .ok (.iload_n 1, 1) := by decide +kernel
theorem dJ9_max_7cf53_10 : decode cJ9_max_7cf53 10 = .ok (.ireturn, 1) := by decide +kernel
theorem dJ9_min_7cf53_0 : decode cJ9_min_7cf53 0 = .ok (.iload_n 0, 1) := by decide +kernel
theorem dJ9_min_7cf53_1 : decode cJ9_min_7cf53 1 = .ok (.iload_n 1, 1) := by decide +kernel
theorem dJ9_min_7cf53_2 : decode cJ9_min_7cf53 2 = .ok (.if_icmp .gt 7, 3) := by decide +kernel
theorem dJ9_min_7cf53_5 : decode cJ9_min_7cf53 5 = .ok (.iload_n 0, 1) := by decide +kernel
theorem dJ9_min_7cf53_6 : decode cJ9_min_7cf53 6 = .ok (.goto 4, 3) := by decide +kernel
theorem dJ9_min_7cf53_9 : decode cJ9_min_7cf53 9 = .ok (.iload_n 1, 1) := by decide +kernel
theorem dJ9_min_7cf53_10 : decode cJ9_min_7cf53 10 = .ok (.ireturn, 1) := by decide +kernel
theorem dX0_init_0 : decode cX0_init 0 = .ok (.aload_n 0, 1) := by decide +kernel
theorem dX0_init_1 : decode cX0_init 1 = .ok (.invokespecial 3, 3) := by decide +kernel
theorem dX0_init_4 : decode cX0_init 4 = .ok (.aload_n 0, 1) := by decide +kernel
theorem dX0_init_5 : decode cX0_init 5 = .ok (.bipush 96, 2) := by decide +kernel
theorem dX0_init_7 : decode cX0_init 7 = .ok (.newarray .int, 2) := by decide +kernel
theorem dX0_init_9 : decode cX0_init 9 = .ok (.putfield 9, 3) := by decide +kernel
theorem dX0_init_12 : decode cX0_init 12 = .ok (.aload_n 0, 1) := by decide +kernel
theorem dX0_init_13 : decode cX0_init 13 = .ok (.bipush 96, 2) := by decide +kernel
theorem dX0_init_15 : decode cX0_init 15 = .ok (.newarray .int, 2) := by decide +kernel
theorem dX0_init_17 : decode cX0_init 17 = .ok (.putfield 15, 3) := by decide +kernel
theorem dX0_init_20 : decode cX0_init 20 = .ok (.aload_n 0, 1) := by decide +kernel
theorem dX0_init_21 : decode cX0_init 21 = .ok (.bipush 12, 2) := by decide +kernel
theorem dX0_init_23 : decode cX0_init 23 = .ok (.newarray .int, 2) := by decide +kernel
theorem dX0_init_25 : decode cX0_init 25 = .ok (.putfield 18, 3) := by decide +kernel
theorem dX0_init_28 : decode cX0_init 28 = .ok (.aload_n 0, 1) := by decide +kernel
theorem dX0_init_29 : decode cX0_init 29 = .ok (.bipush 12, 2) := by decide +kernel
theorem dX0_init_31 : decode cX0_init 31 = .ok (.newarray .int, 2) := by decide +kernel
theorem dX0_init_33 : decode cX0_init 33 = .ok (.putfield 21, 3) := by decide +kernel
theorem dX0_init_36 : decode cX0_init 36 = .ok (.return_, 1) := by decide +kernel
theorem dX0_lay_0 : decode cX0_lay 0 = .ok (.aload_n 0, 1) := by decide +kernel
theorem dX0_lay_1 : decode cX0_lay 1 = .ok (.getfield 9, 3) := by decide +kernel
theorem dX0_lay_4 : decode cX0_lay 4 = .ok (.iconst (-1), 1) := by decide +kernel
theorem dX0_lay_5 : decode cX0_lay 5 = .ok (.invokestatic 24, 3) := by decide +kernel
theorem dX0_lay_8 : decode cX0_lay 8 = .ok (.aload_n 0, 1) := by decide +kernel
theorem dX0_lay_9 : decode cX0_lay 9 = .ok (.getfield 15, 3) := by decide +kernel
theorem dX0_lay_12 : decode cX0_lay 12 = .ok (.bipush 100, 2) := by decide +kernel
theorem dX0_lay_14 : decode cX0_lay 14 = .ok (.invokestatic 24, 3) := by decide +kernel
theorem dX0_lay_17 : decode cX0_lay 17 = .ok (.iconst 0, 1) := by decide +kernel
theorem dX0_lay_18 : decode cX0_lay 18 = .ok (.istore_n 2, 1) := by decide +kernel
theorem dX0_lay_19 : decode cX0_lay 19 = .ok (.iload_n 2, 1) := by decide +kernel
theorem dX0_lay_20 : decode cX0_lay 20 = .ok (.aload_n 1, 1) := by decide +kernel
theorem dX0_lay_21 : decode cX0_lay 21 = .ok (.getfield 30, 3) := by decide +kernel
theorem dX0_lay_24 : decode cX0_lay 24 = .ok (.if_icmp .ge 25, 3) := by decide +kernel
theorem dX0_lay_27 : decode cX0_lay 27 = .ok (.aload_n 1, 1) := by decide +kernel
theorem dX0_lay_28 : decode cX0_lay 28 = .ok (.getfield 36, 3) := by decide +kernel
theorem dX0_lay_31 : decode cX0_lay 31 = .ok (.iload_n 2, 1) := by decide +kernel
theorem dX0_lay_32 : decode cX0_lay 32 = .ok (.iaload, 1) := by decide +kernel
theorem dX0_lay_33 : decode cX0_lay 33 = .ok (.iconst 1, 1) := by decide +kernel
theorem dX0_lay_34 : decode cX0_lay 34 = .ok (.if_icmp .ne 9, 3) := by decide +kernel
theorem dX0_lay_37 : decode cX0_lay 37 = .ok (.aload_n 0, 1) := by decide +kernel
theorem dX0_lay_38 : decode cX0_lay 38 = .ok (.aload_n 1, 1) := by decide +kernel
theorem dX0_lay_39 : decode cX0_lay 39 = .ok (.iload_n 2, 1) := by decide +kernel
theorem dX0_lay_40 : decode cX0_lay 40 = .ok (.invokevirtual 39, 3) := by decide +kernel
theorem dX0_lay_43 : decode cX0_lay 43 = .ok (.iinc 2 1, 3) := by decide +kernel
theorem dX0_lay_46 : decode cX0_lay 46 = .ok (.goto (-27), 3) := by decide +kernel
theorem dX0_lay_49 : decode cX0_lay 49 = .ok (.aload_n 0, 1) := by decide +kernel
theorem dX0_lay_50 : decode cX0_lay 50 = .ok (.aload_n 1, 1) := by decide +kernel
theorem dX0_lay_51 : decode cX0_lay 51 = .ok (.invokevirtual 43, 3) := by decide +kernel
theorem dX0_lay_54 : decode cX0_lay 54 = .ok (.return_, 1) := by decide +kernel
theorem dX0_claim_0 : decode cX0_claim 0 = .ok (.aload_n 1, 1) := by decide +kernel
theorem dX0_claim_1 : decode cX0_claim 1 = .ok (.getfield 47, 3) := by decide +kernel
theorem dX0_claim_4 : decode cX0_claim 4 = .ok (.iload_n 2, 1) := by decide +kernel
theorem dX0_claim_5 : decode cX0_claim 5 = .ok (.iaload, 1) := by decide +kernel
theorem dX0_claim_6 : decode cX0_claim 6 = .ok (.bipush 12, 2) := by decide +kernel
theorem dX0_claim_8 : decode cX0_claim 8 = .ok (.idiv, 1) := by decide +kernel
theorem dX0_claim_9 : decode cX0_claim 9 = .ok (.istore_n 3, 1) := by decide +kernel
theorem dX0_claim_10 : decode cX0_claim 10 = .ok (.aload_n 1, 1) := by decide +kernel
theorem dX0_claim_11 : decode cX0_claim 11 = .ok (.getfield 47, 3) := by decide +kernel
theorem dX0_claim_14 : decode cX0_claim 14 = .ok (.iload_n 2, 1) := by decide +kernel
theorem dX0_claim_15 : decode cX0_claim 15 = .ok (.iaload, 1) := by decide +kernel
theorem dX0_claim_16 : decode cX0_claim 16 = .ok (.bipush 12, 2) := by decide +kernel
theorem dX0_claim_18 : decode cX0_claim 18 = .ok (.irem, 1) := by decide +kernel
theorem dX0_claim_19 : decode cX0_claim 19 = .ok (.istore 4, 2) := by decide +kernel
theorem dX0_claim_21 : decode cX0_claim 21 = .ok (.aload_n 1, 1) := by decide +kernel
theorem dX0_claim_22 : decode cX0_claim 22 = .ok (.iconst 0, 1) := by decide +kernel
theorem dX0_claim_23 : decode cX0_claim 23 = .ok (.iload_n 3, 1) := by decide +kernel
theorem dX0_claim_24 : decode cX0_claim 24 = .ok (.bipush 7, 2) := by decide +kernel
theorem dX0_claim_26 : decode cX0_claim 26 = .ok (.invokevirtual 50, 3) := by decide +kernel
theorem dX0_claim_29 : decode cX0_claim 29 = .ok (.istore 5, 2) := by decide +kernel
theorem dX0_claim_31 : decode cX0_claim 31 = .ok (.aload_n 1, 1) := by decide +kernel
theorem dX0_claim_32 : decode cX0_claim 32 = .ok (.bipush 10, 2) := by decide +kernel
theorem dX0_claim_34 : decode cX0_claim 34 = .ok (.iload 4, 2) := by decide +kernel
theorem dX0_claim_36 : decode cX0_claim 36 = .ok (.invokevirtual 54, 3) := by decide +kernel
theorem dX0_claim_39 : decode cX0_claim 39 = .ok (.istore 6, 2) := by decide +kernel
theorem dX0_claim_41 : decode cX0_claim 41 = .ok (.aload_n 1, 1) := by decide +kernel
theorem dX0_claim_42 : decode cX0_claim 42 = .ok (.bipush 10, 2) := by decide +kernel
theorem dX0_claim_44 : decode cX0_claim 44 = .ok (.iload 4, 2) := by decide +kernel
theorem dX0_claim_46 : decode cX0_claim 46 = .ok (.bipush 11, 2) := by decide +kernel
theorem dX0_claim_48 : decode cX0_claim 48 = .ok (.invokevirtual 50, 3) := by decide +kernel
theorem dX0_claim_51 : decode cX0_claim 51 = .ok (.istore 7, 2) := by decide +kernel
theorem dX0_claim_53 : decode cX0_claim 53 = .ok (.aload_n 1, 1) := by decide +kernel
theorem dX0_claim_54 : decode cX0_claim 54 = .ok (.iconst 0, 1) := by decide +kernel
theorem dX0_claim_55 : decode cX0_claim 55 = .ok (.iload_n 3, 1) := by decide +kernel
theorem dX0_claim_56 : decode cX0_claim 56 = .ok (.invokevirtual 54, 3) := by decide +kernel
theorem dX0_claim_59 : decode cX0_claim 59 = .ok (.istore 8, 2) := by decide +kernel
theorem dX0_claim_61 : decode cX0_claim 61 = .ok (.iload 8, 2) := by decide +kernel
theorem dX0_claim_63 : decode cX0_claim 63 = .ok (.iload 5, 2) := by decide +kernel
theorem dX0_claim_65 : decode cX0_claim 65 = .ok (.if_icmp .gt 87, 3) := by decide +kernel
theorem dX0_claim_68 : decode cX0_claim 68 = .ok (.iload 8, 2) := by decide +kernel
theorem dX0_claim_70 : decode cX0_claim 70 = .ok (.iload_n 3, 1) := by decide +kernel
theorem dX0_claim_71 : decode cX0_claim 71 = .ok (.isub, 1) := by decide +kernel
theorem dX0_claim_72 : decode cX0_claim 72 = .ok (.invokestatic 58, 3) := by decide +kernel
theorem dX0_claim_75 : decode cX0_claim 75 = .ok (.istore 9, 2) := by decide +kernel
theorem dX0_claim_77 : decode cX0_claim 77 = .ok (.iload 6, 2) := by decide +kernel
theorem dX0_claim_79 : decode cX0_claim 79 = .ok (.istore 10, 2) := by decide +kernel
theorem dX0_claim_81 : decode cX0_claim 81 = .ok (.iload 10, 2) := by decide +kernel
theorem dX0_claim_83 : decode cX0_claim 83 = .ok (.iload 7, 2) := by decide +kernel
theorem dX0_claim_85 : decode cX0_claim 85 = .ok (.if_icmp .gt 61, 3) := by decide +kernel
theorem dX0_claim_88 : decode cX0_claim 88 = .ok (.bipush 12, 2) := by decide +kernel
theorem dX0_claim_90 : decode cX0_claim 90 = .ok (.iload 8, 2) := by decide +kernel
theorem dX0_claim_92 : decode cX0_claim 92 = .ok (.imul, 1) := by decide +kernel
theorem dX0_claim_93 : decode cX0_claim 93 = .ok (.iload 10, 2) := by decide +kernel
theorem dX0_claim_95 : decode cX0_claim 95 = .ok (.iadd, 1) := by decide +kernel
theorem dX0_claim_96 : decode cX0_claim 96 = .ok (.istore 11, 2) := by decide +kernel
theorem dX0_claim_98 : decode cX0_claim 98 = .ok (.iload 9, 2) := by decide +kernel
theorem dX0_claim_100 : decode cX0_claim 100 = .ok (.iload 10, 2) := by decide +kernel
theorem dX0_claim_102 : decode cX0_claim 102 = .ok (.iload 4, 2) := by decide +kernel
theorem dX0_claim_104 : decode cX0_claim 104 = .ok (.isub, 1) := by decide +kernel
theorem dX0_claim_105 : decode cX0_claim 105 = .ok (.invokestatic 58, 3) := by decide +kernel
theorem dX0_claim_108 : decode cX0_claim 108 = .ok (.iadd, 1) := by decide +kernel
theorem dX0_claim_109 : decode cX0_claim 109 = .ok (.istore 12, 2) := by decide +kernel
theorem dX0_claim_111 : decode cX0_claim 111 = .ok (.iload 12, 2) := by decide +kernel
theorem dX0_claim_113 : decode cX0_claim 113 = .ok (.aload_n 0, 1) := by decide +kernel
theorem dX0_claim_114 : decode cX0_claim 114 = .ok (.getfield 15, 3) := by decide +kernel
theorem dX0_claim_117 : decode cX0_claim 117 = .ok (.iload 11, 2) := by decide +kernel
theorem dX0_claim_119 : decode cX0_claim 119 = .ok (.iaload, 1) := by decide +kernel
theorem dX0_claim_120 : decode cX0_claim 120 = .ok (.if_icmp .ge 20, 3) := by decide +kernel
theorem dX0_claim_123 : decode cX0_claim 123 = .ok (.aload_n 0, 1) := by decide +kernel
theorem dX0_claim_124 : decode cX0_claim 124 = .ok (.getfield 15, 3) := by decide +kernel
theorem dX0_claim_127 : decode cX0_claim 127 = .ok (.iload 11, 2) := by decide +kernel
theorem dX0_claim_129 : decode cX0_claim 129 = .ok (.iload 12, 2) := by decide +kernel
theorem dX0_claim_131 : decode cX0_claim 131 = .ok (.iastore, 1) := by decide +kernel
theorem dX0_claim_132 : decode cX0_claim 132 = .ok (.aload_n 0, 1) := by decide +kernel
theorem dX0_claim_133 : decode cX0_claim 133 = .ok (.getfield 9, 3) := by decide +kernel
theorem dX0_claim_136 : decode cX0_claim 136 = .ok (.iload 11, 2) := by decide +kernel
theorem dX0_claim_138 : decode cX0_claim 138 = .ok (.iload_n 2, 1) := by decide +kernel
theorem dX0_claim_139 : decode cX0_claim 139 = .ok (.iastore, 1) := by decide +kernel
theorem dX0_claim_140 : decode cX0_claim 140 = .ok (.iinc 10 1, 3) := by decide +kernel
theorem dX0_claim_143 : decode cX0_claim 143 = .ok (.goto (-62), 3) := by decide +kernel
theorem dX0_claim_146 : decode cX0_claim 146 = .ok (.iinc 8 1, 3) := by decide +kernel
theorem dX0_claim_149 : decode cX0_claim 149 = .ok (.goto (-88), 3) := by decide +kernel
theorem dX0_claim_152 : decode cX0_claim 152 = .ok (.return_, 1) := by decide +kernel
theorem dX0_weigh_0 : decode cX0_weigh 0 = .ok (.aload_n 0, 1) := by decide +kernel
theorem dX0_weigh_1 : decode cX0_weigh 1 = .ok (.getfield 18, 3) := by decide +kernel
theorem dX0_weigh_4 : decode cX0_weigh 4 = .ok (.iconst 0, 1) := by decide +kernel
theorem dX0_weigh_5 : decode cX0_weigh 5 = .ok (.invokestatic 24, 3) := by decide +kernel
theorem dX0_weigh_8 : decode cX0_weigh 8 = .ok (.aload_n 0, 1) := by decide +kernel
theorem dX0_weigh_9 : decode cX0_weigh 9 = .ok (.getfield 21, 3) := by decide +kernel
theorem dX0_weigh_12 : decode cX0_weigh 12 = .ok (.iconst 0, 1) := by decide +kernel
theorem dX0_weigh_13 : decode cX0_weigh 13 = .ok (.invokestatic 24, 3) := by decide +kernel
theorem dX0_weigh_16 : decode cX0_weigh 16 = .ok (.iconst 0, 1) := by decide +kernel
theorem dX0_weigh_17 : decode cX0_weigh 17 = .ok (.istore_n 2, 1) := by decide +kernel
theorem dX0_weigh_18 : decode cX0_weigh 18 = .ok (.iload_n 2, 1) := by decide +kernel
theorem dX0_weigh_19 : decode cX0_weigh 19 = .ok (.bipush 96, 2) := by decide +kernel
theorem dX0_weigh_21 : decode cX0_weigh 21 = .ok (.if_icmp .ge 46, 3) := by decide +kernel
theorem dX0_weigh_24 : decode cX0_weigh 24 = .ok (.aload_n 0, 1) := by decide +kernel
theorem dX0_weigh_25 : decode cX0_weigh 25 = .ok (.getfield 9, 3) := by decide +kernel
theorem dX0_weigh_28 : decode cX0_weigh 28 = .ok (.iload_n 2, 1) := by decide +kernel
theorem dX0_weigh_29 : decode cX0_weigh 29 = .ok (.iaload, 1) := by decide +kernel
theorem dX0_weigh_30 : decode cX0_weigh 30 = .ok (.istore_n 3, 1) := by decide +kernel
theorem dX0_weigh_31 : decode cX0_weigh 31 = .ok (.iload_n 3, 1) := by decide +kernel
theorem dX0_weigh_32 : decode cX0_weigh 32 = .ok (.iconst (-1), 1) := by decide +kernel
theorem dX0_weigh_33 : decode cX0_weigh 33 = .ok (.if_icmp .eq 28, 3) := by decide +kernel
theorem dX0_weigh_36 : decode cX0_weigh 36 = .ok (.aload_n 0, 1) := by decide +kernel
theorem dX0_weigh_37 : decode cX0_weigh 37 = .ok (.getfield 18, 3) := by decide +kernel
theorem dX0_weigh_40 : decode cX0_weigh 40 = .ok (.iload_n 3, 1) := by decide +kernel
theorem dX0_weigh_41 : decode cX0_weigh 41 = .ok (.dup2, 1) := by decide +kernel
theorem dX0_weigh_42 : decode cX0_weigh 42 = .ok (.iaload, 1) := by decide +kernel
theorem dX0_weigh_43 : decode cX0_weigh 43 = .ok (.aload_n 1, 1) := by decide +kernel
theorem dX0_weigh_44 : decode cX0_weigh 44 = .ok (.getfield 64, 3) := by decide +kernel
theorem dX0_weigh_47 : decode cX0_weigh 47 = .ok (.iload_n 2, 1) := by decide +kernel
theorem dX0_weigh_48 : decode cX0_weigh 48 = .ok (.iaload, 1) := by decide +kernel
theorem dX0_weigh_49 : decode cX0_weigh 49 = .ok (.iadd, 1) := by decide +kernel
theorem dX0_weigh_50 : decode cX0_weigh 50 = .ok (.iastore, 1) := by decide +kernel
theorem dX0_weigh_51 : decode cX0_weigh 51 = .ok (.aload_n 0, 1) := by decide +kernel
theorem dX0_weigh_52 : decode cX0_weigh 52 = .ok (.getfield 21, 3) := by decide +kernel
theorem dX0_weigh_55 : decode cX0_weigh 55 = .ok (.iload_n 3, 1) := by decide +kernel
theorem dX0_weigh_56 : decode cX0_weigh 56 = .ok (.dup2, 1) := by decide +kernel
theorem dX0_weigh_57 : decode cX0_weigh 57 = .ok (.iaload, 1) := by decide +kernel
theorem dX0_weigh_58 : decode cX0_weigh 58 = .ok (.iconst 1, 1) := by decide +kernel
theorem dX0_weigh_59 : decode cX0_weigh 59 = .ok (.iadd, 1) := by decide +kernel
theorem dX0_weigh_60 : decode cX0_weigh 60 = .ok (.iastore, 1) := by decide +kernel
theorem dX0_weigh_61 : decode cX0_weigh 61 = .ok (.iinc 2 1, 3) := by decide +kernel
theorem dX0_weigh_64 : decode cX0_weigh 64 = .ok (.goto (-46), 3) := by decide +kernel
theorem dX0_weigh_67 : decode cX0_weigh 67 = .ok (.return_, 1) := by decide +kernel
theorem dX0_isTooMuch_0 : decode cX0_isTooMuch 0 = .ok (.aload_n 1, 1) := by decide +kernel
theorem dX0_isTooMuch_1 : decode cX0_isTooMuch 1 = .ok (.getfield 36, 3) := by decide +kernel
theorem dX0_isTooMuch_4 : decode cX0_isTooMuch 4 = .ok (.iload_n 2, 1) := by decide +kernel
theorem dX0_isTooMuch_5 : decode cX0_isTooMuch 5 = .ok (.iaload, 1) := by decide +kernel
theorem dX0_isTooMuch_6 : decode cX0_isTooMuch 6 = .ok (.iconst 1, 1) := by decide +kernel
theorem dX0_isTooMuch_7 : decode cX0_isTooMuch 7 = .ok (.if_icmp .ne 22, 3) := by decide +kernel
theorem dX0_isTooMuch_10 : decode cX0_isTooMuch 10 = .ok (.aload_n 0, 1) := by decide +kernel
theorem dX0_isTooMuch_11 : decode cX0_isTooMuch 11 = .ok (.getfield 18, 3) := by decide +kernel
theorem dX0_isTooMuch_14 : decode cX0_isTooMuch 14 = .ok (.iload_n 2, 1) := by decide +kernel
theorem dX0_isTooMuch_15 : decode cX0_isTooMuch 15 = .ok (.iaload, 1) := by decide +kernel
theorem dX0_isTooMuch_16 : decode cX0_isTooMuch 16 = .ok (.aload_n 1, 1) := by decide +kernel
theorem dX0_isTooMuch_17 : decode cX0_isTooMuch 17 = .ok (.getfield 67, 3) := by decide +kernel
theorem dX0_isTooMuch_20 : decode cX0_isTooMuch 20 = .ok (.iload_n 2, 1) := by decide +kernel
theorem dX0_isTooMuch_21 : decode cX0_isTooMuch 21 = .ok (.iaload, 1) := by decide +kernel
theorem dX0_isTooMuch_22 : decode cX0_isTooMuch 22 = .ok (.if_icmp .le 7, 3) := by decide +kernel
theorem dX0_isTooMuch_25 : decode cX0_isTooMuch 25 = .ok (.iconst 1, 1) := by decide +kernel
theorem dX0_isTooMuch_26 : decode cX0_isTooMuch 26 = .ok (.goto 4, 3) := by decide +kernel
theorem dX0_isTooMuch_29 : decode cX0_isTooMuch 29 = .ok (.iconst 0, 1) := by decide +kernel
theorem dX0_isTooMuch_30 : decode cX0_isTooMuch 30 = .ok (.ireturn, 1) := by decide +kernel
theorem dX0_countTooMuch_0 : decode cX0_countTooMuch 0 = .ok (.iconst 0, 1) := by decide +kernel
theorem dX0_countTooMuch_1 : decode cX0_countTooMuch 1 = .ok (.istore_n 2, 1) := by decide +kernel
theorem dX0_countTooMuch_2 : decode cX0_countTooMuch 2 = .ok (.iconst 0, 1) := by decide +kernel
theorem dX0_countTooMuch_3 : decode cX0_countTooMuch 3 = .ok (.istore_n 3, 1) := by decide +kernel
theorem dX0_countTooMuch_4 : decode cX0_countTooMuch 4 = .ok (.iload_n 3, 1) := by decide +kernel
theorem dX0_countTooMuch_5 : decode cX0_countTooMuch 5 = .ok (.aload_n 1, 1) := by decide +kernel
theorem dX0_countTooMuch_6 : decode cX0_countTooMuch 6 = .ok (.getfield 30, 3) := by decide +kernel
theorem dX0_countTooMuch_9 : decode cX0_countTooMuch 9 = .ok (.if_icmp .ge 21, 3) := by decide +kernel
theorem dX0_countTooMuch_12 : decode cX0_countTooMuch 12 = .ok (.aload_n 0, 1) := by decide +kernel
theorem dX0_countTooMuch_13 : decode cX0_countTooMuch 13 = .ok (.aload_n 1, 1) := by decide +kernel
theorem dX0_countTooMuch_14 : decode cX0_countTooMuch 14 = .ok (.iload_n 3, 1) := by decide +kernel
theorem dX0_countTooMuch_15 : decode cX0_countTooMuch 15 = .ok (.invokevirtual 70, 3) := by decide +kernel
theorem dX0_countTooMuch_18 : decode cX0_countTooMuch 18 = .ok (.ifCond .eq 6, 3) := by decide +kernel
theorem dX0_countTooMuch_21 : decode cX0_countTooMuch 21 = .ok (.iinc 2 1, 3) := by decide +kernel
theorem dX0_countTooMuch_24 : decode cX0_countTooMuch 24 = .ok (.iinc 3 1, 3) := by decide +kernel
theorem dX0_countTooMuch_27 : decode cX0_countTooMuch 27 = .ok (.goto (-23), 3) := by decide +kernel
theorem dX0_countTooMuch_30 : decode cX0_countTooMuch 30 = .ok (.iload_n 2, 1) := by decide +kernel
theorem dX0_countTooMuch_31 : decode cX0_countTooMuch 31 = .ok (.ireturn, 1) := by decide +kernel
theorem dX0_countFallen_0 : decode cX0_countFallen 0 = .ok (.iconst 0, 1) := by decide +kernel
theorem dX0_countFallen_1 : decode cX0_countFallen 1 = .ok (.istore_n 1, 1) := by decide +kernel
theorem dX0_countFallen_2 : decode cX0_countFallen 2 = .ok (.iconst 0, 1) := by decide +kernel
theorem dX0_countFallen_3 : decode cX0_countFallen 3 = .ok (.istore_n 2, 1) := by decide +kernel
theorem dX0_countFallen_4 : decode cX0_countFallen 4 = .ok (.iload_n 2, 1) := by decide +kernel
theorem dX0_countFallen_5 : decode cX0_countFallen 5 = .ok (.bipush 96, 2) := by decide +kernel
theorem dX0_countFallen_7 : decode cX0_countFallen 7 = .ok (.if_icmp .ge 22, 3) := by decide +kernel
theorem dX0_countFallen_10 : decode cX0_countFallen 10 = .ok (.aload_n 0, 1) := by decide +kernel
theorem dX0_countFallen_11 : decode cX0_countFallen 11 = .ok (.getfield 9, 3) := by decide +kernel
theorem dX0_countFallen_14 : decode cX0_countFallen 14 = .ok (.iload_n 2, 1) := by decide +kernel
theorem dX0_countFallen_15 : decode cX0_countFallen 15 = .ok (.iaload, 1) := by decide +kernel
theorem dX0_countFallen_16 : decode cX0_countFallen 16 = .ok (.iconst (-1), 1) := by decide +kernel
theorem dX0_countFallen_17 : decode cX0_countFallen 17 = .ok (.if_icmp .ne 6, 3) := by decide +kernel
theorem dX0_countFallen_20 : decode cX0_countFallen 20 = .ok (.iinc 1 1, 3) := by decide +kernel
theorem dX0_countFallen_23 : decode cX0_countFallen 23 = .ok (.iinc 2 1, 3) := by decide +kernel
theorem dX0_countFallen_26 : decode cX0_countFallen 26 = .ok (.goto (-22), 3) := by decide +kernel
theorem dX0_countFallen_29 : decode cX0_countFallen 29 = .ok (.iload_n 1, 1) := by decide +kernel
theorem dX0_countFallen_30 : decode cX0_countFallen 30 = .ok (.ireturn, 1) := by decide +kernel
theorem dX0_weighFallen_0 : decode cX0_weighFallen 0 = .ok (.iconst 0, 1) := by decide +kernel
theorem dX0_weighFallen_1 : decode cX0_weighFallen 1 = .ok (.istore_n 2, 1) := by decide +kernel
theorem dX0_weighFallen_2 : decode cX0_weighFallen 2 = .ok (.iconst 0, 1) := by decide +kernel
theorem dX0_weighFallen_3 : decode cX0_weighFallen 3 = .ok (.istore_n 3, 1) := by decide +kernel
theorem dX0_weighFallen_4 : decode cX0_weighFallen 4 = .ok (.iload_n 3, 1) := by decide +kernel
theorem dX0_weighFallen_5 : decode cX0_weighFallen 5 = .ok (.bipush 96, 2) := by decide +kernel
theorem dX0_weighFallen_7 : decode cX0_weighFallen 7 = .ok (.if_icmp .ge 28, 3) := by decide +kernel
theorem dX0_weighFallen_10 : decode cX0_weighFallen 10 = .ok (.aload_n 0, 1) := by decide +kernel
theorem dX0_weighFallen_11 : decode cX0_weighFallen 11 = .ok (.getfield 9, 3) := by decide +kernel
theorem dX0_weighFallen_14 : decode cX0_weighFallen 14 = .ok (.iload_n 3, 1) := by decide +kernel
theorem dX0_weighFallen_15 : decode cX0_weighFallen 15 = .ok (.iaload, 1) := by decide +kernel
theorem dX0_weighFallen_16 : decode cX0_weighFallen 16 = .ok (.iconst (-1), 1) := by decide +kernel
theorem dX0_weighFallen_17 : decode cX0_weighFallen 17 = .ok (.if_icmp .ne 12, 3) := by decide +kernel
theorem dX0_weighFallen_20 : decode cX0_weighFallen 20 = .ok (.iload_n 2, 1) := by decide +kernel
theorem dX0_weighFallen_21 : decode cX0_weighFallen 21 = .ok (.aload_n 1, 1) := by decide +kernel
theorem dX0_weighFallen_22 : decode cX0_weighFallen 22 = .ok (.getfield 64, 3) := by decide +kernel
theorem dX0_weighFallen_25 : decode cX0_weighFallen 25 = .ok (.iload_n 3, 1) := by decide +kernel
theorem dX0_weighFallen_26 : decode cX0_weighFallen 26 = .ok (.iaload, 1) := by decide +kernel
theorem dX0_weighFallen_27 : decode cX0_weighFallen 27 = .ok (.iadd, 1) := by decide +kernel
theorem dX0_weighFallen_28 : decode cX0_weighFallen 28 = .ok (.istore_n 2, 1) := by decide +kernel
theorem dX0_weighFallen_29 : decode cX0_weighFallen 29 = .ok (.iinc 3 1, 3) := by decide +kernel
theorem dX0_weighFallen_32 : decode cX0_weighFallen 32 = .ok (.goto (-28), 3) := by decide +kernel
theorem dX0_weighFallen_35 : decode cX0_weighFallen 35 = .ok (.iload_n 2, 1) := by decide +kernel
theorem dX0_weighFallen_36 : decode cX0_weighFallen 36 = .ok (.ireturn, 1) := by decide +kernel
theorem dX0_countHeldRooms_0 : decode cX0_countHeldRooms 0 = .ok (.iconst 0, 1) := by decide +kernel
theorem dX0_countHeldRooms_1 : decode cX0_countHeldRooms 1 = .ok (.istore_n 2, 1) := by decide +kernel
theorem dX0_countHeldRooms_2 : decode cX0_countHeldRooms 2 = .ok (.iconst 0, 1) := by decide +kernel
theorem dX0_countHeldRooms_3 : decode cX0_countHeldRooms 3 = .ok (.istore_n 3, 1) := by decide +kernel
theorem dX0_countHeldRooms_4 : decode cX0_countHeldRooms 4 = .ok (.iload_n 3, 1) := by decide +kernel
theorem dX0_countHeldRooms_5 : decode cX0_countHeldRooms 5 = .ok (.bipush 96, 2) := by decide +kernel
theorem dX0_countHeldRooms_7 : decode cX0_countHeldRooms 7 = .ok (.if_icmp .ge 30, 3) := by decide +kernel
theorem dX0_countHeldRooms_10 : decode cX0_countHeldRooms 10 = .ok (.aload_n 0, 1) := by decide +kernel
theorem dX0_countHeldRooms_11 : decode cX0_countHeldRooms 11 = .ok (.getfield 9, 3) := by decide +kernel
theorem dX0_countHeldRooms_14 : decode cX0_countHeldRooms 14 = .ok (.iload_n 3, 1) := by decide +kernel
theorem dX0_countHeldRooms_15 : decode cX0_countHeldRooms 15 = .ok (.iaload, 1) := by decide +kernel
theorem dX0_countHeldRooms_16 : decode cX0_countHeldRooms 16 = .ok (.iconst (-1), 1) := by decide +kernel
theorem dX0_countHeldRooms_17 : decode cX0_countHeldRooms 17 = .ok (.if_icmp .eq 14, 3) := by decide +kernel
theorem dX0_countHeldRooms_20 : decode cX0_countHeldRooms 20 = .ok (.aload_n 1, 1) := by decide +kernel
theorem dX0_countHeldRooms_21 : decode cX0_countHeldRooms 21 = .ok (.iload_n 3, 1) := by decide +kernel
theorem dX0_countHeldRooms_22 : decode cX0_countHeldRooms 22 = .ok (.invokevirtual 74, 3) := by decide +kernel
theorem dX0_countHeldRooms_25 : decode cX0_countHeldRooms 25 = .ok (.ifCond .eq 6, 3) := by decide +kernel
theorem dX0_countHeldRooms_28 : decode cX0_countHeldRooms 28 = .ok (.iinc 2 1, 3) := by decide +kernel
theorem dX0_countHeldRooms_31 : decode cX0_countHeldRooms 31 = .ok (.iinc 3 1, 3) := by decide +kernel
theorem dX0_countHeldRooms_34 : decode cX0_countHeldRooms 34 = .ok (.goto (-30), 3) := by decide +kernel
theorem dX0_countHeldRooms_37 : decode cX0_countHeldRooms 37 = .ok (.iload_n 2, 1) := by decide +kernel
theorem dX0_countHeldRooms_38 : decode cX0_countHeldRooms 38 = .ok (.ireturn, 1) := by decide +kernel
theorem dX0_meet_0 : decode cX0_meet 0 = .ok (.iconst 0, 1) := by decide +kernel
theorem dX0_meet_1 : decode cX0_meet 1 = .ok (.istore 4, 2) := by decide +kernel
theorem dX0_meet_3 : decode cX0_meet 3 = .ok (.iload 4, 2) := by decide +kernel
theorem dX0_meet_5 : decode cX0_meet 5 = .ok (.bipush 96, 2) := by decide +kernel
theorem dX0_meet_7 : decode cX0_meet 7 = .ok (.if_icmp .ge 90, 3) := by decide +kernel
theorem dX0_meet_10 : decode cX0_meet 10 = .ok (.aload_n 1, 1) := by decide +kernel
theorem dX0_meet_11 : decode cX0_meet 11 = .ok (.iload 4, 2) := by decide +kernel
theorem dX0_meet_13 : decode cX0_meet 13 = .ok (.bipush 12, 2) := by decide +kernel
theorem dX0_meet_15 : decode cX0_meet 15 = .ok (.irem, 1) := by decide +kernel
theorem dX0_meet_16 : decode cX0_meet 16 = .ok (.invokevirtual 78, 3) := by decide +kernel
theorem dX0_meet_19 : decode cX0_meet 19 = .ok (.ifCond .eq 22, 3) := by decide +kernel
theorem dX0_meet_22 : decode cX0_meet 22 = .ok (.aload_n 0, 1) := by decide +kernel
theorem dX0_meet_23 : decode cX0_meet 23 = .ok (.iload 4, 2) := by decide +kernel
theorem dX0_meet_25 : decode cX0_meet 25 = .ok (.iload 4, 2) := by decide +kernel
theorem dX0_meet_27 : decode cX0_meet 27 = .ok (.iconst 1, 1) := by decide +kernel
theorem dX0_meet_28 : decode cX0_meet 28 = .ok (.iadd, 1) := by decide +kernel
theorem dX0_meet_29 : decode cX0_meet 29 = .ok (.iload_n 2, 1) := by decide +kernel
theorem dX0_meet_30 : decode cX0_meet 30 = .ok (.iload_n 3, 1) := by decide +kernel
theorem dX0_meet_31 : decode cX0_meet 31 = .ok (.invokevirtual 81, 3) := by decide +kernel
theorem dX0_meet_34 : decode cX0_meet 34 = .ok (.ifCond .eq 7, 3) := by decide +kernel
theorem dX0_meet_37 : decode cX0_meet 37 = .ok (.iconst 1, 1) := by decide +kernel
theorem dX0_meet_38 : decode cX0_meet 38 = .ok (.goto 4, 3) := by decide +kernel
theorem dX0_meet_41 : decode cX0_meet 41 = .ok (.iconst 0, 1) := by decide +kernel
theorem dX0_meet_42 : decode cX0_meet 42 = .ok (.istore 5, 2) := by decide +kernel
theorem dX0_meet_44 : decode cX0_meet 44 = .ok (.aload_n 1, 1) := by decide +kernel
theorem dX0_meet_45 : decode cX0_meet 45 = .ok (.iload 4, 2) := by decide +kernel
theorem dX0_meet_47 : decode cX0_meet 47 = .ok (.bipush 12, 2) := by decide +kernel
theorem dX0_meet_49 : decode cX0_meet 49 = .ok (.idiv, 1) := by decide +kernel
theorem dX0_meet_50 : decode cX0_meet 50 = .ok (.invokevirtual 85, 3) := by decide +kernel
theorem dX0_meet_53 : decode cX0_meet 53 = .ok (.ifCond .eq 23, 3) := by decide +kernel
theorem dX0_meet_56 : decode cX0_meet 56 = .ok (.aload_n 0, 1) := by decide +kernel
theorem dX0_meet_57 : decode cX0_meet 57 = .ok (.iload 4, 2) := by decide +kernel
theorem dX0_meet_59 : decode cX0_meet 59 = .ok (.iload 4, 2) := by decide +kernel
theorem dX0_meet_61 : decode cX0_meet 61 = .ok (.bipush 12, 2) := by decide +kernel
theorem dX0_meet_63 : decode cX0_meet 63 = .ok (.iadd, 1) := by decide +kernel
theorem dX0_meet_64 : decode cX0_meet 64 = .ok (.iload_n 2, 1) := by decide +kernel
theorem dX0_meet_65 : decode cX0_meet 65 = .ok (.iload_n 3, 1) := by decide +kernel
theorem dX0_meet_66 : decode cX0_meet 66 = .ok (.invokevirtual 81, 3) := by decide +kernel
theorem dX0_meet_69 : decode cX0_meet 69 = .ok (.ifCond .eq 7, 3) := by decide +kernel
theorem dX0_meet_72 : decode cX0_meet 72 = .ok (.iconst 1, 1) := by decide +kernel
theorem dX0_meet_73 : decode cX0_meet 73 = .ok (.goto 4, 3) := by decide +kernel
theorem dX0_meet_76 : decode cX0_meet 76 = .ok (.iconst 0, 1) := by decide +kernel
theorem dX0_meet_77 : decode cX0_meet 77 = .ok (.istore 6, 2) := by decide +kernel
theorem dX0_meet_79 : decode cX0_meet 79 = .ok (.iload 5, 2) := by decide +kernel
theorem dX0_meet_81 : decode cX0_meet 81 = .ok (.ifCond .ne 8, 3) := by decide +kernel
theorem dX0_meet_84 : decode cX0_meet 84 = .ok (.iload 6, 2) := by decide +kernel
theorem dX0_meet_86 : decode cX0_meet 86 = .ok (.ifCond .eq 5, 3) := by decide +kernel
theorem dX0_meet_89 : decode cX0_meet 89 = .ok (.iconst 1, 1) := by decide +kernel
theorem dX0_meet_90 : decode cX0_meet 90 = .ok (.ireturn, 1) := by decide +kernel
theorem dX0_meet_91 : decode cX0_meet 91 = .ok (.iinc 4 1, 3) := by decide +kernel
theorem dX0_meet_94 : decode cX0_meet 94 = .ok (.goto (-91), 3) := by decide +kernel
theorem dX0_meet_97 : decode cX0_meet 97 = .ok (.iconst 0, 1) := by decide +kernel
theorem dX0_meet_98 : decode cX0_meet 98 = .ok (.ireturn, 1) := by decide +kernel
theorem dX0_arePair_0 : decode cX0_arePair 0 = .ok (.aload_n 0, 1) := by decide +kernel
theorem dX0_arePair_1 : decode cX0_arePair 1 = .ok (.getfield 9, 3) := by decide +kernel
theorem dX0_arePair_4 : decode cX0_arePair 4 = .ok (.iload_n 1, 1) := by decide +kernel
theorem dX0_arePair_5 : decode cX0_arePair 5 = .ok (.iaload, 1) := by decide +kernel
theorem dX0_arePair_6 : decode cX0_arePair 6 = .ok (.iload_n 3, 1) := by decide +kernel
theorem dX0_arePair_7 : decode cX0_arePair 7 = .ok (.if_icmp .ne 14, 3) := by decide +kernel
theorem dX0_arePair_10 : decode cX0_arePair 10 = .ok (.aload_n 0, 1) := by decide +kernel
theorem dX0_arePair_11 : decode cX0_arePair 11 = .ok (.getfield 9, 3) := by decide +kernel
theorem dX0_arePair_14 : decode cX0_arePair 14 = .ok (.iload_n 2, 1) := by decide +kernel
theorem dX0_arePair_15 : decode cX0_arePair 15 = .ok (.iaload, 1) := by decide +kernel
theorem dX0_arePair_16 : decode cX0_arePair 16 = .ok (.iload 4, 2) := by decide +kernel
theorem dX0_arePair_18 : decode cX0_arePair 18 = .ok (.if_icmp .eq 24, 3) := by decide +kernel
theorem dX0_arePair_21 : decode cX0_arePair 21 = .ok (.aload_n 0, 1) := by decide +kernel
theorem dX0_arePair_22 : decode cX0_arePair 22 = .ok (.getfield 9, 3) := by decide +kernel
theorem dX0_arePair_25 : decode cX0_arePair 25 = .ok (.iload_n 1, 1) := by decide +kernel
theorem dX0_arePair_26 : decode cX0_arePair 26 = .ok (.iaload, 1) := by decide +kernel
theorem dX0_arePair_27 : decode cX0_arePair 27 = .ok (.iload 4, 2) := by decide +kernel
theorem dX0_arePair_29 : decode cX0_arePair 29 = .ok (.if_icmp .ne 17, 3) := by decide +kernel
theorem dX0_arePair_32 : decode cX0_arePair 32 = .ok (.aload_n 0, 1) := by decide +kernel
theorem dX0_arePair_33 : decode cX0_arePair 33 = .ok (.getfield 9, 3) := by decide +kernel
theorem dX0_arePair_36 : decode cX0_arePair 36 = .ok (.iload_n 2, 1) := by decide +kernel
theorem dX0_arePair_37 : decode cX0_arePair 37 = .ok (.iaload, 1) := by decide +kernel
theorem dX0_arePair_38 : decode cX0_arePair 38 = .ok (.iload_n 3, 1) := by decide +kernel
theorem dX0_arePair_39 : decode cX0_arePair 39 = .ok (.if_icmp .ne 7, 3) := by decide +kernel
theorem dX0_arePair_42 : decode cX0_arePair 42 = .ok (.iconst 1, 1) := by decide +kernel
theorem dX0_arePair_43 : decode cX0_arePair 43 = .ok (.goto 4, 3) := by decide +kernel
theorem dX0_arePair_46 : decode cX0_arePair 46 = .ok (.iconst 0, 1) := by decide +kernel
theorem dX0_arePair_47 : decode cX0_arePair 47 = .ok (.ireturn, 1) := by decide +kernel
theorem dX1_init_0 : decode cX1_init 0 = .ok (.aload_n 0, 1) := by decide +kernel
theorem dX1_init_1 : decode cX1_init 1 = .ok (.invokespecial 3, 3) := by decide +kernel
theorem dX1_init_4 : decode cX1_init 4 = .ok (.aload_n 0, 1) := by decide +kernel
theorem dX1_init_5 : decode cX1_init 5 = .ok (.bipush 96, 2) := by decide +kernel
theorem dX1_init_7 : decode cX1_init 7 = .ok (.newarray .int, 2) := by decide +kernel
theorem dX1_init_9 : decode cX1_init 9 = .ok (.putfield 9, 3) := by decide +kernel
theorem dX1_init_12 : decode cX1_init 12 = .ok (.aload_n 0, 1) := by decide +kernel
theorem dX1_init_13 : decode cX1_init 13 = .ok (.bipush 12, 2) := by decide +kernel
theorem dX1_init_15 : decode cX1_init 15 = .ok (.newarray .int, 2) := by decide +kernel
theorem dX1_init_17 : decode cX1_init 17 = .ok (.putfield 15, 3) := by decide +kernel
theorem dX1_init_20 : decode cX1_init 20 = .ok (.aload_n 0, 1) := by decide +kernel
theorem dX1_init_21 : decode cX1_init 21 = .ok (.bipush 12, 2) := by decide +kernel
theorem dX1_init_23 : decode cX1_init 23 = .ok (.newarray .int, 2) := by decide +kernel
theorem dX1_init_25 : decode cX1_init 25 = .ok (.putfield 18, 3) := by decide +kernel
theorem dX1_init_28 : decode cX1_init 28 = .ok (.aload_n 0, 1) := by decide +kernel
theorem dX1_init_29 : decode cX1_init 29 = .ok (.bipush 12, 2) := by decide +kernel
theorem dX1_init_31 : decode cX1_init 31 = .ok (.newarray .int, 2) := by decide +kernel
theorem dX1_init_33 : decode cX1_init 33 = .ok (.putfield 21, 3) := by decide +kernel
theorem dX1_init_36 : decode cX1_init 36 = .ok (.aload_n 0, 1) := by decide +kernel
theorem dX1_init_37 : decode cX1_init 37 = .ok (.bipush 21, 2) := by decide +kernel
theorem dX1_init_39 : decode cX1_init 39 = .ok (.newarray .int, 2) := by decide +kernel
theorem dX1_init_41 : decode cX1_init 41 = .ok (.putfield 24, 3) := by decide +kernel
theorem dX1_init_44 : decode cX1_init 44 = .ok (.aload_n 0, 1) := by decide +kernel
theorem dX1_init_45 : decode cX1_init 45 = .ok (.invokevirtual 27, 3) := by decide +kernel
theorem dX1_init_48 : decode cX1_init 48 = .ok (.return_, 1) := by decide +kernel
theorem dX1_reset_0 : decode cX1_reset 0 = .ok (.aload_n 0, 1) := by decide +kernel
theorem dX1_reset_1 : decode cX1_reset 1 = .ok (.getfield 9, 3) := by decide +kernel
theorem dX1_reset_4 : decode cX1_reset 4 = .ok (.iconst 1, 1) := by decide +kernel
theorem dX1_reset_5 : decode cX1_reset 5 = .ok (.invokestatic 30, 3) := by decide +kernel
theorem dX1_reset_8 : decode cX1_reset 8 = .ok (.aload_n 0, 1) := by decide +kernel
theorem dX1_reset_9 : decode cX1_reset 9 = .ok (.getfield 24, 3) := by decide +kernel
theorem dX1_reset_12 : decode cX1_reset 12 = .ok (.iconst 0, 1) := by decide +kernel
theorem dX1_reset_13 : decode cX1_reset 13 = .ok (.invokestatic 30, 3) := by decide +kernel
theorem dX1_reset_16 : decode cX1_reset 16 = .ok (.aload_n 0, 1) := by decide +kernel
theorem dX1_reset_17 : decode cX1_reset 17 = .ok (.iconst 0, 1) := by decide +kernel
theorem dX1_reset_18 : decode cX1_reset 18 = .ok (.putfield 36, 3) := by decide +kernel
theorem dX1_reset_21 : decode cX1_reset 21 = .ok (.return_, 1) := by decide +kernel
theorem dX1_copy_0 : decode cX1_copy 0 = .ok (.aload_n 1, 1) := by decide +kernel
theorem dX1_copy_1 : decode cX1_copy 1 = .ok (.getfield 9, 3) := by decide +kernel
theorem dX1_copy_4 : decode cX1_copy 4 = .ok (.iconst 0, 1) := by decide +kernel
theorem dX1_copy_5 : decode cX1_copy 5 = .ok (.aload_n 0, 1) := by decide +kernel
theorem dX1_copy_6 : decode cX1_copy 6 = .ok (.getfield 9, 3) := by decide +kernel
theorem dX1_copy_9 : decode cX1_copy 9 = .ok (.iconst 0, 1) := by decide +kernel
theorem dX1_copy_10 : decode cX1_copy 10 = .ok (.bipush 96, 2) := by decide +kernel
theorem dX1_copy_12 : decode cX1_copy 12 = .ok (.invokestatic 40, 3) := by decide +kernel
theorem dX1_copy_15 : decode cX1_copy 15 = .ok (.aload_n 1, 1) := by decide +kernel
theorem dX1_copy_16 : decode cX1_copy 16 = .ok (.getfield 15, 3) := by decide +kernel
theorem dX1_copy_19 : decode cX1_copy 19 = .ok (.iconst 0, 1) := by decide +kernel
theorem dX1_copy_20 : decode cX1_copy 20 = .ok (.aload_n 0, 1) := by decide +kernel
theorem dX1_copy_21 : decode cX1_copy 21 = .ok (.getfield 15, 3) := by decide +kernel
theorem dX1_copy_24 : decode cX1_copy 24 = .ok (.iconst 0, 1) := by decide +kernel
theorem dX1_copy_25 : decode cX1_copy 25 = .ok (.bipush 12, 2) := by decide +kernel
theorem dX1_copy_27 : decode cX1_copy 27 = .ok (.invokestatic 40, 3) := by decide +kernel
theorem dX1_copy_30 : decode cX1_copy 30 = .ok (.aload_n 1, 1) := by decide +kernel
theorem dX1_copy_31 : decode cX1_copy 31 = .ok (.getfield 18, 3) := by decide +kernel
theorem dX1_copy_34 : decode cX1_copy 34 = .ok (.iconst 0, 1) := by decide +kernel
theorem dX1_copy_35 : decode cX1_copy 35 = .ok (.aload_n 0, 1) := by decide +kernel
theorem dX1_copy_36 : decode cX1_copy 36 = .ok (.getfield 18, 3) := by decide +kernel
theorem dX1_copy_39 : decode cX1_copy 39 = .ok (.iconst 0, 1) := by decide +kernel
theorem dX1_copy_40 : decode cX1_copy 40 = .ok (.bipush 12, 2) := by decide +kernel
theorem dX1_copy_42 : decode cX1_copy 42 = .ok (.invokestatic 40, 3) := by decide +kernel
theorem dX1_copy_45 : decode cX1_copy 45 = .ok (.aload_n 1, 1) := by decide +kernel
theorem dX1_copy_46 : decode cX1_copy 46 = .ok (.getfield 21, 3) := by decide +kernel
theorem dX1_copy_49 : decode cX1_copy 49 = .ok (.iconst 0, 1) := by decide +kernel
theorem dX1_copy_50 : decode cX1_copy 50 = .ok (.aload_n 0, 1) := by decide +kernel
theorem dX1_copy_51 : decode cX1_copy 51 = .ok (.getfield 21, 3) := by decide +kernel
theorem dX1_copy_54 : decode cX1_copy 54 = .ok (.iconst 0, 1) := by decide +kernel
theorem dX1_copy_55 : decode cX1_copy 55 = .ok (.bipush 12, 2) := by decide +kernel
theorem dX1_copy_57 : decode cX1_copy 57 = .ok (.invokestatic 40, 3) := by decide +kernel
theorem dX1_copy_60 : decode cX1_copy 60 = .ok (.aload_n 1, 1) := by decide +kernel
theorem dX1_copy_61 : decode cX1_copy 61 = .ok (.getfield 24, 3) := by decide +kernel
theorem dX1_copy_64 : decode cX1_copy 64 = .ok (.iconst 0, 1) := by decide +kernel
theorem dX1_copy_65 : decode cX1_copy 65 = .ok (.aload_n 0, 1) := by decide +kernel
theorem dX1_copy_66 : decode cX1_copy 66 = .ok (.getfield 24, 3) := by decide +kernel
theorem dX1_copy_69 : decode cX1_copy 69 = .ok (.iconst 0, 1) := by decide +kernel
theorem dX1_copy_70 : decode cX1_copy 70 = .ok (.bipush 21, 2) := by decide +kernel
theorem dX1_copy_72 : decode cX1_copy 72 = .ok (.invokestatic 40, 3) := by decide +kernel
theorem dX1_copy_75 : decode cX1_copy 75 = .ok (.aload_n 0, 1) := by decide +kernel
theorem dX1_copy_76 : decode cX1_copy 76 = .ok (.aload_n 1, 1) := by decide +kernel
theorem dX1_copy_77 : decode cX1_copy 77 = .ok (.getfield 36, 3) := by decide +kernel
theorem dX1_copy_80 : decode cX1_copy 80 = .ok (.putfield 36, 3) := by decide +kernel
theorem dX1_copy_83 : decode cX1_copy 83 = .ok (.return_, 1) := by decide +kernel
theorem dX1_add_0 : decode cX1_add 0 = .ok (.aload_n 0, 1) := by decide +kernel
theorem dX1_add_1 : decode cX1_add 1 = .ok (.getfield 36, 3) := by decide +kernel
theorem dX1_add_4 : decode cX1_add 4 = .ok (.bipush 12, 2) := by decide +kernel
theorem dX1_add_6 : decode cX1_add 6 = .ok (.if_icmp .ge 43, 3) := by decide +kernel
theorem dX1_add_9 : decode cX1_add 9 = .ok (.aload_n 0, 1) := by decide +kernel
theorem dX1_add_10 : decode cX1_add 10 = .ok (.getfield 15, 3) := by decide +kernel
theorem dX1_add_13 : decode cX1_add 13 = .ok (.aload_n 0, 1) := by decide +kernel
theorem dX1_add_14 : decode cX1_add 14 = .ok (.getfield 36, 3) := by decide +kernel
theorem dX1_add_17 : decode cX1_add 17 = .ok (.iload_n 1, 1) := by decide +kernel
theorem dX1_add_18 : decode cX1_add 18 = .ok (.iastore, 1) := by decide +kernel
theorem dX1_add_19 : decode cX1_add 19 = .ok (.aload_n 0, 1) := by decide +kernel
theorem dX1_add_20 : decode cX1_add 20 = .ok (.getfield 18, 3) := by decide +kernel
theorem dX1_add_23 : decode cX1_add 23 = .ok (.aload_n 0, 1) := by decide +kernel
theorem dX1_add_24 : decode cX1_add 24 = .ok (.getfield 36, 3) := by decide +kernel
theorem dX1_add_27 : decode cX1_add 27 = .ok (.iload_n 2, 1) := by decide +kernel
theorem dX1_add_28 : decode cX1_add 28 = .ok (.iastore, 1) := by decide +kernel
theorem dX1_add_29 : decode cX1_add 29 = .ok (.aload_n 0, 1) := by decide +kernel
theorem dX1_add_30 : decode cX1_add 30 = .ok (.getfield 21, 3) := by decide +kernel
theorem dX1_add_33 : decode cX1_add 33 = .ok (.aload_n 0, 1) := by decide +kernel
theorem dX1_add_34 : decode cX1_add 34 = .ok (.getfield 36, 3) := by decide +kernel
theorem dX1_add_37 : decode cX1_add 37 = .ok (.iconst 1, 1) := by decide +kernel
theorem dX1_add_38 : decode cX1_add 38 = .ok (.iastore, 1) := by decide +kernel
theorem dX1_add_39 : decode cX1_add 39 = .ok (.aload_n 0, 1) := by decide +kernel
theorem dX1_add_40 : decode cX1_add 40 = .ok (.dup, 1) := by decide +kernel
theorem dX1_add_41 : decode cX1_add 41 = .ok (.getfield 36, 3) := by decide +kernel
theorem dX1_add_44 : decode cX1_add 44 = .ok (.iconst 1, 1) := by decide +kernel
theorem dX1_add_45 : decode cX1_add 45 = .ok (.iadd, 1) := by decide +kernel
theorem dX1_add_46 : decode cX1_add 46 = .ok (.putfield 36, 3) := by decide +kernel
theorem dX1_add_49 : decode cX1_add 49 = .ok (.return_, 1) := by decide +kernel
theorem dX1_hasPillar_0 : decode cX1_hasPillar 0 = .ok (.iload_n 1, 1) := by decide +kernel
theorem dX1_hasPillar_1 : decode cX1_hasPillar 1 = .ok (.ifCond .lt 15, 3) := by decide +kernel
theorem dX1_hasPillar_4 : decode cX1_hasPillar 4 = .ok (.iload_n 1, 1) := by decide +kernel
theorem dX1_hasPillar_5 : decode cX1_hasPillar 5 = .ok (.aload_n 0, 1) := by decide +kernel
theorem dX1_hasPillar_6 : decode cX1_hasPillar 6 = .ok (.getfield 36, 3) := by decide +kernel
theorem dX1_hasPillar_9 : decode cX1_hasPillar 9 = .ok (.if_icmp .ge 7, 3) := by decide +kernel
theorem dX1_hasPillar_12 : decode cX1_hasPillar 12 = .ok (.iconst 1, 1) := by decide +kernel
theorem dX1_hasPillar_13 : decode cX1_hasPillar 13 = .ok (.goto 4, 3) := by decide +kernel
theorem dX1_hasPillar_16 : decode cX1_hasPillar 16 = .ok (.iconst 0, 1) := by decide +kernel
theorem dX1_hasPillar_17 : decode cX1_hasPillar 17 = .ok (.ireturn, 1) := by decide +kernel
theorem dX1_isStanding_0 : decode cX1_isStanding 0 = .ok (.aload_n 0, 1) := by decide +kernel
theorem dX1_isStanding_1 : decode cX1_isStanding 1 = .ok (.iload_n 1, 1) := by decide +kernel
theorem dX1_isStanding_2 : decode cX1_isStanding 2 = .ok (.invokevirtual 46, 3) := by decide +kernel
theorem dX1_isStanding_5 : decode cX1_isStanding 5 = .ok (.ifCond .eq 17, 3) := by decide +kernel
theorem dX1_isStanding_8 : decode cX1_isStanding 8 = .ok (.aload_n 0, 1) := by decide +kernel
theorem dX1_isStanding_9 : decode cX1_isStanding 9 = .ok (.getfield 21, 3) := by decide +kernel
theorem dX1_isStanding_12 : decode cX1_isStanding 12 = .ok (.iload_n 1, 1) := by decide +kernel
theorem dX1_isStanding_13 : decode cX1_isStanding 13 = .ok (.iaload, 1) := by decide +kernel
theorem dX1_isStanding_14 : decode cX1_isStanding 14 = .ok (.iconst 1, 1) := by decide +kernel
theorem dX1_isStanding_15 : decode cX1_isStanding 15 = .ok (.if_icmp .ne 7, 3) := by decide +kernel
theorem dX1_isStanding_18 : decode cX1_isStanding 18 = .ok (.iconst 1, 1) := by decide +kernel
theorem dX1_isStanding_19 : decode cX1_isStanding 19 = .ok (.goto 4, 3) := by decide +kernel
theorem dX1_isStanding_22 : decode cX1_isStanding 22 = .ok (.iconst 0, 1) := by decide +kernel
theorem dX1_isStanding_23 : decode cX1_isStanding 23 = .ok (.ireturn, 1) := by decide +kernel
theorem dX1_hasPillarOn_0 : decode cX1_hasPillarOn 0 = .ok (.iconst 0, 1) := by decide +kernel
theorem dX1_hasPillarOn_1 : decode cX1_hasPillarOn 1 = .ok (.istore_n 2, 1) := by decide +kernel
theorem dX1_hasPillarOn_2 : decode cX1_hasPillarOn 2 = .ok (.iload_n 2, 1) := by decide +kernel
theorem dX1_hasPillarOn_3 : decode cX1_hasPillarOn 3 = .ok (.aload_n 0, 1) := by decide +kernel
theorem dX1_hasPillarOn_4 : decode cX1_hasPillarOn 4 = .ok (.getfield 36, 3) := by decide +kernel
theorem dX1_hasPillarOn_7 : decode cX1_hasPillarOn 7 = .ok (.if_icmp .ge 21, 3) := by decide +kernel
theorem dX1_hasPillarOn_10 : decode cX1_hasPillarOn 10 = .ok (.aload_n 0, 1) := by decide +kernel
theorem dX1_hasPillarOn_11 : decode cX1_hasPillarOn 11 = .ok (.getfield 15, 3) := by decide +kernel
theorem dX1_hasPillarOn_14 : decode cX1_hasPillarOn 14 = .ok (.iload_n 2, 1) := by decide +kernel
theorem dX1_hasPillarOn_15 : decode cX1_hasPillarOn 15 = .ok (.iaload, 1) := by decide +kernel
theorem dX1_hasPillarOn_16 : decode cX1_hasPillarOn 16 = .ok (.iload_n 1, 1) := by decide +kernel
theorem dX1_hasPillarOn_17 : decode cX1_hasPillarOn 17 = .ok (.if_icmp .ne 5, 3) := by decide +kernel
theorem dX1_hasPillarOn_20 : decode cX1_hasPillarOn 20 = .ok (.iconst 1, 1) := by decide +kernel
theorem dX1_hasPillarOn_21 : decode cX1_hasPillarOn 21 = .ok (.ireturn, 1) := by decide +kernel
theorem dX1_hasPillarOn_22 : decode cX1_hasPillarOn 22 = .ok (.iinc 2 1, 3) := by decide +kernel
theorem dX1_hasPillarOn_25 : decode cX1_hasPillarOn 25 = .ok (.goto (-23), 3) := by decide +kernel
theorem dX1_hasPillarOn_28 : decode cX1_hasPillarOn 28 = .ok (.iconst 0, 1) := by decide +kernel
theorem dX1_hasPillarOn_29 : decode cX1_hasPillarOn 29 = .ok (.ireturn, 1) := by decide +kernel
theorem dX1_countStanding_0 : decode cX1_countStanding 0 = .ok (.iconst 0, 1) := by decide +kernel
theorem dX1_countStanding_1 : decode cX1_countStanding 1 = .ok (.istore_n 1, 1) := by decide +kernel
theorem dX1_countStanding_2 : decode cX1_countStanding 2 = .ok (.iconst 0, 1) := by decide +kernel
theorem dX1_countStanding_3 : decode cX1_countStanding 3 = .ok (.istore_n 2, 1) := by decide +kernel
theorem dX1_countStanding_4 : decode cX1_countStanding 4 = .ok (.iload_n 2, 1) := by decide +kernel
theorem dX1_countStanding_5 : decode cX1_countStanding 5 = .ok (.aload_n 0, 1) := by decide +kernel
theorem dX1_countStanding_6 : decode cX1_countStanding 6 = .ok (.getfield 36, 3) := by decide +kernel
theorem dX1_countStanding_9 : decode cX1_countStanding 9 = .ok (.if_icmp .ge 18, 3) := by decide +kernel
theorem dX1_countStanding_12 : decode cX1_countStanding 12 = .ok (.iload_n 1, 1) := by decide +kernel
theorem dX1_countStanding_13 : decode cX1_countStanding 13 = .ok (.aload_n 0, 1) := by decide +kernel
theorem dX1_countStanding_14 : decode cX1_countStanding 14 = .ok (.getfield 21, 3) := by decide +kernel
theorem dX1_countStanding_17 : decode cX1_countStanding 17 = .ok (.iload_n 2, 1) := by decide +kernel
theorem dX1_countStanding_18 : decode cX1_countStanding 18 = .ok (.iaload, 1) := by decide +kernel
theorem dX1_countStanding_19 : decode cX1_countStanding 19 = .ok (.iadd, 1) := by decide +kernel
theorem dX1_countStanding_20 : decode cX1_countStanding 20 = .ok (.istore_n 1, 1) := by decide +kernel
theorem dX1_countStanding_21 : decode cX1_countStanding 21 = .ok (.iinc 2 1, 3) := by decide +kernel
theorem dX1_countStanding_24 : decode cX1_countStanding 24 = .ok (.goto (-20), 3) := by decide +kernel
theorem dX1_countStanding_27 : decode cX1_countStanding 27 = .ok (.iload_n 1, 1) := by decide +kernel
theorem dX1_countStanding_28 : decode cX1_countStanding 28 = .ok (.ireturn, 1) := by decide +kernel
theorem dX1_startsRoom_0 : decode cX1_startsRoom 0 = .ok (.aload_n 0, 1) := by decide +kernel
theorem dX1_startsRoom_1 : decode cX1_startsRoom 1 = .ok (.iload_n 1, 1) := by decide +kernel
theorem dX1_startsRoom_2 : decode cX1_startsRoom 2 = .ok (.bipush 12, 2) := by decide +kernel
theorem dX1_startsRoom_4 : decode cX1_startsRoom 4 = .ok (.idiv, 1) := by decide +kernel
theorem dX1_startsRoom_5 : decode cX1_startsRoom 5 = .ok (.iconst 1, 1) := by decide +kernel
theorem dX1_startsRoom_6 : decode cX1_startsRoom 6 = .ok (.isub, 1) := by decide +kernel
theorem dX1_startsRoom_7 : decode cX1_startsRoom 7 = .ok (.invokevirtual 50, 3) := by decide +kernel
theorem dX1_startsRoom_10 : decode cX1_startsRoom 10 = .ok (.ifCond .ne 20, 3) := by decide +kernel
theorem dX1_startsRoom_13 : decode cX1_startsRoom 13 = .ok (.aload_n 0, 1) := by decide +kernel
theorem dX1_startsRoom_14 : decode cX1_startsRoom 14 = .ok (.iload_n 1, 1) := by decide +kernel
theorem dX1_startsRoom_15 : decode cX1_startsRoom 15 = .ok (.bipush 12, 2) := by decide +kernel
theorem dX1_startsRoom_17 : decode cX1_startsRoom 17 = .ok (.irem, 1) := by decide +kernel
theorem dX1_startsRoom_18 : decode cX1_startsRoom 18 = .ok (.iconst 1, 1) := by decide +kernel
theorem dX1_startsRoom_19 : decode cX1_startsRoom 19 = .ok (.isub, 1) := by decide +kernel
theorem dX1_startsRoom_20 : decode cX1_startsRoom 20 = .ok (.invokevirtual 53, 3) := by decide +kernel
theorem dX1_startsRoom_23 : decode cX1_startsRoom 23 = .ok (.ifCond .ne 7, 3) := by decide +kernel
theorem dX1_startsRoom_26 : decode cX1_startsRoom 26 = .ok (.iconst 1, 1) := by decide +kernel
theorem dX1_startsRoom_27 : decode cX1_startsRoom 27 = .ok (.goto 4, 3) := by decide +kernel
theorem dX1_startsRoom_30 : decode cX1_startsRoom 30 = .ok (.iconst 0, 1) := by decide +kernel
theorem dX1_startsRoom_31 : decode cX1_startsRoom 31 = .ok (.ireturn, 1) := by decide +kernel
theorem dX1_countRooms_0 : decode cX1_countRooms 0 = .ok (.iconst 0, 1) := by decide +kernel
theorem dX1_countRooms_1 : decode cX1_countRooms 1 = .ok (.istore_n 1, 1) := by decide +kernel
theorem dX1_countRooms_2 : decode cX1_countRooms 2 = .ok (.iconst 0, 1) := by decide +kernel
theorem dX1_countRooms_3 : decode cX1_countRooms 3 = .ok (.istore_n 2, 1) := by decide +kernel
theorem dX1_countRooms_4 : decode cX1_countRooms 4 = .ok (.iload_n 2, 1) := by decide +kernel
theorem dX1_countRooms_5 : decode cX1_countRooms 5 = .ok (.bipush 96, 2) := by decide +kernel
theorem dX1_countRooms_7 : decode cX1_countRooms 7 = .ok (.if_icmp .ge 20, 3) := by decide +kernel
theorem dX1_countRooms_10 : decode cX1_countRooms 10 = .ok (.aload_n 0, 1) := by decide +kernel
theorem dX1_countRooms_11 : decode cX1_countRooms 11 = .ok (.iload_n 2, 1) := by decide +kernel
theorem dX1_countRooms_12 : decode cX1_countRooms 12 = .ok (.invokevirtual 56, 3) := by decide +kernel
theorem dX1_countRooms_15 : decode cX1_countRooms 15 = .ok (.ifCond .eq 6, 3) := by decide +kernel
theorem dX1_countRooms_18 : decode cX1_countRooms 18 = .ok (.iinc 1 1, 3) := by decide +kernel
theorem dX1_countRooms_21 : decode cX1_countRooms 21 = .ok (.iinc 2 1, 3) := by decide +kernel
theorem dX1_countRooms_24 : decode cX1_countRooms 24 = .ok (.goto (-20), 3) := by decide +kernel
theorem dX1_countRooms_27 : decode cX1_countRooms 27 = .ok (.iload_n 1, 1) := by decide +kernel
theorem dX1_countRooms_28 : decode cX1_countRooms 28 = .ok (.ireturn, 1) := by decide +kernel
theorem dX1_isOpenBelow_0 : decode cX1_isOpenBelow 0 = .ok (.iload_n 1, 1) := by decide +kernel
theorem dX1_isOpenBelow_1 : decode cX1_isOpenBelow 1 = .ok (.ifCond .lt 22, 3) := by decide +kernel
theorem dX1_isOpenBelow_4 : decode cX1_isOpenBelow 4 = .ok (.iload_n 1, 1) := by decide +kernel
theorem dX1_isOpenBelow_5 : decode cX1_isOpenBelow 5 = .ok (.bipush 7, 2) := by decide +kernel
theorem dX1_isOpenBelow_7 : decode cX1_isOpenBelow 7 = .ok (.if_icmp .ge 16, 3) := by decide +kernel
theorem dX1_isOpenBelow_10 : decode cX1_isOpenBelow 10 = .ok (.aload_n 0, 1) := by decide +kernel
theorem dX1_isOpenBelow_11 : decode cX1_isOpenBelow 11 = .ok (.getfield 24, 3) := by decide +kernel
theorem dX1_isOpenBelow_14 : decode cX1_isOpenBelow 14 = .ok (.iload_n 1, 1) := by decide +kernel
theorem dX1_isOpenBelow_15 : decode cX1_isOpenBelow 15 = .ok (.iaload, 1) := by decide +kernel
theorem dX1_isOpenBelow_16 : decode cX1_isOpenBelow 16 = .ok (.ifCond .ne 7, 3) := by decide +kernel
theorem dX1_isOpenBelow_19 : decode cX1_isOpenBelow 19 = .ok (.iconst 1, 1) := by decide +kernel
theorem dX1_isOpenBelow_20 : decode cX1_isOpenBelow 20 = .ok (.goto 4, 3) := by decide +kernel
theorem dX1_isOpenBelow_23 : decode cX1_isOpenBelow 23 = .ok (.iconst 0, 1) := by decide +kernel
theorem dX1_isOpenBelow_24 : decode cX1_isOpenBelow 24 = .ok (.ireturn, 1) := by decide +kernel
theorem dX1_isOpenRight_0 : decode cX1_isOpenRight 0 = .ok (.iload_n 1, 1) := by decide +kernel
theorem dX1_isOpenRight_1 : decode cX1_isOpenRight 1 = .ok (.ifCond .lt 25, 3) := by decide +kernel
theorem dX1_isOpenRight_4 : decode cX1_isOpenRight 4 = .ok (.iload_n 1, 1) := by decide +kernel
theorem dX1_isOpenRight_5 : decode cX1_isOpenRight 5 = .ok (.bipush 11, 2) := by decide +kernel
theorem dX1_isOpenRight_7 : decode cX1_isOpenRight 7 = .ok (.if_icmp .ge 19, 3) := by decide +kernel
theorem dX1_isOpenRight_10 : decode cX1_isOpenRight 10 = .ok (.aload_n 0, 1) := by decide +kernel
theorem dX1_isOpenRight_11 : decode cX1_isOpenRight 11 = .ok (.getfield 24, 3) := by decide +kernel
theorem dX1_isOpenRight_14 : decode cX1_isOpenRight 14 = .ok (.bipush 10, 2) := by decide +kernel
theorem dX1_isOpenRight_16 : decode cX1_isOpenRight 16 = .ok (.iload_n 1, 1) := by decide +kernel
theorem dX1_isOpenRight_17 : decode cX1_isOpenRight 17 = .ok (.iadd, 1) := by decide +kernel
theorem dX1_isOpenRight_18 : decode cX1_isOpenRight 18 = .ok (.iaload, 1) := by decide +kernel
theorem dX1_isOpenRight_19 : decode cX1_isOpenRight 19 = .ok (.ifCond .ne 7, 3) := by decide +kernel
theorem dX1_isOpenRight_22 : decode cX1_isOpenRight 22 = .ok (.iconst 1, 1) := by decide +kernel
theorem dX1_isOpenRight_23 : decode cX1_isOpenRight 23 = .ok (.goto 4, 3) := by decide +kernel
theorem dX1_isOpenRight_26 : decode cX1_isOpenRight 26 = .ok (.iconst 0, 1) := by decide +kernel
theorem dX1_isOpenRight_27 : decode cX1_isOpenRight 27 = .ok (.ireturn, 1) := by decide +kernel
theorem dX1_firstOf_0 : decode cX1_firstOf 0 = .ok (.iload_n 2, 1) := by decide +kernel
theorem dX1_firstOf_1 : decode cX1_firstOf 1 = .ok (.istore_n 3, 1) := by decide +kernel
theorem dX1_firstOf_2 : decode cX1_firstOf 2 = .ok (.iload_n 3, 1) := by decide +kernel
theorem dX1_firstOf_3 : decode cX1_firstOf 3 = .ok (.ifCond .le 22, 3) := by decide +kernel
theorem dX1_firstOf_6 : decode cX1_firstOf 6 = .ok (.aload_n 0, 1) := by decide +kernel
theorem dX1_firstOf_7 : decode cX1_firstOf 7 = .ok (.getfield 24, 3) := by decide +kernel
theorem dX1_firstOf_10 : decode cX1_firstOf 10 = .ok (.iload_n 1, 1) := by decide +kernel
theorem dX1_firstOf_11 : decode cX1_firstOf 11 = .ok (.iload_n 3, 1) := by decide +kernel
theorem dX1_firstOf_12 : decode cX1_firstOf 12 = .ok (.iadd, 1) := by decide +kernel
theorem dX1_firstOf_13 : decode cX1_firstOf 13 = .ok (.iconst 1, 1) := by decide +kernel
theorem dX1_firstOf_14 : decode cX1_firstOf 14 = .ok (.isub, 1) := by decide +kernel
theorem dX1_firstOf_15 : decode cX1_firstOf 15 = .ok (.iaload, 1) := by decide +kernel
theorem dX1_firstOf_16 : decode cX1_firstOf 16 = .ok (.ifCond .ne 9, 3) := by decide +kernel
theorem dX1_firstOf_19 : decode cX1_firstOf 19 = .ok (.iinc 3 (-1), 3) := by decide +kernel
theorem dX1_firstOf_22 : decode cX1_firstOf 22 = .ok (.goto (-20), 3) := by decide +kernel
theorem dX1_firstOf_25 : decode cX1_firstOf 25 = .ok (.iload_n 3, 1) := by decide +kernel
theorem dX1_firstOf_26 : decode cX1_firstOf 26 = .ok (.ireturn, 1) := by decide +kernel
theorem dX1_lastOf_0 : decode cX1_lastOf 0 = .ok (.iload_n 2, 1) := by decide +kernel
theorem dX1_lastOf_1 : decode cX1_lastOf 1 = .ok (.istore 4, 2) := by decide +kernel
theorem dX1_lastOf_3 : decode cX1_lastOf 3 = .ok (.iload 4, 2) := by decide +kernel
theorem dX1_lastOf_5 : decode cX1_lastOf 5 = .ok (.iload_n 3, 1) := by decide +kernel
theorem dX1_lastOf_6 : decode cX1_lastOf 6 = .ok (.if_icmp .ge 21, 3) := by decide +kernel
theorem dX1_lastOf_9 : decode cX1_lastOf 9 = .ok (.aload_n 0, 1) := by decide +kernel
theorem dX1_lastOf_10 : decode cX1_lastOf 10 = .ok (.getfield 24, 3) := by decide +kernel
theorem dX1_lastOf_13 : decode cX1_lastOf 13 = .ok (.iload_n 1, 1) := by decide +kernel
theorem dX1_lastOf_14 : decode cX1_lastOf 14 = .ok (.iload 4, 2) := by decide +kernel
theorem dX1_lastOf_16 : decode cX1_lastOf 16 = .ok (.iadd, 1) := by decide +kernel
theorem dX1_lastOf_17 : decode cX1_lastOf 17 = .ok (.iaload, 1) := by decide +kernel
theorem dX1_lastOf_18 : decode cX1_lastOf 18 = .ok (.ifCond .ne 9, 3) := by decide +kernel
theorem dX1_lastOf_21 : decode cX1_lastOf 21 = .ok (.iinc 4 1, 3) := by decide +kernel
theorem dX1_lastOf_24 : decode cX1_lastOf 24 = .ok (.goto (-21), 3) := by decide +kernel
theorem dX1_lastOf_27 : decode cX1_lastOf 27 = .ok (.iload 4, 2) := by decide +kernel
theorem dX1_lastOf_29 : decode cX1_lastOf 29 = .ok (.ireturn, 1) := by decide +kernel
theorem dX2_init_0 : decode cX2_init 0 = .ok (.aload_n 0, 1) := by decide +kernel
theorem dX2_init_1 : decode cX2_init 1 = .ok (.invokespecial 3, 3) := by decide +kernel
theorem dX2_init_4 : decode cX2_init 4 = .ok (.aload_n 0, 1) := by decide +kernel
theorem dX2_init_5 : decode cX2_init 5 = .ok (.bipush 12, 2) := by decide +kernel
theorem dX2_init_7 : decode cX2_init 7 = .ok (.newarray .int, 2) := by decide +kernel
theorem dX2_init_9 : decode cX2_init 9 = .ok (.putfield 9, 3) := by decide +kernel
theorem dX2_init_12 : decode cX2_init 12 = .ok (.aload_n 0, 1) := by decide +kernel
theorem dX2_init_13 : decode cX2_init 13 = .ok (.invokevirtual 15, 3) := by decide +kernel
theorem dX2_init_16 : decode cX2_init 16 = .ok (.return_, 1) := by decide +kernel
theorem dX2_forget_0 : decode cX2_forget 0 = .ok (.aload_n 0, 1) := by decide +kernel
theorem dX2_forget_1 : decode cX2_forget 1 = .ok (.getfield 9, 3) := by decide +kernel
theorem dX2_forget_4 : decode cX2_forget 4 = .ok (.iconst (-1), 1) := by decide +kernel
theorem dX2_forget_5 : decode cX2_forget 5 = .ok (.invokestatic 18, 3) := by decide +kernel
theorem dX2_forget_8 : decode cX2_forget 8 = .ok (.aload_n 0, 1) := by decide +kernel
theorem dX2_forget_9 : decode cX2_forget 9 = .ok (.iconst 0, 1) := by decide +kernel
theorem dX2_forget_10 : decode cX2_forget 10 = .ok (.putfield 24, 3) := by decide +kernel
theorem dX2_forget_13 : decode cX2_forget 13 = .ok (.return_, 1) := by decide +kernel
theorem dX2_copy_0 : decode cX2_copy 0 = .ok (.aload_n 1, 1) := by decide +kernel
theorem dX2_copy_1 : decode cX2_copy 1 = .ok (.getfield 9, 3) := by decide +kernel
theorem dX2_copy_4 : decode cX2_copy 4 = .ok (.iconst 0, 1) := by decide +kernel
theorem dX2_copy_5 : decode cX2_copy 5 = .ok (.aload_n 0, 1) := by decide +kernel
theorem dX2_copy_6 : decode cX2_copy 6 = .ok (.getfield 9, 3) := by decide +kernel
theorem dX2_copy_9 : decode cX2_copy 9 = .ok (.iconst 0, 1) := by decide +kernel
theorem dX2_copy_10 : decode cX2_copy 10 = .ok (.bipush 12, 2) := by decide +kernel
theorem dX2_copy_12 : decode cX2_copy 12 = .ok (.invokestatic 28, 3) := by decide +kernel
theorem dX2_copy_15 : decode cX2_copy 15 = .ok (.aload_n 0, 1) := by decide +kernel
theorem dX2_copy_16 : decode cX2_copy 16 = .ok (.aload_n 1, 1) := by decide +kernel
theorem dX2_copy_17 : decode cX2_copy 17 = .ok (.getfield 24, 3) := by decide +kernel
theorem dX2_copy_20 : decode cX2_copy 20 = .ok (.putfield 24, 3) := by decide +kernel
theorem dX2_copy_23 : decode cX2_copy 23 = .ok (.return_, 1) := by decide +kernel
theorem dX2_crush_0 : decode cX2_crush 0 = .ok (.aload_n 0, 1) := by decide +kernel
theorem dX2_crush_1 : decode cX2_crush 1 = .ok (.invokevirtual 15, 3) := by decide +kernel
theorem dX2_crush_4 : decode cX2_crush 4 = .ok (.iconst 0, 1) := by decide +kernel
theorem dX2_crush_5 : decode cX2_crush 5 = .ok (.istore_n 3, 1) := by decide +kernel
theorem dX2_crush_6 : decode cX2_crush 6 = .ok (.iconst 1, 1) := by decide +kernel
theorem dX2_crush_7 : decode cX2_crush 7 = .ok (.istore 4, 2) := by decide +kernel
theorem dX2_crush_9 : decode cX2_crush 9 = .ok (.iload 4, 2) := by decide +kernel
theorem dX2_crush_11 : decode cX2_crush 11 = .ok (.bipush 13, 2) := by decide +kernel
theorem dX2_crush_13 : decode cX2_crush 13 = .ok (.if_icmp .gt 43, 3) := by decide +kernel
theorem dX2_crush_16 : decode cX2_crush 16 = .ok (.aload_n 2, 1) := by decide +kernel
theorem dX2_crush_17 : decode cX2_crush 17 = .ok (.aload_n 1, 1) := by decide +kernel
theorem dX2_crush_18 : decode cX2_crush 18 = .ok (.invokevirtual 34, 3) := by decide +kernel
theorem dX2_crush_21 : decode cX2_crush 21 = .ok (.aload_n 0, 1) := by decide +kernel
theorem dX2_crush_22 : decode cX2_crush 22 = .ok (.aload_n 1, 1) := by decide +kernel
theorem dX2_crush_23 : decode cX2_crush 23 = .ok (.aload_n 2, 1) := by decide +kernel
theorem dX2_crush_24 : decode cX2_crush 24 = .ok (.iload 4, 2) := by decide +kernel
theorem dX2_crush_26 : decode cX2_crush 26 = .ok (.invokevirtual 40, 3) := by decide +kernel
theorem dX2_crush_29 : decode cX2_crush 29 = .ok (.istore 5, 2) := by decide +kernel
theorem dX2_crush_31 : decode cX2_crush 31 = .ok (.iload 5, 2) := by decide +kernel
theorem dX2_crush_33 : decode cX2_crush 33 = .ok (.ifCond .ne 6, 3) := by decide +kernel
theorem dX2_crush_36 : decode cX2_crush 36 = .ok (.goto 20, 3) := by decide +kernel
theorem dX2_crush_39 : decode cX2_crush 39 = .ok (.iload_n 3, 1) := by decide +kernel
theorem dX2_crush_40 : decode cX2_crush 40 = .ok (.iload 5, 2) := by decide +kernel
theorem dX2_crush_42 : decode cX2_crush 42 = .ok (.iadd, 1) := by decide +kernel
theorem dX2_crush_43 : decode cX2_crush 43 = .ok (.istore_n 3, 1) := by decide +kernel
theorem dX2_crush_44 : decode cX2_crush 44 = .ok (.aload_n 0, 1) := by decide +kernel
theorem dX2_crush_45 : decode cX2_crush 45 = .ok (.iload 4, 2) := by decide +kernel
theorem dX2_crush_47 : decode cX2_crush 47 = .ok (.putfield 24, 3) := by decide +kernel
theorem dX2_crush_50 : decode cX2_crush 50 = .ok (.iinc 4 1, 3) := by decide +kernel
theorem dX2_crush_53 : decode cX2_crush 53 = .ok (.goto (-44), 3) := by decide +kernel
theorem dX2_crush_56 : decode cX2_crush 56 = .ok (.iload_n 3, 1) := by decide +kernel
theorem dX2_crush_57 : decode cX2_crush 57 = .ok (.ireturn, 1) := by decide +kernel
theorem dX2_crushWave_0 : decode cX2_crushWave 0 = .ok (.iconst 0, 1) := by decide +kernel
theorem dX2_crushWave_1 : decode cX2_crushWave 1 = .ok (.istore 4, 2) := by decide +kernel
theorem dX2_crushWave_3 : decode cX2_crushWave 3 = .ok (.iconst 0, 1) := by decide +kernel
theorem dX2_crushWave_4 : decode cX2_crushWave 4 = .ok (.istore 5, 2) := by decide +kernel
theorem dX2_crushWave_6 : decode cX2_crushWave 6 = .ok (.iload 5, 2) := by decide +kernel
theorem dX2_crushWave_8 : decode cX2_crushWave 8 = .ok (.aload_n 1, 1) := by decide +kernel
theorem dX2_crushWave_9 : decode cX2_crushWave 9 = .ok (.getfield 44, 3) := by decide +kernel
theorem dX2_crushWave_12 : decode cX2_crushWave 12 = .ok (.if_icmp .ge 38, 3) := by decide +kernel
theorem dX2_crushWave_15 : decode cX2_crushWave 15 = .ok (.aload_n 2, 1) := by decide +kernel
theorem dX2_crushWave_16 : decode cX2_crushWave 16 = .ok (.aload_n 1, 1) := by decide +kernel
theorem dX2_crushWave_17 : decode cX2_crushWave 17 = .ok (.iload 5, 2) := by decide +kernel
theorem dX2_crushWave_19 : decode cX2_crushWave 19 = .ok (.invokevirtual 49, 3) := by decide +kernel
theorem dX2_crushWave_22 : decode cX2_crushWave 22 = .ok (.ifCond .eq 22, 3) := by decide +kernel
theorem dX2_crushWave_25 : decode cX2_crushWave 25 = .ok (.aload_n 1, 1) := by decide +kernel
theorem dX2_crushWave_26 : decode cX2_crushWave 26 = .ok (.getfield 53, 3) := by decide +kernel
theorem dX2_crushWave_29 : decode cX2_crushWave 29 = .ok (.iload 5, 2) := by decide +kernel
theorem dX2_crushWave_31 : decode cX2_crushWave 31 = .ok (.iconst 0, 1) := by decide +kernel
theorem dX2_crushWave_32 : decode cX2_crushWave 32 = .ok (.iastore, 1) := by decide +kernel
theorem dX2_crushWave_33 : decode cX2_crushWave 33 = .ok (.aload_n 0, 1) := by decide +kernel
theorem dX2_crushWave_34 : decode cX2_crushWave 34 = .ok (.getfield 9, 3) := by decide +kernel
theorem dX2_crushWave_37 : decode cX2_crushWave 37 = .ok (.iload 5, 2) := by decide +kernel
theorem dX2_crushWave_39 : decode cX2_crushWave 39 = .ok (.iload_n 3, 1) := by decide +kernel
theorem dX2_crushWave_40 : decode cX2_crushWave 40 = .ok (.iastore, 1) := by decide +kernel
theorem dX2_crushWave_41 : decode cX2_crushWave 41 = .ok (.iinc 4 1, 3) := by decide +kernel
theorem dX2_crushWave_44 : decode cX2_crushWave 44 = .ok (.iinc 5 1, 3) := by decide +kernel
theorem dX2_crushWave_47 : decode cX2_crushWave 47 = .ok (.goto (-41), 3) := by decide +kernel
theorem dX2_crushWave_50 : decode cX2_crushWave 50 = .ok (.iload 4, 2) := by decide +kernel
theorem dX2_crushWave_52 : decode cX2_crushWave 52 = .ok (.ireturn, 1) := by decide +kernel
theorem dX2_countInWave_0 : decode cX2_countInWave 0 = .ok (.iconst 0, 1) := by decide +kernel
theorem dX2_countInWave_1 : decode cX2_countInWave 1 = .ok (.istore_n 2, 1) := by decide +kernel
theorem dX2_countInWave_2 : decode cX2_countInWave 2 = .ok (.iconst 0, 1) := by decide +kernel
theorem dX2_countInWave_3 : decode cX2_countInWave 3 = .ok (.istore_n 3, 1) := by decide +kernel
theorem dX2_countInWave_4 : decode cX2_countInWave 4 = .ok (.iload_n 3, 1) := by decide +kernel
theorem dX2_countInWave_5 : decode cX2_countInWave 5 = .ok (.bipush 12, 2) := by decide +kernel
theorem dX2_countInWave_7 : decode cX2_countInWave 7 = .ok (.if_icmp .ge 22, 3) := by decide +kernel
theorem dX2_countInWave_10 : decode cX2_countInWave 10 = .ok (.aload_n 0, 1) := by decide +kernel
theorem dX2_countInWave_11 : decode cX2_countInWave 11 = .ok (.getfield 9, 3) := by decide +kernel
theorem dX2_countInWave_14 : decode cX2_countInWave 14 = .ok (.iload_n 3, 1) := by decide +kernel
theorem dX2_countInWave_15 : decode cX2_countInWave 15 = .ok (.iaload, 1) := by decide +kernel
theorem dX2_countInWave_16 : decode cX2_countInWave 16 = .ok (.iload_n 1, 1) := by decide +kernel
theorem dX2_countInWave_17 : decode cX2_countInWave 17 = .ok (.if_icmp .ne 6, 3) := by decide +kernel
theorem dX2_countInWave_20 : decode cX2_countInWave 20 = .ok (.iinc 2 1, 3) := by decide +kernel
theorem dX2_countInWave_23 : decode cX2_countInWave 23 = .ok (.iinc 3 1, 3) := by decide +kernel
theorem dX2_countInWave_26 : decode cX2_countInWave 26 = .ok (.goto (-22), 3) := by decide +kernel
theorem dX2_countInWave_29 : decode cX2_countInWave 29 = .ok (.iload_n 2, 1) := by decide +kernel
theorem dX2_countInWave_30 : decode cX2_countInWave 30 = .ok (.ireturn, 1) := by decide +kernel
theorem dX3_init_0 : decode cX3_init 0 = .ok (.aload_n 0, 1) := by decide +kernel
theorem dX3_init_1 : decode cX3_init 1 = .ok (.invokespecial 3, 3) := by decide +kernel
theorem dX3_init_4 : decode cX3_init 4 = .ok (.aload_n 0, 1) := by decide +kernel
theorem dX3_init_5 : decode cX3_init 5 = .ok (.bipush 6, 2) := by decide +kernel
theorem dX3_init_7 : decode cX3_init 7 = .ok (.anewarray 9, 3) := by decide +kernel
theorem dX3_init_10 : decode cX3_init 10 = .ok (.putfield 11, 3) := by decide +kernel
theorem dX3_init_13 : decode cX3_init 13 = .ok (.iconst 0, 1) := by decide +kernel
theorem dX3_init_14 : decode cX3_init 14 = .ok (.istore_n 1, 1) := by decide +kernel
theorem dX3_init_15 : decode cX3_init 15 = .ok (.iload_n 1, 1) := by decide +kernel
theorem dX3_init_16 : decode cX3_init 16 = .ok (.bipush 6, 2) := by decide +kernel
theorem dX3_init_18 : decode cX3_init 18 = .ok (.if_icmp .ge 22, 3) := by decide +kernel
theorem dX3_init_21 : decode cX3_init 21 = .ok (.aload_n 0, 1) := by decide +kernel
theorem dX3_init_22 : decode cX3_init 22 = .ok (.getfield 11, 3) := by decide +kernel
theorem dX3_init_25 : decode cX3_init 25 = .ok (.iload_n 1, 1) := by decide +kernel
theorem dX3_init_26 : decode cX3_init 26 = .ok (.new 9, 3) := by decide +kernel
theorem dX3_init_29 : decode cX3_init 29 = .ok (.dup, 1) := by decide +kernel
theorem dX3_init_30 : decode cX3_init 30 = .ok (.invokespecial 17, 3) := by decide +kernel
theorem dX3_init_33 : decode cX3_init 33 = .ok (.aastore, 1) := by decide +kernel
theorem dX3_init_34 : decode cX3_init 34 = .ok (.iinc 1 1, 3) := by decide +kernel
theorem dX3_init_37 : decode cX3_init 37 = .ok (.goto (-22), 3) := by decide +kernel
theorem dX3_init_40 : decode cX3_init 40 = .ok (.return_, 1) := by decide +kernel
theorem dX3_keep_0 : decode cX3_keep 0 = .ok (.aload_n 0, 1) := by decide +kernel
theorem dX3_keep_1 : decode cX3_keep 1 = .ok (.getfield 11, 3) := by decide +kernel
theorem dX3_keep_4 : decode cX3_keep 4 = .ok (.aload_n 0, 1) := by decide +kernel
theorem dX3_keep_5 : decode cX3_keep 5 = .ok (.getfield 18, 3) := by decide +kernel
theorem dX3_keep_8 : decode cX3_keep 8 = .ok (.aaload, 1) := by decide +kernel
theorem dX3_keep_9 : decode cX3_keep 9 = .ok (.aload_n 1, 1) := by decide +kernel
theorem dX3_keep_10 : decode cX3_keep 10 = .ok (.invokevirtual 22, 3) := by decide +kernel
theorem dX3_keep_13 : decode cX3_keep 13 = .ok (.aload_n 0, 1) := by decide +kernel
theorem dX3_keep_14 : decode cX3_keep 14 = .ok (.aload_n 0, 1) := by decide +kernel
theorem dX3_keep_15 : decode cX3_keep 15 = .ok (.getfield 18, 3) := by decide +kernel
theorem dX3_keep_18 : decode cX3_keep 18 = .ok (.iconst 1, 1) := by decide +kernel
theorem dX3_keep_19 : decode cX3_keep 19 = .ok (.iadd, 1) := by decide +kernel
theorem dX3_keep_20 : decode cX3_keep 20 = .ok (.bipush 6, 2) := by decide +kernel
theorem dX3_keep_22 : decode cX3_keep 22 = .ok (.irem, 1) := by decide +kernel
theorem dX3_keep_23 : decode cX3_keep 23 = .ok (.putfield 18, 3) := by decide +kernel
theorem dX3_keep_26 : decode cX3_keep 26 = .ok (.aload_n 0, 1) := by decide +kernel
theorem dX3_keep_27 : decode cX3_keep 27 = .ok (.aload_n 0, 1) := by decide +kernel
theorem dX3_keep_28 : decode cX3_keep 28 = .ok (.getfield 26, 3) := by decide +kernel
theorem dX3_keep_31 : decode cX3_keep 31 = .ok (.iconst 1, 1) := by decide +kernel
theorem dX3_keep_32 : decode cX3_keep 32 = .ok (.iadd, 1) := by decide +kernel
theorem dX3_keep_33 : decode cX3_keep 33 = .ok (.bipush 6, 2) := by decide +kernel
theorem dX3_keep_35 : decode cX3_keep 35 = .ok (.invokestatic 29, 3) := by decide +kernel
theorem dX3_keep_38 : decode cX3_keep 38 = .ok (.putfield 26, 3) := by decide +kernel
theorem dX3_keep_41 : decode cX3_keep 41 = .ok (.return_, 1) := by decide +kernel
theorem dX3_giveBack_0 : decode cX3_giveBack 0 = .ok (.aload_n 0, 1) := by decide +kernel
theorem dX3_giveBack_1 : decode cX3_giveBack 1 = .ok (.getfield 26, 3) := by decide +kernel
theorem dX3_giveBack_4 : decode cX3_giveBack 4 = .ok (.ifCond .le 42, 3) := by decide +kernel
theorem dX3_giveBack_7 : decode cX3_giveBack 7 = .ok (.aload_n 0, 1) := by decide +kernel
theorem dX3_giveBack_8 : decode cX3_giveBack 8 = .ok (.aload_n 0, 1) := by decide +kernel
theorem dX3_giveBack_9 : decode cX3_giveBack 9 = .ok (.getfield 18, 3) := by decide +kernel
theorem dX3_giveBack_12 : decode cX3_giveBack 12 = .ok (.bipush 6, 2) := by decide +kernel
theorem dX3_giveBack_14 : decode cX3_giveBack 14 = .ok (.iadd, 1) := by decide +kernel
theorem dX3_giveBack_15 : decode cX3_giveBack 15 = .ok (.iconst 1, 1) := by decide +kernel
theorem dX3_giveBack_16 : decode cX3_giveBack 16 = .ok (.isub, 1) := by decide +kernel
theorem dX3_giveBack_17 : decode cX3_giveBack 17 = .ok (.bipush 6, 2) := by decide +kernel
theorem dX3_giveBack_19 : decode cX3_giveBack 19 = .ok (.irem, 1) := by decide +kernel
theorem dX3_giveBack_20 : decode cX3_giveBack 20 = .ok (.putfield 18, 3) := by decide +kernel
theorem dX3_giveBack_23 : decode cX3_giveBack 23 = .ok (.aload_n 0, 1) := by decide +kernel
theorem dX3_giveBack_24 : decode cX3_giveBack 24 = .ok (.dup, 1) := by decide +kernel
theorem dX3_giveBack_25 : decode cX3_giveBack 25 = .ok (.getfield 26, 3) := by decide +kernel
theorem dX3_giveBack_28 : decode cX3_giveBack 28 = .ok (.iconst 1, 1) := by decide +kernel
theorem dX3_giveBack_29 : decode cX3_giveBack 29 = .ok (.isub, 1) := by decide +kernel
theorem dX3_giveBack_30 : decode cX3_giveBack 30 = .ok (.putfield 26, 3) := by decide +kernel
theorem dX3_giveBack_33 : decode cX3_giveBack 33 = .ok (.aload_n 1, 1) := by decide +kernel
theorem dX3_giveBack_34 : decode cX3_giveBack 34 = .ok (.aload_n 0, 1) := by decide +kernel
theorem dX3_giveBack_35 : decode cX3_giveBack 35 = .ok (.getfield 11, 3) := by decide +kernel
theorem dX3_giveBack_38 : decode cX3_giveBack 38 = .ok (.aload_n 0, 1) := by decide +kernel
theorem dX3_giveBack_39 : decode cX3_giveBack 39 = .ok (.getfield 18, 3) := by decide +kernel
theorem dX3_giveBack_42 : decode cX3_giveBack 42 = .ok (.aaload, 1) := by decide +kernel
theorem dX3_giveBack_43 : decode cX3_giveBack 43 = .ok (.invokevirtual 22, 3) := by decide +kernel
theorem dX3_giveBack_46 : decode cX3_giveBack 46 = .ok (.return_, 1) := by decide +kernel
theorem dX4_init_0 : decode cX4_init 0 = .ok (.aload_n 0, 1) := by decide +kernel
theorem dX4_init_1 : decode cX4_init 1 = .ok (.invokespecial 3, 3) := by decide +kernel
theorem dX4_init_4 : decode cX4_init 4 = .ok (.aload_n 0, 1) := by decide +kernel
theorem dX4_init_5 : decode cX4_init 5 = .ok (.bipush 120, 2) := by decide +kernel
theorem dX4_init_7 : decode cX4_init 7 = .ok (.newarray .int, 2) := by decide +kernel
theorem dX4_init_9 : decode cX4_init 9 = .ok (.putfield 9, 3) := by decide +kernel
theorem dX4_init_12 : decode cX4_init 12 = .ok (.return_, 1) := by decide +kernel
theorem dX4_add_0 : decode cX4_add 0 = .ok (.aload_n 0, 1) := by decide +kernel
theorem dX4_add_1 : decode cX4_add 1 = .ok (.getfield 15, 3) := by decide +kernel
theorem dX4_add_4 : decode cX4_add 4 = .ok (.bipush 120, 2) := by decide +kernel
theorem dX4_add_6 : decode cX4_add 6 = .ok (.if_icmp .ge 23, 3) := by decide +kernel
theorem dX4_add_9 : decode cX4_add 9 = .ok (.aload_n 0, 1) := by decide +kernel
theorem dX4_add_10 : decode cX4_add 10 = .ok (.getfield 9, 3) := by decide +kernel
theorem dX4_add_13 : decode cX4_add 13 = .ok (.aload_n 0, 1) := by decide +kernel
theorem dX4_add_14 : decode cX4_add 14 = .ok (.getfield 15, 3) := by decide +kernel
theorem dX4_add_17 : decode cX4_add 17 = .ok (.iload_n 1, 1) := by decide +kernel
theorem dX4_add_18 : decode cX4_add 18 = .ok (.iastore, 1) := by decide +kernel
theorem dX4_add_19 : decode cX4_add 19 = .ok (.aload_n 0, 1) := by decide +kernel
theorem dX4_add_20 : decode cX4_add 20 = .ok (.dup, 1) := by decide +kernel
theorem dX4_add_21 : decode cX4_add 21 = .ok (.getfield 15, 3) := by decide +kernel
theorem dX4_add_24 : decode cX4_add 24 = .ok (.iconst 1, 1) := by decide +kernel
theorem dX4_add_25 : decode cX4_add 25 = .ok (.iadd, 1) := by decide +kernel
theorem dX4_add_26 : decode cX4_add 26 = .ok (.putfield 15, 3) := by decide +kernel
theorem dX4_add_29 : decode cX4_add 29 = .ok (.return_, 1) := by decide +kernel
theorem dX4_read_0 : decode cX4_read 0 = .ok (.aload_n 0, 1) := by decide +kernel
theorem dX4_read_1 : decode cX4_read 1 = .ok (.iconst 0, 1) := by decide +kernel
theorem dX4_read_2 : decode cX4_read 2 = .ok (.putfield 19, 3) := by decide +kernel
theorem dX4_read_5 : decode cX4_read 5 = .ok (.aload_n 0, 1) := by decide +kernel
theorem dX4_read_6 : decode cX4_read 6 = .ok (.iconst (-1), 1) := by decide +kernel
theorem dX4_read_7 : decode cX4_read 7 = .ok (.putfield 22, 3) := by decide +kernel
theorem dX4_read_10 : decode cX4_read 10 = .ok (.aload_n 0, 1) := by decide +kernel
theorem dX4_read_11 : decode cX4_read 11 = .ok (.invokevirtual 25, 3) := by decide +kernel
theorem dX4_read_14 : decode cX4_read 14 = .ok (.aload_n 0, 1) := by decide +kernel
theorem dX4_read_15 : decode cX4_read 15 = .ok (.getfield 19, 3) := by decide +kernel
theorem dX4_read_18 : decode cX4_read 18 = .ok (.aload_n 0, 1) := by decide +kernel
theorem dX4_read_19 : decode cX4_read 19 = .ok (.getfield 15, 3) := by decide +kernel
theorem dX4_read_22 : decode cX4_read 22 = .ok (.if_icmp .lt 11, 3) := by decide +kernel
theorem dX4_read_25 : decode cX4_read 25 = .ok (.aload_n 0, 1) := by decide +kernel
theorem dX4_read_26 : decode cX4_read 26 = .ok (.aload_n 0, 1) := by decide +kernel
theorem dX4_read_27 : decode cX4_read 27 = .ok (.getfield 15, 3) := by decide +kernel
theorem dX4_read_30 : decode cX4_read 30 = .ok (.invokevirtual 28, 3) := by decide +kernel
theorem dX4_read_33 : decode cX4_read 33 = .ok (.iconst 0, 1) := by decide +kernel
theorem dX4_read_34 : decode cX4_read 34 = .ok (.istore_n 2, 1) := by decide +kernel
theorem dX4_read_35 : decode cX4_read 35 = .ok (.iload_n 2, 1) := by decide +kernel
theorem dX4_read_36 : decode cX4_read 36 = .ok (.bipush 120, 2) := by decide +kernel
theorem dX4_read_38 : decode cX4_read 38 = .ok (.if_icmp .ge 37, 3) := by decide +kernel
theorem dX4_read_41 : decode cX4_read 41 = .ok (.aload_n 0, 1) := by decide +kernel
theorem dX4_read_42 : decode cX4_read 42 = .ok (.getfield 19, 3) := by decide +kernel
theorem dX4_read_45 : decode cX4_read 45 = .ok (.aload_n 0, 1) := by decide +kernel
theorem dX4_read_46 : decode cX4_read 46 = .ok (.getfield 15, 3) := by decide +kernel
theorem dX4_read_49 : decode cX4_read 49 = .ok (.if_icmp .ge 26, 3) := by decide +kernel
theorem dX4_read_52 : decode cX4_read 52 = .ok (.aload_n 0, 1) := by decide +kernel
theorem dX4_read_53 : decode cX4_read 53 = .ok (.getfield 22, 3) := by decide +kernel
theorem dX4_read_56 : decode cX4_read 56 = .ok (.iconst (-1), 1) := by decide +kernel
theorem dX4_read_57 : decode cX4_read 57 = .ok (.if_icmp .ne 18, 3) := by decide +kernel
theorem dX4_read_60 : decode cX4_read 60 = .ok (.aload_n 0, 1) := by decide +kernel
theorem dX4_read_61 : decode cX4_read 61 = .ok (.aload_n 1, 1) := by decide +kernel
theorem dX4_read_62 : decode cX4_read 62 = .ok (.invokevirtual 32, 3) := by decide +kernel
theorem dX4_read_65 : decode cX4_read 65 = .ok (.aload_n 0, 1) := by decide +kernel
theorem dX4_read_66 : decode cX4_read 66 = .ok (.invokevirtual 25, 3) := by decide +kernel
theorem dX4_read_69 : decode cX4_read 69 = .ok (.iinc 2 1, 3) := by decide +kernel
theorem dX4_read_72 : decode cX4_read 72 = .ok (.goto (-37), 3) := by decide +kernel
theorem dX4_read_75 : decode cX4_read 75 = .ok (.aload_n 0, 1) := by decide +kernel
theorem dX4_read_76 : decode cX4_read 76 = .ok (.getfield 22, 3) := by decide +kernel
theorem dX4_read_79 : decode cX4_read 79 = .ok (.ireturn, 1) := by decide +kernel
theorem dX4_readOrder_0 : decode cX4_readOrder 0 = .ok (.aload_n 0, 1) := by decide +kernel
theorem dX4_readOrder_1 : decode cX4_readOrder 1 = .ok (.getfield 19, 3) := by decide +kernel
theorem dX4_readOrder_4 : decode cX4_readOrder 4 = .ok (.istore_n 2, 1) := by decide +kernel
theorem dX4_readOrder_5 : decode cX4_readOrder 5 = .ok (.aload_n 0, 1) := by decide +kernel
theorem dX4_readOrder_6 : decode cX4_readOrder 6 = .ok (.dup, 1) := by decide +kernel
theorem dX4_readOrder_7 : decode cX4_readOrder 7 = .ok (.getfield 19, 3) := by decide +kernel
theorem dX4_readOrder_10 : decode cX4_readOrder 10 = .ok (.iconst 1, 1) := by decide +kernel
theorem dX4_readOrder_11 : decode cX4_readOrder 11 = .ok (.iadd, 1) := by decide +kernel
theorem dX4_readOrder_12 : decode cX4_readOrder 12 = .ok (.putfield 19, 3) := by decide +kernel
theorem dX4_readOrder_15 : decode cX4_readOrder 15 = .ok (.aload_n 0, 1) := by decide +kernel
theorem dX4_readOrder_16 : decode cX4_readOrder 16 = .ok (.getfield 9, 3) := by decide +kernel
theorem dX4_readOrder_19 : decode cX4_readOrder 19 = .ok (.iload_n 2, 1) := by decide +kernel
theorem dX4_readOrder_20 : decode cX4_readOrder 20 = .ok (.iaload, 1) := by decide +kernel
theorem dX4_readOrder_21 : decode cX4_readOrder 21 = .ok (.lookupswitch 142 #[(33, 122), (45, 82), (47, 96), (112, 59), (119, 71), (120, 111)], 59) := by decide +kernel
theorem dX4_readOrder_80 : decode cX4_readOrder 80 = .ok (.aload_n 0, 1) := by decide +kernel
theorem dX4_readOrder_81 : decode cX4_readOrder 81 = .ok (.aload_n 1, 1) := by decide +kernel
theorem dX4_readOrder_82 : decode cX4_readOrder 82 = .ok (.getfield 36, 3) := by decide +kernel
theorem dX4_readOrder_85 : decode cX4_readOrder 85 = .ok (.iload_n 2, 1) := by decide +kernel
theorem dX4_readOrder_86 : decode cX4_readOrder 86 = .ok (.invokevirtual 42, 3) := by decide +kernel
theorem dX4_readOrder_89 : decode cX4_readOrder 89 = .ok (.goto 79, 3) := by decide +kernel
theorem dX4_readOrder_92 : decode cX4_readOrder 92 = .ok (.aload_n 0, 1) := by decide +kernel
theorem dX4_readOrder_93 : decode cX4_readOrder 93 = .ok (.aload_n 1, 1) := by decide +kernel
theorem dX4_readOrder_94 : decode cX4_readOrder 94 = .ok (.getfield 36, 3) := by decide +kernel
theorem dX4_readOrder_97 : decode cX4_readOrder 97 = .ok (.invokevirtual 46, 3) := by decide +kernel
theorem dX4_readOrder_100 : decode cX4_readOrder 100 = .ok (.goto 68, 3) := by decide +kernel
theorem dX4_readOrder_103 : decode cX4_readOrder 103 = .ok (.aload_n 0, 1) := by decide +kernel
theorem dX4_readOrder_104 : decode cX4_readOrder 104 = .ok (.aload_n 1, 1) := by decide +kernel
theorem dX4_readOrder_105 : decode cX4_readOrder 105 = .ok (.getfield 36, 3) := by decide +kernel
theorem dX4_readOrder_108 : decode cX4_readOrder 108 = .ok (.iconst 0, 1) := by decide +kernel
theorem dX4_readOrder_109 : decode cX4_readOrder 109 = .ok (.bipush 6, 2) := by decide +kernel
theorem dX4_readOrder_111 : decode cX4_readOrder 111 = .ok (.invokevirtual 50, 3) := by decide +kernel
theorem dX4_readOrder_114 : decode cX4_readOrder 114 = .ok (.goto 54, 3) := by decide +kernel
theorem dX4_readOrder_117 : decode cX4_readOrder 117 = .ok (.aload_n 0, 1) := by decide +kernel
theorem dX4_readOrder_118 : decode cX4_readOrder 118 = .ok (.aload_n 1, 1) := by decide +kernel
theorem dX4_readOrder_119 : decode cX4_readOrder 119 = .ok (.getfield 36, 3) := by decide +kernel
theorem dX4_readOrder_122 : decode cX4_readOrder 122 = .ok (.bipush 10, 2) := by decide +kernel
theorem dX4_readOrder_124 : decode cX4_readOrder 124 = .ok (.bipush 10, 2) := by decide +kernel
theorem dX4_readOrder_126 : decode cX4_readOrder 126 = .ok (.invokevirtual 50, 3) := by decide +kernel
theorem dX4_readOrder_129 : decode cX4_readOrder 129 = .ok (.goto 39, 3) := by decide +kernel
theorem dX4_readOrder_132 : decode cX4_readOrder 132 = .ok (.aload_n 0, 1) := by decide +kernel
theorem dX4_readOrder_133 : decode cX4_readOrder 133 = .ok (.aload_n 1, 1) := by decide +kernel
theorem dX4_readOrder_134 : decode cX4_readOrder 134 = .ok (.getfield 36, 3) := by decide +kernel
theorem dX4_readOrder_137 : decode cX4_readOrder 137 = .ok (.invokevirtual 54, 3) := by decide +kernel
theorem dX4_readOrder_140 : decode cX4_readOrder 140 = .ok (.goto 28, 3) := by decide +kernel
theorem dX4_readOrder_143 : decode cX4_readOrder 143 = .ok (.aload_n 0, 1) := by decide +kernel
theorem dX4_readOrder_144 : decode cX4_readOrder 144 = .ok (.invokevirtual 57, 3) := by decide +kernel
theorem dX4_readOrder_147 : decode cX4_readOrder 147 = .ok (.aload_n 0, 1) := by decide +kernel
theorem dX4_readOrder_148 : decode cX4_readOrder 148 = .ok (.getfield 22, 3) := by decide +kernel
theorem dX4_readOrder_151 : decode cX4_readOrder 151 = .ok (.iconst (-1), 1) := by decide +kernel
theorem dX4_readOrder_152 : decode cX4_readOrder 152 = .ok (.if_icmp .ne 16, 3) := by decide +kernel
theorem dX4_readOrder_155 : decode cX4_readOrder 155 = .ok (.aload_n 1, 1) := by decide +kernel
theorem dX4_readOrder_156 : decode cX4_readOrder 156 = .ok (.invokevirtual 60, 3) := by decide +kernel
theorem dX4_readOrder_159 : decode cX4_readOrder 159 = .ok (.pop, 1) := by decide +kernel
theorem dX4_readOrder_160 : decode cX4_readOrder 160 = .ok (.goto 8, 3) := by decide +kernel
theorem dX4_readOrder_163 : decode cX4_readOrder 163 = .ok (.aload_n 0, 1) := by decide +kernel
theorem dX4_readOrder_164 : decode cX4_readOrder 164 = .ok (.iload_n 2, 1) := by decide +kernel
theorem dX4_readOrder_165 : decode cX4_readOrder 165 = .ok (.invokevirtual 28, 3) := by decide +kernel
theorem dX4_readOrder_168 : decode cX4_readOrder 168 = .ok (.return_, 1) := by decide +kernel
theorem dX4_readPillar_0 : decode cX4_readPillar 0 = .ok (.aload_n 1, 1) := by decide +kernel
theorem dX4_readPillar_1 : decode cX4_readPillar 1 = .ok (.getfield 64, 3) := by decide +kernel
theorem dX4_readPillar_4 : decode cX4_readPillar 4 = .ok (.bipush 12, 2) := by decide +kernel
theorem dX4_readPillar_6 : decode cX4_readPillar 6 = .ok (.if_icmp .lt 8, 3) := by decide +kernel
theorem dX4_readPillar_9 : decode cX4_readPillar 9 = .ok (.aload_n 0, 1) := by decide +kernel
theorem dX4_readPillar_10 : decode cX4_readPillar 10 = .ok (.iload_n 2, 1) := by decide +kernel
theorem dX4_readPillar_11 : decode cX4_readPillar 11 = .ok (.invokevirtual 28, 3) := by decide +kernel
theorem dX4_readPillar_14 : decode cX4_readPillar 14 = .ok (.aload_n 0, 1) := by decide +kernel
theorem dX4_readPillar_15 : decode cX4_readPillar 15 = .ok (.invokevirtual 69, 3) := by decide +kernel
theorem dX4_readPillar_18 : decode cX4_readPillar 18 = .ok (.istore_n 3, 1) := by decide +kernel
theorem dX4_readPillar_19 : decode cX4_readPillar 19 = .ok (.aload_n 0, 1) := by decide +kernel
theorem dX4_readPillar_20 : decode cX4_readPillar 20 = .ok (.sipush 999, 3) := by decide +kernel
theorem dX4_readPillar_23 : decode cX4_readPillar 23 = .ok (.invokevirtual 72, 3) := by decide +kernel
theorem dX4_readPillar_26 : decode cX4_readPillar 26 = .ok (.istore 4, 2) := by decide +kernel
theorem dX4_readPillar_28 : decode cX4_readPillar 28 = .ok (.aload_n 0, 1) := by decide +kernel
theorem dX4_readPillar_29 : decode cX4_readPillar 29 = .ok (.invokevirtual 57, 3) := by decide +kernel
theorem dX4_readPillar_32 : decode cX4_readPillar 32 = .ok (.aload_n 1, 1) := by decide +kernel
theorem dX4_readPillar_33 : decode cX4_readPillar 33 = .ok (.iload_n 3, 1) := by decide +kernel
theorem dX4_readPillar_34 : decode cX4_readPillar 34 = .ok (.invokevirtual 76, 3) := by decide +kernel
theorem dX4_readPillar_37 : decode cX4_readPillar 37 = .ok (.ifCond .eq 8, 3) := by decide +kernel
theorem dX4_readPillar_40 : decode cX4_readPillar 40 = .ok (.aload_n 0, 1) := by decide +kernel
theorem dX4_readPillar_41 : decode cX4_readPillar 41 = .ok (.iload_n 2, 1) := by decide +kernel
theorem dX4_readPillar_42 : decode cX4_readPillar 42 = .ok (.invokevirtual 28, 3) := by decide +kernel
theorem dX4_readPillar_45 : decode cX4_readPillar 45 = .ok (.aload_n 0, 1) := by decide +kernel
theorem dX4_readPillar_46 : decode cX4_readPillar 46 = .ok (.getfield 22, 3) := by decide +kernel
theorem dX4_readPillar_49 : decode cX4_readPillar 49 = .ok (.iconst (-1), 1) := by decide +kernel
theorem dX4_readPillar_50 : decode cX4_readPillar 50 = .ok (.if_icmp .ne 10, 3) := by decide +kernel
theorem dX4_readPillar_53 : decode cX4_readPillar 53 = .ok (.aload_n 1, 1) := by decide +kernel
theorem dX4_readPillar_54 : decode cX4_readPillar 54 = .ok (.iload_n 3, 1) := by decide +kernel
theorem dX4_readPillar_55 : decode cX4_readPillar 55 = .ok (.iload 4, 2) := by decide +kernel
theorem dX4_readPillar_57 : decode cX4_readPillar 57 = .ok (.invokevirtual 80, 3) := by decide +kernel
theorem dX4_readPillar_60 : decode cX4_readPillar 60 = .ok (.return_, 1) := by decide +kernel
theorem dX4_readWeight_0 : decode cX4_readWeight 0 = .ok (.aload_n 0, 1) := by decide +kernel
theorem dX4_readWeight_1 : decode cX4_readWeight 1 = .ok (.invokevirtual 69, 3) := by decide +kernel
theorem dX4_readWeight_4 : decode cX4_readWeight 4 = .ok (.istore_n 2, 1) := by decide +kernel
theorem dX4_readWeight_5 : decode cX4_readWeight 5 = .ok (.aload_n 0, 1) := by decide +kernel
theorem dX4_readWeight_6 : decode cX4_readWeight 6 = .ok (.bipush 9, 2) := by decide +kernel
theorem dX4_readWeight_8 : decode cX4_readWeight 8 = .ok (.invokevirtual 72, 3) := by decide +kernel
theorem dX4_readWeight_11 : decode cX4_readWeight 11 = .ok (.istore_n 3, 1) := by decide +kernel
theorem dX4_readWeight_12 : decode cX4_readWeight 12 = .ok (.aload_n 0, 1) := by decide +kernel
theorem dX4_readWeight_13 : decode cX4_readWeight 13 = .ok (.invokevirtual 57, 3) := by decide +kernel
theorem dX4_readWeight_16 : decode cX4_readWeight 16 = .ok (.aload_n 0, 1) := by decide +kernel
theorem dX4_readWeight_17 : decode cX4_readWeight 17 = .ok (.getfield 22, 3) := by decide +kernel
theorem dX4_readWeight_20 : decode cX4_readWeight 20 = .ok (.iconst (-1), 1) := by decide +kernel
theorem dX4_readWeight_21 : decode cX4_readWeight 21 = .ok (.if_icmp .ne 10, 3) := by decide +kernel
theorem dX4_readWeight_24 : decode cX4_readWeight 24 = .ok (.aload_n 1, 1) := by decide +kernel
theorem dX4_readWeight_25 : decode cX4_readWeight 25 = .ok (.getfield 84, 3) := by decide +kernel
theorem dX4_readWeight_28 : decode cX4_readWeight 28 = .ok (.iload_n 2, 1) := by decide +kernel
theorem dX4_readWeight_29 : decode cX4_readWeight 29 = .ok (.iload_n 3, 1) := by decide +kernel
theorem dX4_readWeight_30 : decode cX4_readWeight 30 = .ok (.iastore, 1) := by decide +kernel
theorem dX4_readWeight_31 : decode cX4_readWeight 31 = .ok (.return_, 1) := by decide +kernel
theorem dX4_readWall_0 : decode cX4_readWall 0 = .ok (.iload_n 2, 1) := by decide +kernel
theorem dX4_readWall_1 : decode cX4_readWall 1 = .ok (.aload_n 0, 1) := by decide +kernel
theorem dX4_readWall_2 : decode cX4_readWall 2 = .ok (.iload_n 3, 1) := by decide +kernel
theorem dX4_readWall_3 : decode cX4_readWall 3 = .ok (.invokevirtual 72, 3) := by decide +kernel
theorem dX4_readWall_6 : decode cX4_readWall 6 = .ok (.iadd, 1) := by decide +kernel
theorem dX4_readWall_7 : decode cX4_readWall 7 = .ok (.istore 4, 2) := by decide +kernel
theorem dX4_readWall_9 : decode cX4_readWall 9 = .ok (.aload_n 0, 1) := by decide +kernel
theorem dX4_readWall_10 : decode cX4_readWall 10 = .ok (.invokevirtual 57, 3) := by decide +kernel
theorem dX4_readWall_13 : decode cX4_readWall 13 = .ok (.aload_n 0, 1) := by decide +kernel
theorem dX4_readWall_14 : decode cX4_readWall 14 = .ok (.getfield 22, 3) := by decide +kernel
theorem dX4_readWall_17 : decode cX4_readWall 17 = .ok (.iconst (-1), 1) := by decide +kernel
theorem dX4_readWall_18 : decode cX4_readWall 18 = .ok (.if_icmp .ne 11, 3) := by decide +kernel
theorem dX4_readWall_21 : decode cX4_readWall 21 = .ok (.aload_n 1, 1) := by decide +kernel
theorem dX4_readWall_22 : decode cX4_readWall 22 = .ok (.getfield 87, 3) := by decide +kernel
theorem dX4_readWall_25 : decode cX4_readWall 25 = .ok (.iload 4, 2) := by decide +kernel
theorem dX4_readWall_27 : decode cX4_readWall 27 = .ok (.iconst 1, 1) := by decide +kernel
theorem dX4_readWall_28 : decode cX4_readWall 28 = .ok (.iastore, 1) := by decide +kernel
theorem dX4_readWall_29 : decode cX4_readWall 29 = .ok (.return_, 1) := by decide +kernel
theorem dX4_readCrushed_0 : decode cX4_readCrushed 0 = .ok (.aload_n 0, 1) := by decide +kernel
theorem dX4_readCrushed_1 : decode cX4_readCrushed 1 = .ok (.bipush 11, 2) := by decide +kernel
theorem dX4_readCrushed_3 : decode cX4_readCrushed 3 = .ok (.invokevirtual 72, 3) := by decide +kernel
theorem dX4_readCrushed_6 : decode cX4_readCrushed 6 = .ok (.istore_n 2, 1) := by decide +kernel
theorem dX4_readCrushed_7 : decode cX4_readCrushed 7 = .ok (.aload_n 1, 1) := by decide +kernel
theorem dX4_readCrushed_8 : decode cX4_readCrushed 8 = .ok (.iload_n 2, 1) := by decide +kernel
theorem dX4_readCrushed_9 : decode cX4_readCrushed 9 = .ok (.invokevirtual 90, 3) := by decide +kernel
theorem dX4_readCrushed_12 : decode cX4_readCrushed 12 = .ok (.ifCond .ne 11, 3) := by decide +kernel
theorem dX4_readCrushed_15 : decode cX4_readCrushed 15 = .ok (.aload_n 0, 1) := by decide +kernel
theorem dX4_readCrushed_16 : decode cX4_readCrushed 16 = .ok (.aload_n 0, 1) := by decide +kernel
theorem dX4_readCrushed_17 : decode cX4_readCrushed 17 = .ok (.getfield 93, 3) := by decide +kernel
theorem dX4_readCrushed_20 : decode cX4_readCrushed 20 = .ok (.invokevirtual 28, 3) := by decide +kernel
theorem dX4_readCrushed_23 : decode cX4_readCrushed 23 = .ok (.aload_n 0, 1) := by decide +kernel
theorem dX4_readCrushed_24 : decode cX4_readCrushed 24 = .ok (.invokevirtual 57, 3) := by decide +kernel
theorem dX4_readCrushed_27 : decode cX4_readCrushed 27 = .ok (.aload_n 0, 1) := by decide +kernel
theorem dX4_readCrushed_28 : decode cX4_readCrushed 28 = .ok (.getfield 22, 3) := by decide +kernel
theorem dX4_readCrushed_31 : decode cX4_readCrushed 31 = .ok (.iconst (-1), 1) := by decide +kernel
theorem dX4_readCrushed_32 : decode cX4_readCrushed 32 = .ok (.if_icmp .ne 10, 3) := by decide +kernel
theorem dX4_readCrushed_35 : decode cX4_readCrushed 35 = .ok (.aload_n 1, 1) := by decide +kernel
theorem dX4_readCrushed_36 : decode cX4_readCrushed 36 = .ok (.getfield 96, 3) := by decide +kernel
theorem dX4_readCrushed_39 : decode cX4_readCrushed 39 = .ok (.iload_n 2, 1) := by decide +kernel
theorem dX4_readCrushed_40 : decode cX4_readCrushed 40 = .ok (.iconst 0, 1) := by decide +kernel
theorem dX4_readCrushed_41 : decode cX4_readCrushed 41 = .ok (.iastore, 1) := by decide +kernel
theorem dX4_readCrushed_42 : decode cX4_readCrushed 42 = .ok (.return_, 1) := by decide +kernel
theorem dX4_readCell_0 : decode cX4_readCell 0 = .ok (.aload_n 0, 1) := by decide +kernel
theorem dX4_readCell_1 : decode cX4_readCell 1 = .ok (.bipush 7, 2) := by decide +kernel
theorem dX4_readCell_3 : decode cX4_readCell 3 = .ok (.invokevirtual 72, 3) := by decide +kernel
theorem dX4_readCell_6 : decode cX4_readCell 6 = .ok (.istore_n 1, 1) := by decide +kernel
theorem dX4_readCell_7 : decode cX4_readCell 7 = .ok (.aload_n 0, 1) := by decide +kernel
theorem dX4_readCell_8 : decode cX4_readCell 8 = .ok (.bipush 11, 2) := by decide +kernel
theorem dX4_readCell_10 : decode cX4_readCell 10 = .ok (.invokevirtual 72, 3) := by decide +kernel
theorem dX4_readCell_13 : decode cX4_readCell 13 = .ok (.istore_n 2, 1) := by decide +kernel
theorem dX4_readCell_14 : decode cX4_readCell 14 = .ok (.bipush 12, 2) := by decide +kernel
theorem dX4_readCell_16 : decode cX4_readCell 16 = .ok (.iload_n 1, 1) := by decide +kernel
theorem dX4_readCell_17 : decode cX4_readCell 17 = .ok (.imul, 1) := by decide +kernel
theorem dX4_readCell_18 : decode cX4_readCell 18 = .ok (.iload_n 2, 1) := by decide +kernel
theorem dX4_readCell_19 : decode cX4_readCell 19 = .ok (.iadd, 1) := by decide +kernel
theorem dX4_readCell_20 : decode cX4_readCell 20 = .ok (.ireturn, 1) := by decide +kernel
theorem dX4_readNumber_0 : decode cX4_readNumber 0 = .ok (.aload_n 0, 1) := by decide +kernel
theorem dX4_readNumber_1 : decode cX4_readNumber 1 = .ok (.invokevirtual 25, 3) := by decide +kernel
theorem dX4_readNumber_4 : decode cX4_readNumber 4 = .ok (.aload_n 0, 1) := by decide +kernel
theorem dX4_readNumber_5 : decode cX4_readNumber 5 = .ok (.aload_n 0, 1) := by decide +kernel
theorem dX4_readNumber_6 : decode cX4_readNumber 6 = .ok (.getfield 19, 3) := by decide +kernel
theorem dX4_readNumber_9 : decode cX4_readNumber 9 = .ok (.putfield 93, 3) := by decide +kernel
theorem dX4_readNumber_12 : decode cX4_readNumber 12 = .ok (.iconst 0, 1) := by decide +kernel
theorem dX4_readNumber_13 : decode cX4_readNumber 13 = .ok (.istore_n 2, 1) := by decide +kernel
theorem dX4_readNumber_14 : decode cX4_readNumber 14 = .ok (.aload_n 0, 1) := by decide +kernel
theorem dX4_readNumber_15 : decode cX4_readNumber 15 = .ok (.getfield 19, 3) := by decide +kernel
theorem dX4_readNumber_18 : decode cX4_readNumber 18 = .ok (.aload_n 0, 1) := by decide +kernel
theorem dX4_readNumber_19 : decode cX4_readNumber 19 = .ok (.getfield 15, 3) := by decide +kernel
theorem dX4_readNumber_22 : decode cX4_readNumber 22 = .ok (.if_icmp .ge 49, 3) := by decide +kernel
theorem dX4_readNumber_25 : decode cX4_readNumber 25 = .ok (.aload_n 0, 1) := by decide +kernel
theorem dX4_readNumber_26 : decode cX4_readNumber 26 = .ok (.getfield 9, 3) := by decide +kernel
theorem dX4_readNumber_29 : decode cX4_readNumber 29 = .ok (.aload_n 0, 1) := by decide +kernel
theorem dX4_readNumber_30 : decode cX4_readNumber 30 = .ok (.getfield 19, 3) := by decide +kernel
theorem dX4_readNumber_33 : decode cX4_readNumber 33 = .ok (.iaload, 1) := by decide +kernel
theorem dX4_readNumber_34 : decode cX4_readNumber 34 = .ok (.invokestatic 99, 3) := by decide +kernel
theorem dX4_readNumber_37 : decode cX4_readNumber 37 = .ok (.ifCond .eq 34, 3) := by decide +kernel
theorem dX4_readNumber_40 : decode cX4_readNumber 40 = .ok (.bipush 10, 2) := by decide +kernel
theorem dX4_readNumber_42 : decode cX4_readNumber 42 = .ok (.iload_n 2, 1) := by decide +kernel
theorem dX4_readNumber_43 : decode cX4_readNumber 43 = .ok (.imul, 1) := by decide +kernel
theorem dX4_readNumber_44 : decode cX4_readNumber 44 = .ok (.aload_n 0, 1) := by decide +kernel
theorem dX4_readNumber_45 : decode cX4_readNumber 45 = .ok (.getfield 9, 3) := by decide +kernel
theorem dX4_readNumber_48 : decode cX4_readNumber 48 = .ok (.aload_n 0, 1) := by decide +kernel
theorem dX4_readNumber_49 : decode cX4_readNumber 49 = .ok (.getfield 19, 3) := by decide +kernel
theorem dX4_readNumber_52 : decode cX4_readNumber 52 = .ok (.iaload, 1) := by decide +kernel
theorem dX4_readNumber_53 : decode cX4_readNumber 53 = .ok (.iadd, 1) := by decide +kernel
theorem dX4_readNumber_54 : decode cX4_readNumber 54 = .ok (.bipush 48, 2) := by decide +kernel
theorem dX4_readNumber_56 : decode cX4_readNumber 56 = .ok (.isub, 1) := by decide +kernel
theorem dX4_readNumber_57 : decode cX4_readNumber 57 = .ok (.istore_n 2, 1) := by decide +kernel
theorem dX4_readNumber_58 : decode cX4_readNumber 58 = .ok (.aload_n 0, 1) := by decide +kernel
theorem dX4_readNumber_59 : decode cX4_readNumber 59 = .ok (.dup, 1) := by decide +kernel
theorem dX4_readNumber_60 : decode cX4_readNumber 60 = .ok (.getfield 19, 3) := by decide +kernel
theorem dX4_readNumber_63 : decode cX4_readNumber 63 = .ok (.iconst 1, 1) := by decide +kernel
theorem dX4_readNumber_64 : decode cX4_readNumber 64 = .ok (.iadd, 1) := by decide +kernel
theorem dX4_readNumber_65 : decode cX4_readNumber 65 = .ok (.putfield 19, 3) := by decide +kernel
theorem dX4_readNumber_68 : decode cX4_readNumber 68 = .ok (.goto (-54), 3) := by decide +kernel
theorem dX4_readNumber_71 : decode cX4_readNumber 71 = .ok (.aload_n 0, 1) := by decide +kernel
theorem dX4_readNumber_72 : decode cX4_readNumber 72 = .ok (.getfield 19, 3) := by decide +kernel
theorem dX4_readNumber_75 : decode cX4_readNumber 75 = .ok (.aload_n 0, 1) := by decide +kernel
theorem dX4_readNumber_76 : decode cX4_readNumber 76 = .ok (.getfield 93, 3) := by decide +kernel
theorem dX4_readNumber_79 : decode cX4_readNumber 79 = .ok (.isub, 1) := by decide +kernel
theorem dX4_readNumber_80 : decode cX4_readNumber 80 = .ok (.istore_n 3, 1) := by decide +kernel
theorem dX4_readNumber_81 : decode cX4_readNumber 81 = .ok (.iload_n 3, 1) := by decide +kernel
theorem dX4_readNumber_82 : decode cX4_readNumber 82 = .ok (.iconst 1, 1) := by decide +kernel
theorem dX4_readNumber_83 : decode cX4_readNumber 83 = .ok (.if_icmp .lt 13, 3) := by decide +kernel
theorem dX4_readNumber_86 : decode cX4_readNumber 86 = .ok (.iload_n 3, 1) := by decide +kernel
theorem dX4_readNumber_87 : decode cX4_readNumber 87 = .ok (.iconst 3, 1) := by decide +kernel
theorem dX4_readNumber_88 : decode cX4_readNumber 88 = .ok (.if_icmp .gt 8, 3) := by decide +kernel
theorem dX4_readNumber_91 : decode cX4_readNumber 91 = .ok (.iload_n 2, 1) := by decide +kernel
theorem dX4_readNumber_92 : decode cX4_readNumber 92 = .ok (.iload_n 1, 1) := by decide +kernel
theorem dX4_readNumber_93 : decode cX4_readNumber 93 = .ok (.if_icmp .le 11, 3) := by decide +kernel
theorem dX4_readNumber_96 : decode cX4_readNumber 96 = .ok (.aload_n 0, 1) := by decide +kernel
theorem dX4_readNumber_97 : decode cX4_readNumber 97 = .ok (.aload_n 0, 1) := by decide +kernel
theorem dX4_readNumber_98 : decode cX4_readNumber 98 = .ok (.getfield 93, 3) := by decide +kernel
theorem dX4_readNumber_101 : decode cX4_readNumber 101 = .ok (.invokevirtual 28, 3) := by decide +kernel
theorem dX4_readNumber_104 : decode cX4_readNumber 104 = .ok (.aload_n 0, 1) := by decide +kernel
theorem dX4_readNumber_105 : decode cX4_readNumber 105 = .ok (.getfield 22, 3) := by decide +kernel
theorem dX4_readNumber_108 : decode cX4_readNumber 108 = .ok (.iconst (-1), 1) := by decide +kernel
theorem dX4_readNumber_109 : decode cX4_readNumber 109 = .ok (.if_icmp .ne 7, 3) := by decide +kernel
theorem dX4_readNumber_112 : decode cX4_readNumber 112 = .ok (.iload_n 2, 1) := by decide +kernel
theorem dX4_readNumber_113 : decode cX4_readNumber 113 = .ok (.goto 4, 3) := by decide +kernel
theorem dX4_readNumber_116 : decode cX4_readNumber 116 = .ok (.iconst 0, 1) := by decide +kernel
theorem dX4_readNumber_117 : decode cX4_readNumber 117 = .ok (.ireturn, 1) := by decide +kernel
theorem dX4_readEnd_0 : decode cX4_readEnd 0 = .ok (.aload_n 0, 1) := by decide +kernel
theorem dX4_readEnd_1 : decode cX4_readEnd 1 = .ok (.invokevirtual 25, 3) := by decide +kernel
theorem dX4_readEnd_4 : decode cX4_readEnd 4 = .ok (.aload_n 0, 1) := by decide +kernel
theorem dX4_readEnd_5 : decode cX4_readEnd 5 = .ok (.getfield 19, 3) := by decide +kernel
theorem dX4_readEnd_8 : decode cX4_readEnd 8 = .ok (.aload_n 0, 1) := by decide +kernel
theorem dX4_readEnd_9 : decode cX4_readEnd 9 = .ok (.getfield 15, 3) := by decide +kernel
theorem dX4_readEnd_12 : decode cX4_readEnd 12 = .ok (.if_icmp .ge 17, 3) := by decide +kernel
theorem dX4_readEnd_15 : decode cX4_readEnd 15 = .ok (.aload_n 0, 1) := by decide +kernel
theorem dX4_readEnd_16 : decode cX4_readEnd 16 = .ok (.getfield 9, 3) := by decide +kernel
theorem dX4_readEnd_19 : decode cX4_readEnd 19 = .ok (.aload_n 0, 1) := by decide +kernel
theorem dX4_readEnd_20 : decode cX4_readEnd 20 = .ok (.getfield 19, 3) := by decide +kernel
theorem dX4_readEnd_23 : decode cX4_readEnd 23 = .ok (.iaload, 1) := by decide +kernel
theorem dX4_readEnd_24 : decode cX4_readEnd 24 = .ok (.bipush 59, 2) := by decide +kernel
theorem dX4_readEnd_26 : decode cX4_readEnd 26 = .ok (.if_icmp .eq 11, 3) := by decide +kernel
theorem dX4_readEnd_29 : decode cX4_readEnd 29 = .ok (.aload_n 0, 1) := by decide +kernel
theorem dX4_readEnd_30 : decode cX4_readEnd 30 = .ok (.aload_n 0, 1) := by decide +kernel
theorem dX4_readEnd_31 : decode cX4_readEnd 31 = .ok (.getfield 19, 3) := by decide +kernel
theorem dX4_readEnd_34 : decode cX4_readEnd 34 = .ok (.invokevirtual 28, 3) := by decide +kernel
theorem dX4_readEnd_37 : decode cX4_readEnd 37 = .ok (.aload_n 0, 1) := by decide +kernel
theorem dX4_readEnd_38 : decode cX4_readEnd 38 = .ok (.dup, 1) := by decide +kernel
theorem dX4_readEnd_39 : decode cX4_readEnd 39 = .ok (.getfield 19, 3) := by decide +kernel
theorem dX4_readEnd_42 : decode cX4_readEnd 42 = .ok (.iconst 1, 1) := by decide +kernel
theorem dX4_readEnd_43 : decode cX4_readEnd 43 = .ok (.iadd, 1) := by decide +kernel
theorem dX4_readEnd_44 : decode cX4_readEnd 44 = .ok (.putfield 19, 3) := by decide +kernel
theorem dX4_readEnd_47 : decode cX4_readEnd 47 = .ok (.return_, 1) := by decide +kernel
theorem dX4_skipBlanks_0 : decode cX4_skipBlanks 0 = .ok (.aload_n 0, 1) := by decide +kernel
theorem dX4_skipBlanks_1 : decode cX4_skipBlanks 1 = .ok (.getfield 19, 3) := by decide +kernel
theorem dX4_skipBlanks_4 : decode cX4_skipBlanks 4 = .ok (.aload_n 0, 1) := by decide +kernel
theorem dX4_skipBlanks_5 : decode cX4_skipBlanks 5 = .ok (.getfield 15, 3) := by decide +kernel
theorem dX4_skipBlanks_8 : decode cX4_skipBlanks 8 = .ok (.if_icmp .ge 30, 3) := by decide +kernel
theorem dX4_skipBlanks_11 : decode cX4_skipBlanks 11 = .ok (.aload_n 0, 1) := by decide +kernel
theorem dX4_skipBlanks_12 : decode cX4_skipBlanks 12 = .ok (.getfield 9, 3) := by decide +kernel
theorem dX4_skipBlanks_15 : decode cX4_skipBlanks 15 = .ok (.aload_n 0, 1) := by decide +kernel
theorem dX4_skipBlanks_16 : decode cX4_skipBlanks 16 = .ok (.getfield 19, 3) := by decide +kernel
theorem dX4_skipBlanks_19 : decode cX4_skipBlanks 19 = .ok (.iaload, 1) := by decide +kernel
theorem dX4_skipBlanks_20 : decode cX4_skipBlanks 20 = .ok (.bipush 32, 2) := by decide +kernel
theorem dX4_skipBlanks_22 : decode cX4_skipBlanks 22 = .ok (.if_icmp .ne 16, 3) := by decide +kernel
theorem dX4_skipBlanks_25 : decode cX4_skipBlanks 25 = .ok (.aload_n 0, 1) := by decide +kernel
theorem dX4_skipBlanks_26 : decode cX4_skipBlanks 26 = .ok (.dup, 1) := by decide +kernel
theorem dX4_skipBlanks_27 : decode cX4_skipBlanks 27 = .ok (.getfield 19, 3) := by decide +kernel
theorem dX4_skipBlanks_30 : decode cX4_skipBlanks 30 = .ok (.iconst 1, 1) := by decide +kernel
theorem dX4_skipBlanks_31 : decode cX4_skipBlanks 31 = .ok (.iadd, 1) := by decide +kernel
theorem dX4_skipBlanks_32 : decode cX4_skipBlanks 32 = .ok (.putfield 19, 3) := by decide +kernel
theorem dX4_skipBlanks_35 : decode cX4_skipBlanks 35 = .ok (.goto (-35), 3) := by decide +kernel
theorem dX4_skipBlanks_38 : decode cX4_skipBlanks 38 = .ok (.return_, 1) := by decide +kernel
theorem dX4_fail_0 : decode cX4_fail 0 = .ok (.aload_n 0, 1) := by decide +kernel
theorem dX4_fail_1 : decode cX4_fail 1 = .ok (.getfield 22, 3) := by decide +kernel
theorem dX4_fail_4 : decode cX4_fail 4 = .ok (.iconst (-1), 1) := by decide +kernel
theorem dX4_fail_5 : decode cX4_fail 5 = .ok (.if_icmp .ne 8, 3) := by decide +kernel
theorem dX4_fail_8 : decode cX4_fail 8 = .ok (.aload_n 0, 1) := by decide +kernel
theorem dX4_fail_9 : decode cX4_fail 9 = .ok (.iload_n 1, 1) := by decide +kernel
theorem dX4_fail_10 : decode cX4_fail 10 = .ok (.putfield 22, 3) := by decide +kernel
theorem dX4_fail_13 : decode cX4_fail 13 = .ok (.return_, 1) := by decide +kernel
theorem dX4_isFigure_0 : decode cX4_isFigure 0 = .ok (.iload_n 0, 1) := by decide +kernel
theorem dX4_isFigure_1 : decode cX4_isFigure 1 = .ok (.bipush 48, 2) := by decide +kernel
theorem dX4_isFigure_3 : decode cX4_isFigure 3 = .ok (.if_icmp .lt 13, 3) := by decide +kernel
theorem dX4_isFigure_6 : decode cX4_isFigure 6 = .ok (.iload_n 0, 1) := by decide +kernel
theorem dX4_isFigure_7 : decode cX4_isFigure 7 = .ok (.bipush 57, 2) := by decide +kernel
theorem dX4_isFigure_9 : decode cX4_isFigure 9 = .ok (.if_icmp .gt 7, 3) := by decide +kernel
theorem dX4_isFigure_12 : decode cX4_isFigure 12 = .ok (.iconst 1, 1) := by decide +kernel
theorem dX4_isFigure_13 : decode cX4_isFigure 13 = .ok (.goto 4, 3) := by decide +kernel
theorem dX4_isFigure_16 : decode cX4_isFigure 16 = .ok (.iconst 0, 1) := by decide +kernel
theorem dX4_isFigure_17 : decode cX4_isFigure 17 = .ok (.ireturn, 1) := by decide +kernel
theorem dX5_init_0 : decode cX5_init 0 = .ok (.aload_n 0, 1) := by decide +kernel
theorem dX5_init_1 : decode cX5_init 1 = .ok (.invokespecial 1, 3) := by decide +kernel
theorem dX5_init_4 : decode cX5_init 4 = .ok (.aload_n 0, 1) := by decide +kernel
theorem dX5_init_5 : decode cX5_init 5 = .ok (.new 7, 3) := by decide +kernel
theorem dX5_init_8 : decode cX5_init 8 = .ok (.dup, 1) := by decide +kernel
theorem dX5_init_9 : decode cX5_init 9 = .ok (.invokespecial 9, 3) := by decide +kernel
theorem dX5_init_12 : decode cX5_init 12 = .ok (.putfield 10, 3) := by decide +kernel
theorem dX5_init_15 : decode cX5_init 15 = .ok (.aload_n 0, 1) := by decide +kernel
theorem dX5_init_16 : decode cX5_init 16 = .ok (.new 16, 3) := by decide +kernel
theorem dX5_init_19 : decode cX5_init 19 = .ok (.dup, 1) := by decide +kernel
theorem dX5_init_20 : decode cX5_init 20 = .ok (.invokespecial 18, 3) := by decide +kernel
theorem dX5_init_23 : decode cX5_init 23 = .ok (.putfield 19, 3) := by decide +kernel
theorem dX5_init_26 : decode cX5_init 26 = .ok (.aload_n 0, 1) := by decide +kernel
theorem dX5_init_27 : decode cX5_init 27 = .ok (.new 23, 3) := by decide +kernel
theorem dX5_init_30 : decode cX5_init 30 = .ok (.dup, 1) := by decide +kernel
theorem dX5_init_31 : decode cX5_init 31 = .ok (.invokespecial 25, 3) := by decide +kernel
theorem dX5_init_34 : decode cX5_init 34 = .ok (.putfield 26, 3) := by decide +kernel
theorem dX5_init_37 : decode cX5_init 37 = .ok (.return_, 1) := by decide +kernel
theorem dX5_start_0 : decode cX5_start 0 = .ok (.aload_n 0, 1) := by decide +kernel
theorem dX5_start_1 : decode cX5_start 1 = .ok (.getfield 10, 3) := by decide +kernel
theorem dX5_start_4 : decode cX5_start 4 = .ok (.aload_n 1, 1) := by decide +kernel
theorem dX5_start_5 : decode cX5_start 5 = .ok (.invokevirtual 30, 3) := by decide +kernel
theorem dX5_start_8 : decode cX5_start 8 = .ok (.return_, 1) := by decide +kernel
theorem dX5_crush_0 : decode cX5_crush 0 = .ok (.aload_n 0, 1) := by decide +kernel
theorem dX5_crush_1 : decode cX5_crush 1 = .ok (.getfield 26, 3) := by decide +kernel
theorem dX5_crush_4 : decode cX5_crush 4 = .ok (.aload_n 0, 1) := by decide +kernel
theorem dX5_crush_5 : decode cX5_crush 5 = .ok (.getfield 10, 3) := by decide +kernel
theorem dX5_crush_8 : decode cX5_crush 8 = .ok (.aload_n 0, 1) := by decide +kernel
theorem dX5_crush_9 : decode cX5_crush 9 = .ok (.getfield 19, 3) := by decide +kernel
theorem dX5_crush_12 : decode cX5_crush 12 = .ok (.invokevirtual 34, 3) := by decide +kernel
theorem dX5_crush_15 : decode cX5_crush 15 = .ok (.ireturn, 1) := by decide +kernel
theorem dX5_lose_0 : decode cX5_lose 0 = .ok (.aload_n 0, 1) := by decide +kernel
theorem dX5_lose_1 : decode cX5_lose 1 = .ok (.aload_n 1, 1) := by decide +kernel
theorem dX5_lose_2 : decode cX5_lose 2 = .ok (.invokevirtual 38, 3) := by decide +kernel
theorem dX5_lose_5 : decode cX5_lose 5 = .ok (.aload_n 0, 1) := by decide +kernel
theorem dX5_lose_6 : decode cX5_lose 6 = .ok (.getfield 10, 3) := by decide +kernel
theorem dX5_lose_9 : decode cX5_lose 9 = .ok (.getfield 41, 3) := by decide +kernel
theorem dX5_lose_12 : decode cX5_lose 12 = .ok (.iload_n 2, 1) := by decide +kernel
theorem dX5_lose_13 : decode cX5_lose 13 = .ok (.iconst 0, 1) := by decide +kernel
theorem dX5_lose_14 : decode cX5_lose 14 = .ok (.iastore, 1) := by decide +kernel
theorem dX5_lose_15 : decode cX5_lose 15 = .ok (.iconst 1, 1) := by decide +kernel
theorem dX5_lose_16 : decode cX5_lose 16 = .ok (.aload_n 0, 1) := by decide +kernel
theorem dX5_lose_17 : decode cX5_lose 17 = .ok (.invokevirtual 45, 3) := by decide +kernel
theorem dX5_lose_20 : decode cX5_lose 20 = .ok (.iadd, 1) := by decide +kernel
theorem dX5_lose_21 : decode cX5_lose 21 = .ok (.ireturn, 1) := by decide +kernel
theorem dX5_build_0 : decode cX5_build 0 = .ok (.aload_n 0, 1) := by decide +kernel
theorem dX5_build_1 : decode cX5_build 1 = .ok (.aload_n 1, 1) := by decide +kernel
theorem dX5_build_2 : decode cX5_build 2 = .ok (.invokevirtual 38, 3) := by decide +kernel
theorem dX5_build_5 : decode cX5_build 5 = .ok (.aload_n 0, 1) := by decide +kernel
theorem dX5_build_6 : decode cX5_build 6 = .ok (.getfield 10, 3) := by decide +kernel
theorem dX5_build_9 : decode cX5_build 9 = .ok (.getfield 48, 3) := by decide +kernel
theorem dX5_build_12 : decode cX5_build 12 = .ok (.iload_n 2, 1) := by decide +kernel
theorem dX5_build_13 : decode cX5_build 13 = .ok (.iconst 1, 1) := by decide +kernel
theorem dX5_build_14 : decode cX5_build 14 = .ok (.iastore, 1) := by decide +kernel
theorem dX5_build_15 : decode cX5_build 15 = .ok (.aload_n 0, 1) := by decide +kernel
theorem dX5_build_16 : decode cX5_build 16 = .ok (.invokevirtual 45, 3) := by decide +kernel
theorem dX5_build_19 : decode cX5_build 19 = .ok (.pop, 1) := by decide +kernel
theorem dX5_build_20 : decode cX5_build 20 = .ok (.aload_n 0, 1) := by decide +kernel
theorem dX5_build_21 : decode cX5_build 21 = .ok (.getfield 10, 3) := by decide +kernel
theorem dX5_build_24 : decode cX5_build 24 = .ok (.invokevirtual 51, 3) := by decide +kernel
theorem dX5_build_27 : decode cX5_build 27 = .ok (.ireturn, 1) := by decide +kernel
theorem dX5_support_0 : decode cX5_support 0 = .ok (.aload_n 0, 1) := by decide +kernel
theorem dX5_support_1 : decode cX5_support 1 = .ok (.aload_n 1, 1) := by decide +kernel
theorem dX5_support_2 : decode cX5_support 2 = .ok (.invokevirtual 38, 3) := by decide +kernel
theorem dX5_support_5 : decode cX5_support 5 = .ok (.aload_n 0, 1) := by decide +kernel
theorem dX5_support_6 : decode cX5_support 6 = .ok (.getfield 10, 3) := by decide +kernel
theorem dX5_support_9 : decode cX5_support 9 = .ok (.iload_n 2, 1) := by decide +kernel
theorem dX5_support_10 : decode cX5_support 10 = .ok (.iload_n 3, 1) := by decide +kernel
theorem dX5_support_11 : decode cX5_support 11 = .ok (.invokevirtual 54, 3) := by decide +kernel
theorem dX5_support_14 : decode cX5_support 14 = .ok (.aload_n 0, 1) := by decide +kernel
theorem dX5_support_15 : decode cX5_support 15 = .ok (.invokevirtual 45, 3) := by decide +kernel
theorem dX5_support_18 : decode cX5_support 18 = .ok (.pop, 1) := by decide +kernel
theorem dX5_support_19 : decode cX5_support 19 = .ok (.aload_n 0, 1) := by decide +kernel
theorem dX5_support_20 : decode cX5_support 20 = .ok (.getfield 10, 3) := by decide +kernel
theorem dX5_support_23 : decode cX5_support 23 = .ok (.invokevirtual 51, 3) := by decide +kernel
theorem dX5_support_26 : decode cX5_support 26 = .ok (.ireturn, 1) := by decide +kernel
