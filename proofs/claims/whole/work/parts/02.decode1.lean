theorem dX6_init_0 : decode cX6_init 0 = .ok (.aload_n 0, 1) := by decide +kernel
theorem dX6_init_1 : decode cX6_init 1 = .ok (.invokespecial 1, 3) := by decide +kernel
theorem dX6_init_4 : decode cX6_init 4 = .ok (.aload_n 0, 1) := by decide +kernel
theorem dX6_init_5 : decode cX6_init 5 = .ok (.new 7, 3) := by decide +kernel
theorem dX6_init_8 : decode cX6_init 8 = .ok (.dup, 1) := by decide +kernel
theorem dX6_init_9 : decode cX6_init 9 = .ok (.invokespecial 9, 3) := by decide +kernel
theorem dX6_init_12 : decode cX6_init 12 = .ok (.putfield 10, 3) := by decide +kernel
theorem dX6_init_15 : decode cX6_init 15 = .ok (.aload_n 0, 1) := by decide +kernel
theorem dX6_init_16 : decode cX6_init 16 = .ok (.new 16, 3) := by decide +kernel
theorem dX6_init_19 : decode cX6_init 19 = .ok (.dup, 1) := by decide +kernel
theorem dX6_init_20 : decode cX6_init 20 = .ok (.invokespecial 18, 3) := by decide +kernel
theorem dX6_init_23 : decode cX6_init 23 = .ok (.putfield 19, 3) := by decide +kernel
theorem dX6_init_26 : decode cX6_init 26 = .ok (.aload_n 0, 1) := by decide +kernel
theorem dX6_init_27 : decode cX6_init 27 = .ok (.new 23, 3) := by decide +kernel
theorem dX6_init_30 : decode cX6_init 30 = .ok (.dup, 1) := by decide +kernel
theorem dX6_init_31 : decode cX6_init 31 = .ok (.invokespecial 25, 3) := by decide +kernel
theorem dX6_init_34 : decode cX6_init 34 = .ok (.putfield 26, 3) := by decide +kernel
theorem dX6_init_37 : decode cX6_init 37 = .ok (.aload_n 0, 1) := by decide +kernel
theorem dX6_init_38 : decode cX6_init 38 = .ok (.new 30, 3) := by decide +kernel
theorem dX6_init_41 : decode cX6_init 41 = .ok (.dup, 1) := by decide +kernel
theorem dX6_init_42 : decode cX6_init 42 = .ok (.invokespecial 32, 3) := by decide +kernel
theorem dX6_init_45 : decode cX6_init 45 = .ok (.putfield 33, 3) := by decide +kernel
theorem dX6_init_48 : decode cX6_init 48 = .ok (.aload_n 0, 1) := by decide +kernel
theorem dX6_init_49 : decode cX6_init 49 = .ok (.new 37, 3) := by decide +kernel
theorem dX6_init_52 : decode cX6_init 52 = .ok (.dup, 1) := by decide +kernel
theorem dX6_init_53 : decode cX6_init 53 = .ok (.invokespecial 39, 3) := by decide +kernel
theorem dX6_init_56 : decode cX6_init 56 = .ok (.putfield 40, 3) := by decide +kernel
theorem dX6_init_59 : decode cX6_init 59 = .ok (.aload_n 0, 1) := by decide +kernel
theorem dX6_init_60 : decode cX6_init 60 = .ok (.new 44, 3) := by decide +kernel
theorem dX6_init_63 : decode cX6_init 63 = .ok (.dup, 1) := by decide +kernel
theorem dX6_init_64 : decode cX6_init 64 = .ok (.invokespecial 46, 3) := by decide +kernel
theorem dX6_init_67 : decode cX6_init 67 = .ok (.putfield 47, 3) := by decide +kernel
theorem dX6_init_70 : decode cX6_init 70 = .ok (.aload_n 0, 1) := by decide +kernel
theorem dX6_init_71 : decode cX6_init 71 = .ok (.iconst 3, 1) := by decide +kernel
theorem dX6_init_72 : decode cX6_init 72 = .ok (.newarray .int, 2) := by decide +kernel
theorem dX6_init_74 : decode cX6_init 74 = .ok (.putfield 51, 3) := by decide +kernel
theorem dX6_init_77 : decode cX6_init 77 = .ok (.return_, 1) := by decide +kernel
theorem dX6_pillar_0 : decode cX6_pillar 0 = .ok (.iload_n 1, 1) := by decide +kernel
theorem dX6_pillar_1 : decode cX6_pillar 1 = .ok (.invokestatic 55, 3) := by decide +kernel
theorem dX6_pillar_4 : decode cX6_pillar 4 = .ok (.ifCond .eq 10, 3) := by decide +kernel
theorem dX6_pillar_7 : decode cX6_pillar 7 = .ok (.iload_n 2, 1) := by decide +kernel
theorem dX6_pillar_8 : decode cX6_pillar 8 = .ok (.invokestatic 59, 3) := by decide +kernel
theorem dX6_pillar_11 : decode cX6_pillar 11 = .ok (.ifCond .ne 10, 3) := by decide +kernel
theorem dX6_pillar_14 : decode cX6_pillar 14 = .ok (.aload_n 0, 1) := by decide +kernel
theorem dX6_pillar_15 : decode cX6_pillar 15 = .ok (.bipush (-2), 2) := by decide +kernel
theorem dX6_pillar_17 : decode cX6_pillar 17 = .ok (.invokevirtual 62, 3) := by decide +kernel
theorem dX6_pillar_20 : decode cX6_pillar 20 = .ok (.ireturn, 1) := by decide +kernel
theorem dX6_pillar_21 : decode cX6_pillar 21 = .ok (.aload_n 0, 1) := by decide +kernel
theorem dX6_pillar_22 : decode cX6_pillar 22 = .ok (.getfield 10, 3) := by decide +kernel
theorem dX6_pillar_25 : decode cX6_pillar 25 = .ok (.iload_n 1, 1) := by decide +kernel
theorem dX6_pillar_26 : decode cX6_pillar 26 = .ok (.invokevirtual 66, 3) := by decide +kernel
theorem dX6_pillar_29 : decode cX6_pillar 29 = .ok (.ifCond .eq 10, 3) := by decide +kernel
theorem dX6_pillar_32 : decode cX6_pillar 32 = .ok (.aload_n 0, 1) := by decide +kernel
theorem dX6_pillar_33 : decode cX6_pillar 33 = .ok (.bipush (-3), 2) := by decide +kernel
theorem dX6_pillar_35 : decode cX6_pillar 35 = .ok (.invokevirtual 62, 3) := by decide +kernel
theorem dX6_pillar_38 : decode cX6_pillar 38 = .ok (.ireturn, 1) := by decide +kernel
theorem dX6_pillar_39 : decode cX6_pillar 39 = .ok (.aload_n 0, 1) := by decide +kernel
theorem dX6_pillar_40 : decode cX6_pillar 40 = .ok (.getfield 10, 3) := by decide +kernel
theorem dX6_pillar_43 : decode cX6_pillar 43 = .ok (.getfield 69, 3) := by decide +kernel
theorem dX6_pillar_46 : decode cX6_pillar 46 = .ok (.bipush 12, 2) := by decide +kernel
theorem dX6_pillar_48 : decode cX6_pillar 48 = .ok (.if_icmp .lt 10, 3) := by decide +kernel
theorem dX6_pillar_51 : decode cX6_pillar 51 = .ok (.aload_n 0, 1) := by decide +kernel
theorem dX6_pillar_52 : decode cX6_pillar 52 = .ok (.bipush (-4), 2) := by decide +kernel
theorem dX6_pillar_54 : decode cX6_pillar 54 = .ok (.invokevirtual 62, 3) := by decide +kernel
theorem dX6_pillar_57 : decode cX6_pillar 57 = .ok (.ireturn, 1) := by decide +kernel
theorem dX6_pillar_58 : decode cX6_pillar 58 = .ok (.aload_n 0, 1) := by decide +kernel
theorem dX6_pillar_59 : decode cX6_pillar 59 = .ok (.getfield 33, 3) := by decide +kernel
theorem dX6_pillar_62 : decode cX6_pillar 62 = .ok (.aload_n 0, 1) := by decide +kernel
theorem dX6_pillar_63 : decode cX6_pillar 63 = .ok (.getfield 10, 3) := by decide +kernel
theorem dX6_pillar_66 : decode cX6_pillar 66 = .ok (.invokevirtual 73, 3) := by decide +kernel
theorem dX6_pillar_69 : decode cX6_pillar 69 = .ok (.aload_n 0, 1) := by decide +kernel
theorem dX6_pillar_70 : decode cX6_pillar 70 = .ok (.getfield 10, 3) := by decide +kernel
theorem dX6_pillar_73 : decode cX6_pillar 73 = .ok (.iload_n 1, 1) := by decide +kernel
theorem dX6_pillar_74 : decode cX6_pillar 74 = .ok (.iload_n 2, 1) := by decide +kernel
theorem dX6_pillar_75 : decode cX6_pillar 75 = .ok (.invokevirtual 77, 3) := by decide +kernel
theorem dX6_pillar_78 : decode cX6_pillar 78 = .ok (.aload_n 0, 1) := by decide +kernel
theorem dX6_pillar_79 : decode cX6_pillar 79 = .ok (.getfield 10, 3) := by decide +kernel
theorem dX6_pillar_82 : decode cX6_pillar 82 = .ok (.getfield 69, 3) := by decide +kernel
theorem dX6_pillar_85 : decode cX6_pillar 85 = .ok (.iconst 1, 1) := by decide +kernel
theorem dX6_pillar_86 : decode cX6_pillar 86 = .ok (.isub, 1) := by decide +kernel
theorem dX6_pillar_87 : decode cX6_pillar 87 = .ok (.ireturn, 1) := by decide +kernel
theorem dX6_weight_0 : decode cX6_weight 0 = .ok (.iload_n 1, 1) := by decide +kernel
theorem dX6_weight_1 : decode cX6_weight 1 = .ok (.invokestatic 55, 3) := by decide +kernel
theorem dX6_weight_4 : decode cX6_weight 4 = .ok (.ifCond .eq 12, 3) := by decide +kernel
theorem dX6_weight_7 : decode cX6_weight 7 = .ok (.iload_n 2, 1) := by decide +kernel
theorem dX6_weight_8 : decode cX6_weight 8 = .ok (.bipush 9, 2) := by decide +kernel
theorem dX6_weight_10 : decode cX6_weight 10 = .ok (.invokestatic 81, 3) := by decide +kernel
theorem dX6_weight_13 : decode cX6_weight 13 = .ok (.ifCond .ne 10, 3) := by decide +kernel
theorem dX6_weight_16 : decode cX6_weight 16 = .ok (.aload_n 0, 1) := by decide +kernel
theorem dX6_weight_17 : decode cX6_weight 17 = .ok (.bipush (-2), 2) := by decide +kernel
theorem dX6_weight_19 : decode cX6_weight 19 = .ok (.invokevirtual 62, 3) := by decide +kernel
theorem dX6_weight_22 : decode cX6_weight 22 = .ok (.ireturn, 1) := by decide +kernel
theorem dX6_weight_23 : decode cX6_weight 23 = .ok (.aload_n 0, 1) := by decide +kernel
theorem dX6_weight_24 : decode cX6_weight 24 = .ok (.getfield 33, 3) := by decide +kernel
theorem dX6_weight_27 : decode cX6_weight 27 = .ok (.aload_n 0, 1) := by decide +kernel
theorem dX6_weight_28 : decode cX6_weight 28 = .ok (.getfield 10, 3) := by decide +kernel
theorem dX6_weight_31 : decode cX6_weight 31 = .ok (.invokevirtual 73, 3) := by decide +kernel
theorem dX6_weight_34 : decode cX6_weight 34 = .ok (.aload_n 0, 1) := by decide +kernel
theorem dX6_weight_35 : decode cX6_weight 35 = .ok (.getfield 10, 3) := by decide +kernel
theorem dX6_weight_38 : decode cX6_weight 38 = .ok (.getfield 85, 3) := by decide +kernel
theorem dX6_weight_41 : decode cX6_weight 41 = .ok (.iload_n 1, 1) := by decide +kernel
theorem dX6_weight_42 : decode cX6_weight 42 = .ok (.iaload, 1) := by decide +kernel
theorem dX6_weight_43 : decode cX6_weight 43 = .ok (.istore_n 3, 1) := by decide +kernel
theorem dX6_weight_44 : decode cX6_weight 44 = .ok (.aload_n 0, 1) := by decide +kernel
theorem dX6_weight_45 : decode cX6_weight 45 = .ok (.getfield 10, 3) := by decide +kernel
theorem dX6_weight_48 : decode cX6_weight 48 = .ok (.getfield 85, 3) := by decide +kernel
theorem dX6_weight_51 : decode cX6_weight 51 = .ok (.iload_n 1, 1) := by decide +kernel
theorem dX6_weight_52 : decode cX6_weight 52 = .ok (.iload_n 2, 1) := by decide +kernel
theorem dX6_weight_53 : decode cX6_weight 53 = .ok (.iastore, 1) := by decide +kernel
theorem dX6_weight_54 : decode cX6_weight 54 = .ok (.iload_n 3, 1) := by decide +kernel
theorem dX6_weight_55 : decode cX6_weight 55 = .ok (.ireturn, 1) := by decide +kernel
theorem dX6_draw_0 : decode cX6_draw 0 = .ok (.iload_n 1, 1) := by decide +kernel
theorem dX6_draw_1 : decode cX6_draw 1 = .ok (.ldc 88, 2) := by decide +kernel
theorem dX6_draw_3 : decode cX6_draw 3 = .ok (.invokestatic 81, 3) := by decide +kernel
theorem dX6_draw_6 : decode cX6_draw 6 = .ok (.ifCond .eq 12, 3) := by decide +kernel
theorem dX6_draw_9 : decode cX6_draw 9 = .ok (.iload_n 2, 1) := by decide +kernel
theorem dX6_draw_10 : decode cX6_draw 10 = .ok (.bipush 9, 2) := by decide +kernel
theorem dX6_draw_12 : decode cX6_draw 12 = .ok (.invokestatic 81, 3) := by decide +kernel
theorem dX6_draw_15 : decode cX6_draw 15 = .ok (.ifCond .ne 10, 3) := by decide +kernel
theorem dX6_draw_18 : decode cX6_draw 18 = .ok (.aload_n 0, 1) := by decide +kernel
theorem dX6_draw_19 : decode cX6_draw 19 = .ok (.bipush (-2), 2) := by decide +kernel
theorem dX6_draw_21 : decode cX6_draw 21 = .ok (.invokevirtual 62, 3) := by decide +kernel
theorem dX6_draw_24 : decode cX6_draw 24 = .ok (.ireturn, 1) := by decide +kernel
theorem dX6_draw_25 : decode cX6_draw 25 = .ok (.aload_n 0, 1) := by decide +kernel
theorem dX6_draw_26 : decode cX6_draw 26 = .ok (.getfield 33, 3) := by decide +kernel
theorem dX6_draw_29 : decode cX6_draw 29 = .ok (.aload_n 0, 1) := by decide +kernel
theorem dX6_draw_30 : decode cX6_draw 30 = .ok (.getfield 10, 3) := by decide +kernel
theorem dX6_draw_33 : decode cX6_draw 33 = .ok (.invokevirtual 73, 3) := by decide +kernel
theorem dX6_draw_36 : decode cX6_draw 36 = .ok (.iload_n 1, 1) := by decide +kernel
theorem dX6_draw_37 : decode cX6_draw 37 = .ok (.i2l, 1) := by decide +kernel
theorem dX6_draw_38 : decode cX6_draw 38 = .ok (.lstore_n 3, 1) := by decide +kernel
theorem dX6_draw_39 : decode cX6_draw 39 = .ok (.iconst 0, 1) := by decide +kernel
theorem dX6_draw_40 : decode cX6_draw 40 = .ok (.istore 5, 2) := by decide +kernel
theorem dX6_draw_42 : decode cX6_draw 42 = .ok (.iload 5, 2) := by decide +kernel
theorem dX6_draw_44 : decode cX6_draw 44 = .ok (.bipush 96, 2) := by decide +kernel
theorem dX6_draw_46 : decode cX6_draw 46 = .ok (.if_icmp .ge 44, 3) := by decide +kernel
theorem dX6_draw_49 : decode cX6_draw 49 = .ok (.lload_n 3, 1) := by decide +kernel
theorem dX6_draw_50 : decode cX6_draw 50 = .ok (.ldc2_w 89, 3) := by decide +kernel
theorem dX6_draw_53 : decode cX6_draw 53 = .ok (.lmul, 1) := by decide +kernel
theorem dX6_draw_54 : decode cX6_draw 54 = .ok (.ldc2_w 91, 3) := by decide +kernel
theorem dX6_draw_57 : decode cX6_draw 57 = .ok (.ladd, 1) := by decide +kernel
theorem dX6_draw_58 : decode cX6_draw 58 = .ok (.ldc2_w 93, 3) := by decide +kernel
theorem dX6_draw_61 : decode cX6_draw 61 = .ok (.lrem, 1) := by decide +kernel
theorem dX6_draw_62 : decode cX6_draw 62 = .ok (.lstore_n 3, 1) := by decide +kernel
theorem dX6_draw_63 : decode cX6_draw 63 = .ok (.aload_n 0, 1) := by decide +kernel
theorem dX6_draw_64 : decode cX6_draw 64 = .ok (.getfield 10, 3) := by decide +kernel
theorem dX6_draw_67 : decode cX6_draw 67 = .ok (.getfield 85, 3) := by decide +kernel
theorem dX6_draw_70 : decode cX6_draw 70 = .ok (.iload 5, 2) := by decide +kernel
theorem dX6_draw_72 : decode cX6_draw 72 = .ok (.lload_n 3, 1) := by decide +kernel
theorem dX6_draw_73 : decode cX6_draw 73 = .ok (.ldc2_w 95, 3) := by decide +kernel
theorem dX6_draw_76 : decode cX6_draw 76 = .ok (.ldiv, 1) := by decide +kernel
theorem dX6_draw_77 : decode cX6_draw 77 = .ok (.iload_n 2, 1) := by decide +kernel
theorem dX6_draw_78 : decode cX6_draw 78 = .ok (.iconst 1, 1) := by decide +kernel
theorem dX6_draw_79 : decode cX6_draw 79 = .ok (.iadd, 1) := by decide +kernel
theorem dX6_draw_80 : decode cX6_draw 80 = .ok (.i2l, 1) := by decide +kernel
theorem dX6_draw_81 : decode cX6_draw 81 = .ok (.lrem, 1) := by decide +kernel
theorem dX6_draw_82 : decode cX6_draw 82 = .ok (.l2i, 1) := by decide +kernel
theorem dX6_draw_83 : decode cX6_draw 83 = .ok (.iastore, 1) := by decide +kernel
theorem dX6_draw_84 : decode cX6_draw 84 = .ok (.iinc 5 1, 3) := by decide +kernel
theorem dX6_draw_87 : decode cX6_draw 87 = .ok (.goto (-45), 3) := by decide +kernel
theorem dX6_draw_90 : decode cX6_draw 90 = .ok (.aload_n 0, 1) := by decide +kernel
theorem dX6_draw_91 : decode cX6_draw 91 = .ok (.getfield 10, 3) := by decide +kernel
theorem dX6_draw_94 : decode cX6_draw 94 = .ok (.getfield 85, 3) := by decide +kernel
theorem dX6_draw_97 : decode cX6_draw 97 = .ok (.invokestatic 97, 3) := by decide +kernel
theorem dX6_draw_100 : decode cX6_draw 100 = .ok (.ireturn, 1) := by decide +kernel
theorem dX6_strength_0 : decode cX6_strength 0 = .ok (.aload_n 0, 1) := by decide +kernel
theorem dX6_strength_1 : decode cX6_strength 1 = .ok (.getfield 10, 3) := by decide +kernel
theorem dX6_strength_4 : decode cX6_strength 4 = .ok (.iload_n 1, 1) := by decide +kernel
theorem dX6_strength_5 : decode cX6_strength 5 = .ok (.invokevirtual 101, 3) := by decide +kernel
theorem dX6_strength_8 : decode cX6_strength 8 = .ok (.ifCond .eq 10, 3) := by decide +kernel
theorem dX6_strength_11 : decode cX6_strength 11 = .ok (.iload_n 2, 1) := by decide +kernel
theorem dX6_strength_12 : decode cX6_strength 12 = .ok (.invokestatic 59, 3) := by decide +kernel
theorem dX6_strength_15 : decode cX6_strength 15 = .ok (.ifCond .ne 10, 3) := by decide +kernel
theorem dX6_strength_18 : decode cX6_strength 18 = .ok (.aload_n 0, 1) := by decide +kernel
theorem dX6_strength_19 : decode cX6_strength 19 = .ok (.bipush (-2), 2) := by decide +kernel
theorem dX6_strength_21 : decode cX6_strength 21 = .ok (.invokevirtual 62, 3) := by decide +kernel
theorem dX6_strength_24 : decode cX6_strength 24 = .ok (.ireturn, 1) := by decide +kernel
theorem dX6_strength_25 : decode cX6_strength 25 = .ok (.aload_n 0, 1) := by decide +kernel
theorem dX6_strength_26 : decode cX6_strength 26 = .ok (.getfield 33, 3) := by decide +kernel
theorem dX6_strength_29 : decode cX6_strength 29 = .ok (.aload_n 0, 1) := by decide +kernel
theorem dX6_strength_30 : decode cX6_strength 30 = .ok (.getfield 10, 3) := by decide +kernel
theorem dX6_strength_33 : decode cX6_strength 33 = .ok (.invokevirtual 73, 3) := by decide +kernel
theorem dX6_strength_36 : decode cX6_strength 36 = .ok (.aload_n 0, 1) := by decide +kernel
theorem dX6_strength_37 : decode cX6_strength 37 = .ok (.getfield 10, 3) := by decide +kernel
theorem dX6_strength_40 : decode cX6_strength 40 = .ok (.getfield 104, 3) := by decide +kernel
theorem dX6_strength_43 : decode cX6_strength 43 = .ok (.iload_n 1, 1) := by decide +kernel
theorem dX6_strength_44 : decode cX6_strength 44 = .ok (.iaload, 1) := by decide +kernel
theorem dX6_strength_45 : decode cX6_strength 45 = .ok (.istore_n 3, 1) := by decide +kernel
theorem dX6_strength_46 : decode cX6_strength 46 = .ok (.aload_n 0, 1) := by decide +kernel
theorem dX6_strength_47 : decode cX6_strength 47 = .ok (.getfield 10, 3) := by decide +kernel
theorem dX6_strength_50 : decode cX6_strength 50 = .ok (.getfield 104, 3) := by decide +kernel
theorem dX6_strength_53 : decode cX6_strength 53 = .ok (.iload_n 1, 1) := by decide +kernel
theorem dX6_strength_54 : decode cX6_strength 54 = .ok (.iload_n 2, 1) := by decide +kernel
theorem dX6_strength_55 : decode cX6_strength 55 = .ok (.iastore, 1) := by decide +kernel
theorem dX6_strength_56 : decode cX6_strength 56 = .ok (.iload_n 3, 1) := by decide +kernel
theorem dX6_strength_57 : decode cX6_strength 57 = .ok (.ireturn, 1) := by decide +kernel
theorem dX6_wall_0 : decode cX6_wall 0 = .ok (.iload_n 1, 1) := by decide +kernel
theorem dX6_wall_1 : decode cX6_wall 1 = .ok (.iconst 1, 1) := by decide +kernel
theorem dX6_wall_2 : decode cX6_wall 2 = .ok (.invokestatic 81, 3) := by decide +kernel
theorem dX6_wall_5 : decode cX6_wall 5 = .ok (.ifCond .eq 29, 3) := by decide +kernel
theorem dX6_wall_8 : decode cX6_wall 8 = .ok (.iload_n 2, 1) := by decide +kernel
theorem dX6_wall_9 : decode cX6_wall 9 = .ok (.iload_n 1, 1) := by decide +kernel
theorem dX6_wall_10 : decode cX6_wall 10 = .ok (.ifCond .ne 8, 3) := by decide +kernel
theorem dX6_wall_13 : decode cX6_wall 13 = .ok (.bipush 6, 2) := by decide +kernel
theorem dX6_wall_15 : decode cX6_wall 15 = .ok (.goto 5, 3) := by decide +kernel
theorem dX6_wall_18 : decode cX6_wall 18 = .ok (.bipush 10, 2) := by decide +kernel
theorem dX6_wall_20 : decode cX6_wall 20 = .ok (.invokestatic 81, 3) := by decide +kernel
theorem dX6_wall_23 : decode cX6_wall 23 = .ok (.ifCond .eq 11, 3) := by decide +kernel
theorem dX6_wall_26 : decode cX6_wall 26 = .ok (.iload_n 3, 1) := by decide +kernel
theorem dX6_wall_27 : decode cX6_wall 27 = .ok (.iconst 1, 1) := by decide +kernel
theorem dX6_wall_28 : decode cX6_wall 28 = .ok (.invokestatic 81, 3) := by decide +kernel
theorem dX6_wall_31 : decode cX6_wall 31 = .ok (.ifCond .ne 10, 3) := by decide +kernel
theorem dX6_wall_34 : decode cX6_wall 34 = .ok (.aload_n 0, 1) := by decide +kernel
theorem dX6_wall_35 : decode cX6_wall 35 = .ok (.bipush (-2), 2) := by decide +kernel
theorem dX6_wall_37 : decode cX6_wall 37 = .ok (.invokevirtual 62, 3) := by decide +kernel
theorem dX6_wall_40 : decode cX6_wall 40 = .ok (.ireturn, 1) := by decide +kernel
theorem dX6_wall_41 : decode cX6_wall 41 = .ok (.aload_n 0, 1) := by decide +kernel
theorem dX6_wall_42 : decode cX6_wall 42 = .ok (.getfield 33, 3) := by decide +kernel
theorem dX6_wall_45 : decode cX6_wall 45 = .ok (.aload_n 0, 1) := by decide +kernel
theorem dX6_wall_46 : decode cX6_wall 46 = .ok (.getfield 10, 3) := by decide +kernel
theorem dX6_wall_49 : decode cX6_wall 49 = .ok (.invokevirtual 73, 3) := by decide +kernel
theorem dX6_wall_52 : decode cX6_wall 52 = .ok (.iload_n 2, 1) := by decide +kernel
theorem dX6_wall_53 : decode cX6_wall 53 = .ok (.iload_n 1, 1) := by decide +kernel
theorem dX6_wall_54 : decode cX6_wall 54 = .ok (.ifCond .ne 7, 3) := by decide +kernel
theorem dX6_wall_57 : decode cX6_wall 57 = .ok (.iconst 0, 1) := by decide +kernel
theorem dX6_wall_58 : decode cX6_wall 58 = .ok (.goto 5, 3) := by decide +kernel
theorem dX6_wall_61 : decode cX6_wall 61 = .ok (.bipush 10, 2) := by decide +kernel
theorem dX6_wall_63 : decode cX6_wall 63 = .ok (.iadd, 1) := by decide +kernel
theorem dX6_wall_64 : decode cX6_wall 64 = .ok (.istore 4, 2) := by decide +kernel
theorem dX6_wall_66 : decode cX6_wall 66 = .ok (.aload_n 0, 1) := by decide +kernel
theorem dX6_wall_67 : decode cX6_wall 67 = .ok (.getfield 10, 3) := by decide +kernel
theorem dX6_wall_70 : decode cX6_wall 70 = .ok (.getfield 107, 3) := by decide +kernel
theorem dX6_wall_73 : decode cX6_wall 73 = .ok (.iload 4, 2) := by decide +kernel
theorem dX6_wall_75 : decode cX6_wall 75 = .ok (.iaload, 1) := by decide +kernel
theorem dX6_wall_76 : decode cX6_wall 76 = .ok (.istore 5, 2) := by decide +kernel
theorem dX6_wall_78 : decode cX6_wall 78 = .ok (.aload_n 0, 1) := by decide +kernel
theorem dX6_wall_79 : decode cX6_wall 79 = .ok (.getfield 10, 3) := by decide +kernel
theorem dX6_wall_82 : decode cX6_wall 82 = .ok (.getfield 107, 3) := by decide +kernel
theorem dX6_wall_85 : decode cX6_wall 85 = .ok (.iload 4, 2) := by decide +kernel
theorem dX6_wall_87 : decode cX6_wall 87 = .ok (.iload_n 3, 1) := by decide +kernel
theorem dX6_wall_88 : decode cX6_wall 88 = .ok (.iastore, 1) := by decide +kernel
theorem dX6_wall_89 : decode cX6_wall 89 = .ok (.iload 5, 2) := by decide +kernel
theorem dX6_wall_91 : decode cX6_wall 91 = .ok (.ireturn, 1) := by decide +kernel
theorem dX6_mends_0 : decode cX6_mends 0 = .ok (.aload_n 0, 1) := by decide +kernel
theorem dX6_mends_1 : decode cX6_mends 1 = .ok (.getfield 33, 3) := by decide +kernel
theorem dX6_mends_4 : decode cX6_mends 4 = .ok (.aload_n 0, 1) := by decide +kernel
theorem dX6_mends_5 : decode cX6_mends 5 = .ok (.getfield 10, 3) := by decide +kernel
theorem dX6_mends_8 : decode cX6_mends 8 = .ok (.invokevirtual 73, 3) := by decide +kernel
theorem dX6_mends_11 : decode cX6_mends 11 = .ok (.aload_n 0, 1) := by decide +kernel
theorem dX6_mends_12 : decode cX6_mends 12 = .ok (.getfield 26, 3) := by decide +kernel
theorem dX6_mends_15 : decode cX6_mends 15 = .ok (.invokevirtual 110, 3) := by decide +kernel
theorem dX6_mends_18 : decode cX6_mends 18 = .ok (.aload_n 0, 1) := by decide +kernel
theorem dX6_mends_19 : decode cX6_mends 19 = .ok (.getfield 10, 3) := by decide +kernel
theorem dX6_mends_22 : decode cX6_mends 22 = .ok (.getfield 69, 3) := by decide +kernel
theorem dX6_mends_25 : decode cX6_mends 25 = .ok (.aload_n 0, 1) := by decide +kernel
theorem dX6_mends_26 : decode cX6_mends 26 = .ok (.getfield 10, 3) := by decide +kernel
theorem dX6_mends_29 : decode cX6_mends 29 = .ok (.invokevirtual 113, 3) := by decide +kernel
theorem dX6_mends_32 : decode cX6_mends 32 = .ok (.isub, 1) := by decide +kernel
theorem dX6_mends_33 : decode cX6_mends 33 = .ok (.istore_n 1, 1) := by decide +kernel
theorem dX6_mends_34 : decode cX6_mends 34 = .ok (.iconst 0, 1) := by decide +kernel
theorem dX6_mends_35 : decode cX6_mends 35 = .ok (.istore_n 2, 1) := by decide +kernel
theorem dX6_mends_36 : decode cX6_mends 36 = .ok (.iload_n 2, 1) := by decide +kernel
theorem dX6_mends_37 : decode cX6_mends 37 = .ok (.aload_n 0, 1) := by decide +kernel
theorem dX6_mends_38 : decode cX6_mends 38 = .ok (.getfield 10, 3) := by decide +kernel
theorem dX6_mends_41 : decode cX6_mends 41 = .ok (.getfield 69, 3) := by decide +kernel
theorem dX6_mends_44 : decode cX6_mends 44 = .ok (.if_icmp .ge 19, 3) := by decide +kernel
theorem dX6_mends_47 : decode cX6_mends 47 = .ok (.aload_n 0, 1) := by decide +kernel
theorem dX6_mends_48 : decode cX6_mends 48 = .ok (.getfield 10, 3) := by decide +kernel
theorem dX6_mends_51 : decode cX6_mends 51 = .ok (.getfield 117, 3) := by decide +kernel
theorem dX6_mends_54 : decode cX6_mends 54 = .ok (.iload_n 2, 1) := by decide +kernel
theorem dX6_mends_55 : decode cX6_mends 55 = .ok (.iconst 1, 1) := by decide +kernel
theorem dX6_mends_56 : decode cX6_mends 56 = .ok (.iastore, 1) := by decide +kernel
theorem dX6_mends_57 : decode cX6_mends 57 = .ok (.iinc 2 1, 3) := by decide +kernel
theorem dX6_mends_60 : decode cX6_mends 60 = .ok (.goto (-24), 3) := by decide +kernel
theorem dX6_mends_63 : decode cX6_mends 63 = .ok (.iload_n 1, 1) := by decide +kernel
theorem dX6_mends_64 : decode cX6_mends 64 = .ok (.ireturn, 1) := by decide +kernel
theorem dX6_anew_0 : decode cX6_anew 0 = .ok (.aload_n 0, 1) := by decide +kernel
theorem dX6_anew_1 : decode cX6_anew 1 = .ok (.getfield 33, 3) := by decide +kernel
theorem dX6_anew_4 : decode cX6_anew 4 = .ok (.aload_n 0, 1) := by decide +kernel
theorem dX6_anew_5 : decode cX6_anew 5 = .ok (.getfield 10, 3) := by decide +kernel
theorem dX6_anew_8 : decode cX6_anew 8 = .ok (.invokevirtual 73, 3) := by decide +kernel
theorem dX6_anew_11 : decode cX6_anew 11 = .ok (.aload_n 0, 1) := by decide +kernel
theorem dX6_anew_12 : decode cX6_anew 12 = .ok (.getfield 26, 3) := by decide +kernel
theorem dX6_anew_15 : decode cX6_anew 15 = .ok (.invokevirtual 110, 3) := by decide +kernel
theorem dX6_anew_18 : decode cX6_anew 18 = .ok (.aload_n 0, 1) := by decide +kernel
theorem dX6_anew_19 : decode cX6_anew 19 = .ok (.getfield 10, 3) := by decide +kernel
theorem dX6_anew_22 : decode cX6_anew 22 = .ok (.getfield 69, 3) := by decide +kernel
theorem dX6_anew_25 : decode cX6_anew 25 = .ok (.istore_n 1, 1) := by decide +kernel
theorem dX6_anew_26 : decode cX6_anew 26 = .ok (.aload_n 0, 1) := by decide +kernel
theorem dX6_anew_27 : decode cX6_anew 27 = .ok (.getfield 10, 3) := by decide +kernel
theorem dX6_anew_30 : decode cX6_anew 30 = .ok (.invokevirtual 120, 3) := by decide +kernel
theorem dX6_anew_33 : decode cX6_anew 33 = .ok (.iload_n 1, 1) := by decide +kernel
theorem dX6_anew_34 : decode cX6_anew 34 = .ok (.ireturn, 1) := by decide +kernel
theorem dX6_of_0 : decode cX6_of 0 = .ok (.aload_n 0, 1) := by decide +kernel
theorem dX6_of_1 : decode cX6_of 1 = .ok (.getfield 10, 3) := by decide +kernel
theorem dX6_of_4 : decode cX6_of 4 = .ok (.iload_n 1, 1) := by decide +kernel
theorem dX6_of_5 : decode cX6_of 5 = .ok (.invokevirtual 101, 3) := by decide +kernel
theorem dX6_of_8 : decode cX6_of 8 = .ok (.ifCond .eq 11, 3) := by decide +kernel
theorem dX6_of_11 : decode cX6_of 11 = .ok (.iload_n 2, 1) := by decide +kernel
theorem dX6_of_12 : decode cX6_of 12 = .ok (.iconst 5, 1) := by decide +kernel
theorem dX6_of_13 : decode cX6_of 13 = .ok (.invokestatic 81, 3) := by decide +kernel
theorem dX6_of_16 : decode cX6_of 16 = .ok (.ifCond .ne 10, 3) := by decide +kernel
theorem dX6_of_19 : decode cX6_of 19 = .ok (.aload_n 0, 1) := by decide +kernel
theorem dX6_of_20 : decode cX6_of 20 = .ok (.bipush (-2), 2) := by decide +kernel
theorem dX6_of_22 : decode cX6_of 22 = .ok (.invokevirtual 62, 3) := by decide +kernel
theorem dX6_of_25 : decode cX6_of 25 = .ok (.ireturn, 1) := by decide +kernel
theorem dX6_of_26 : decode cX6_of 26 = .ok (.aload_n 0, 1) := by decide +kernel
theorem dX6_of_27 : decode cX6_of 27 = .ok (.getfield 19, 3) := by decide +kernel
theorem dX6_of_30 : decode cX6_of 30 = .ok (.aload_n 0, 1) := by decide +kernel
theorem dX6_of_31 : decode cX6_of 31 = .ok (.getfield 10, 3) := by decide +kernel
theorem dX6_of_34 : decode cX6_of 34 = .ok (.invokevirtual 123, 3) := by decide +kernel
theorem dX6_of_37 : decode cX6_of 37 = .ok (.aload_n 0, 1) := by decide +kernel
theorem dX6_of_38 : decode cX6_of 38 = .ok (.iload_n 1, 1) := by decide +kernel
theorem dX6_of_39 : decode cX6_of 39 = .ok (.iload_n 2, 1) := by decide +kernel
theorem dX6_of_40 : decode cX6_of 40 = .ok (.invokevirtual 126, 3) := by decide +kernel
theorem dX6_of_43 : decode cX6_of 43 = .ok (.ireturn, 1) := by decide +kernel
theorem dX6_rests_0 : decode cX6_rests 0 = .ok (.iload_n 1, 1) := by decide +kernel
theorem dX6_rests_1 : decode cX6_rests 1 = .ok (.invokestatic 55, 3) := by decide +kernel
theorem dX6_rests_4 : decode cX6_rests 4 = .ok (.ifCond .ne 10, 3) := by decide +kernel
theorem dX6_rests_7 : decode cX6_rests 7 = .ok (.aload_n 0, 1) := by decide +kernel
theorem dX6_rests_8 : decode cX6_rests 8 = .ok (.bipush (-2), 2) := by decide +kernel
theorem dX6_rests_10 : decode cX6_rests 10 = .ok (.invokevirtual 62, 3) := by decide +kernel
theorem dX6_rests_13 : decode cX6_rests 13 = .ok (.ireturn, 1) := by decide +kernel
theorem dX6_rests_14 : decode cX6_rests 14 = .ok (.aload_n 0, 1) := by decide +kernel
theorem dX6_rests_15 : decode cX6_rests 15 = .ok (.getfield 19, 3) := by decide +kernel
theorem dX6_rests_18 : decode cX6_rests 18 = .ok (.aload_n 0, 1) := by decide +kernel
theorem dX6_rests_19 : decode cX6_rests 19 = .ok (.getfield 10, 3) := by decide +kernel
theorem dX6_rests_22 : decode cX6_rests 22 = .ok (.invokevirtual 123, 3) := by decide +kernel
theorem dX6_rests_25 : decode cX6_rests 25 = .ok (.aload_n 0, 1) := by decide +kernel
theorem dX6_rests_26 : decode cX6_rests 26 = .ok (.getfield 19, 3) := by decide +kernel
theorem dX6_rests_29 : decode cX6_rests 29 = .ok (.getfield 130, 3) := by decide +kernel
theorem dX6_rests_32 : decode cX6_rests 32 = .ok (.iload_n 1, 1) := by decide +kernel
theorem dX6_rests_33 : decode cX6_rests 33 = .ok (.iaload, 1) := by decide +kernel
theorem dX6_rests_34 : decode cX6_rests 34 = .ok (.ireturn, 1) := by decide +kernel
theorem dX6_all_0 : decode cX6_all 0 = .ok (.iload_n 1, 1) := by decide +kernel
theorem dX6_all_1 : decode cX6_all 1 = .ok (.bipush 7, 2) := by decide +kernel
theorem dX6_all_3 : decode cX6_all 3 = .ok (.invokestatic 81, 3) := by decide +kernel
theorem dX6_all_6 : decode cX6_all 6 = .ok (.ifCond .ne 10, 3) := by decide +kernel
theorem dX6_all_9 : decode cX6_all 9 = .ok (.aload_n 0, 1) := by decide +kernel
theorem dX6_all_10 : decode cX6_all 10 = .ok (.bipush (-2), 2) := by decide +kernel
theorem dX6_all_12 : decode cX6_all 12 = .ok (.invokevirtual 62, 3) := by decide +kernel
theorem dX6_all_15 : decode cX6_all 15 = .ok (.ireturn, 1) := by decide +kernel
theorem dX6_all_16 : decode cX6_all 16 = .ok (.aload_n 0, 1) := by decide +kernel
theorem dX6_all_17 : decode cX6_all 17 = .ok (.getfield 19, 3) := by decide +kernel
theorem dX6_all_20 : decode cX6_all 20 = .ok (.aload_n 0, 1) := by decide +kernel
theorem dX6_all_21 : decode cX6_all 21 = .ok (.getfield 10, 3) := by decide +kernel
theorem dX6_all_24 : decode cX6_all 24 = .ok (.invokevirtual 123, 3) := by decide +kernel
theorem dX6_all_27 : decode cX6_all 27 = .ok (.aload_n 0, 1) := by decide +kernel
theorem dX6_all_28 : decode cX6_all 28 = .ok (.iload_n 1, 1) := by decide +kernel
theorem dX6_all_29 : decode cX6_all 29 = .ok (.invokevirtual 133, 3) := by decide +kernel
theorem dX6_all_32 : decode cX6_all 32 = .ok (.ireturn, 1) := by decide +kernel
theorem dX6_beside_0 : decode cX6_beside 0 = .ok (.iload_n 1, 1) := by decide +kernel
theorem dX6_beside_1 : decode cX6_beside 1 = .ok (.iload_n 2, 1) := by decide +kernel
theorem dX6_beside_2 : decode cX6_beside 2 = .ok (.if_icmp .eq 25, 3) := by decide +kernel
theorem dX6_beside_5 : decode cX6_beside 5 = .ok (.aload_n 0, 1) := by decide +kernel
theorem dX6_beside_6 : decode cX6_beside 6 = .ok (.getfield 10, 3) := by decide +kernel
theorem dX6_beside_9 : decode cX6_beside 9 = .ok (.iload_n 1, 1) := by decide +kernel
theorem dX6_beside_10 : decode cX6_beside 10 = .ok (.invokevirtual 136, 3) := by decide +kernel
theorem dX6_beside_13 : decode cX6_beside 13 = .ok (.ifCond .eq 14, 3) := by decide +kernel
theorem dX6_beside_16 : decode cX6_beside 16 = .ok (.aload_n 0, 1) := by decide +kernel
theorem dX6_beside_17 : decode cX6_beside 17 = .ok (.getfield 10, 3) := by decide +kernel
theorem dX6_beside_20 : decode cX6_beside 20 = .ok (.iload_n 2, 1) := by decide +kernel
theorem dX6_beside_21 : decode cX6_beside 21 = .ok (.invokevirtual 136, 3) := by decide +kernel
theorem dX6_beside_24 : decode cX6_beside 24 = .ok (.ifCond .ne 10, 3) := by decide +kernel
theorem dX6_beside_27 : decode cX6_beside 27 = .ok (.aload_n 0, 1) := by decide +kernel
theorem dX6_beside_28 : decode cX6_beside 28 = .ok (.bipush (-2), 2) := by decide +kernel
theorem dX6_beside_30 : decode cX6_beside 30 = .ok (.invokevirtual 62, 3) := by decide +kernel
theorem dX6_beside_33 : decode cX6_beside 33 = .ok (.ireturn, 1) := by decide +kernel
theorem dX6_beside_34 : decode cX6_beside 34 = .ok (.aload_n 0, 1) := by decide +kernel
theorem dX6_beside_35 : decode cX6_beside 35 = .ok (.getfield 19, 3) := by decide +kernel
theorem dX6_beside_38 : decode cX6_beside 38 = .ok (.aload_n 0, 1) := by decide +kernel
theorem dX6_beside_39 : decode cX6_beside 39 = .ok (.getfield 10, 3) := by decide +kernel
theorem dX6_beside_42 : decode cX6_beside 42 = .ok (.invokevirtual 123, 3) := by decide +kernel
theorem dX6_beside_45 : decode cX6_beside 45 = .ok (.aload_n 0, 1) := by decide +kernel
theorem dX6_beside_46 : decode cX6_beside 46 = .ok (.getfield 19, 3) := by decide +kernel
theorem dX6_beside_49 : decode cX6_beside 49 = .ok (.aload_n 0, 1) := by decide +kernel
theorem dX6_beside_50 : decode cX6_beside 50 = .ok (.getfield 10, 3) := by decide +kernel
theorem dX6_beside_53 : decode cX6_beside 53 = .ok (.iload_n 1, 1) := by decide +kernel
theorem dX6_beside_54 : decode cX6_beside 54 = .ok (.iload_n 2, 1) := by decide +kernel
theorem dX6_beside_55 : decode cX6_beside 55 = .ok (.invokevirtual 139, 3) := by decide +kernel
theorem dX6_beside_58 : decode cX6_beside 58 = .ok (.ifCond .eq 7, 3) := by decide +kernel
theorem dX6_beside_61 : decode cX6_beside 61 = .ok (.iconst 1, 1) := by decide +kernel
theorem dX6_beside_62 : decode cX6_beside 62 = .ok (.goto 4, 3) := by decide +kernel
theorem dX6_beside_65 : decode cX6_beside 65 = .ok (.iconst 0, 1) := by decide +kernel
theorem dX6_beside_66 : decode cX6_beside 66 = .ok (.ireturn, 1) := by decide +kernel
theorem dX6_runs_0 : decode cX6_runs 0 = .ok (.aload_n 0, 1) := by decide +kernel
theorem dX6_runs_1 : decode cX6_runs 1 = .ok (.getfield 33, 3) := by decide +kernel
theorem dX6_runs_4 : decode cX6_runs 4 = .ok (.aload_n 0, 1) := by decide +kernel
theorem dX6_runs_5 : decode cX6_runs 5 = .ok (.getfield 10, 3) := by decide +kernel
theorem dX6_runs_8 : decode cX6_runs 8 = .ok (.invokevirtual 73, 3) := by decide +kernel
theorem dX6_runs_11 : decode cX6_runs 11 = .ok (.aload_n 0, 1) := by decide +kernel
theorem dX6_runs_12 : decode cX6_runs 12 = .ok (.getfield 26, 3) := by decide +kernel
theorem dX6_runs_15 : decode cX6_runs 15 = .ok (.aload_n 0, 1) := by decide +kernel
theorem dX6_runs_16 : decode cX6_runs 16 = .ok (.getfield 10, 3) := by decide +kernel
theorem dX6_runs_19 : decode cX6_runs 19 = .ok (.aload_n 0, 1) := by decide +kernel
theorem dX6_runs_20 : decode cX6_runs 20 = .ok (.getfield 19, 3) := by decide +kernel
theorem dX6_runs_23 : decode cX6_runs 23 = .ok (.invokevirtual 143, 3) := by decide +kernel
theorem dX6_runs_26 : decode cX6_runs 26 = .ok (.ireturn, 1) := by decide +kernel
theorem dX6_loses_0 : decode cX6_loses 0 = .ok (.aload_n 0, 1) := by decide +kernel
theorem dX6_loses_1 : decode cX6_loses 1 = .ok (.getfield 10, 3) := by decide +kernel
theorem dX6_loses_4 : decode cX6_loses 4 = .ok (.iload_n 1, 1) := by decide +kernel
theorem dX6_loses_5 : decode cX6_loses 5 = .ok (.invokevirtual 101, 3) := by decide +kernel
theorem dX6_loses_8 : decode cX6_loses 8 = .ok (.ifCond .ne 10, 3) := by decide +kernel
theorem dX6_loses_11 : decode cX6_loses 11 = .ok (.aload_n 0, 1) := by decide +kernel
theorem dX6_loses_12 : decode cX6_loses 12 = .ok (.bipush (-2), 2) := by decide +kernel
theorem dX6_loses_14 : decode cX6_loses 14 = .ok (.invokevirtual 62, 3) := by decide +kernel
theorem dX6_loses_17 : decode cX6_loses 17 = .ok (.ireturn, 1) := by decide +kernel
theorem dX6_loses_18 : decode cX6_loses 18 = .ok (.aload_n 0, 1) := by decide +kernel
theorem dX6_loses_19 : decode cX6_loses 19 = .ok (.getfield 10, 3) := by decide +kernel
theorem dX6_loses_22 : decode cX6_loses 22 = .ok (.iload_n 1, 1) := by decide +kernel
theorem dX6_loses_23 : decode cX6_loses 23 = .ok (.invokevirtual 136, 3) := by decide +kernel
theorem dX6_loses_26 : decode cX6_loses 26 = .ok (.ifCond .ne 10, 3) := by decide +kernel
theorem dX6_loses_29 : decode cX6_loses 29 = .ok (.aload_n 0, 1) := by decide +kernel
theorem dX6_loses_30 : decode cX6_loses 30 = .ok (.bipush (-3), 2) := by decide +kernel
theorem dX6_loses_32 : decode cX6_loses 32 = .ok (.invokevirtual 62, 3) := by decide +kernel
theorem dX6_loses_35 : decode cX6_loses 35 = .ok (.ireturn, 1) := by decide +kernel
theorem dX6_loses_36 : decode cX6_loses 36 = .ok (.aload_n 0, 1) := by decide +kernel
theorem dX6_loses_37 : decode cX6_loses 37 = .ok (.getfield 33, 3) := by decide +kernel
theorem dX6_loses_40 : decode cX6_loses 40 = .ok (.aload_n 0, 1) := by decide +kernel
theorem dX6_loses_41 : decode cX6_loses 41 = .ok (.getfield 10, 3) := by decide +kernel
theorem dX6_loses_44 : decode cX6_loses 44 = .ok (.invokevirtual 73, 3) := by decide +kernel
theorem dX6_loses_47 : decode cX6_loses 47 = .ok (.aload_n 0, 1) := by decide +kernel
theorem dX6_loses_48 : decode cX6_loses 48 = .ok (.getfield 10, 3) := by decide +kernel
theorem dX6_loses_51 : decode cX6_loses 51 = .ok (.getfield 117, 3) := by decide +kernel
theorem dX6_loses_54 : decode cX6_loses 54 = .ok (.iload_n 1, 1) := by decide +kernel
theorem dX6_loses_55 : decode cX6_loses 55 = .ok (.iconst 0, 1) := by decide +kernel
theorem dX6_loses_56 : decode cX6_loses 56 = .ok (.iastore, 1) := by decide +kernel
theorem dX6_loses_57 : decode cX6_loses 57 = .ok (.iconst 1, 1) := by decide +kernel
theorem dX6_loses_58 : decode cX6_loses 58 = .ok (.aload_n 0, 1) := by decide +kernel
theorem dX6_loses_59 : decode cX6_loses 59 = .ok (.getfield 26, 3) := by decide +kernel
theorem dX6_loses_62 : decode cX6_loses 62 = .ok (.aload_n 0, 1) := by decide +kernel
theorem dX6_loses_63 : decode cX6_loses 63 = .ok (.getfield 10, 3) := by decide +kernel
theorem dX6_loses_66 : decode cX6_loses 66 = .ok (.aload_n 0, 1) := by decide +kernel
theorem dX6_loses_67 : decode cX6_loses 67 = .ok (.getfield 19, 3) := by decide +kernel
theorem dX6_loses_70 : decode cX6_loses 70 = .ok (.invokevirtual 143, 3) := by decide +kernel
theorem dX6_loses_73 : decode cX6_loses 73 = .ok (.iadd, 1) := by decide +kernel
theorem dX6_loses_74 : decode cX6_loses 74 = .ok (.ireturn, 1) := by decide +kernel
theorem dX6_wave_0 : decode cX6_wave 0 = .ok (.iload_n 1, 1) := by decide +kernel
theorem dX6_wave_1 : decode cX6_wave 1 = .ok (.tableswitch 88 0 2 #[27, 35, 65], 27) := by decide +kernel
theorem dX6_wave_28 : decode cX6_wave 28 = .ok (.aload_n 0, 1) := by decide +kernel
theorem dX6_wave_29 : decode cX6_wave 29 = .ok (.getfield 26, 3) := by decide +kernel
theorem dX6_wave_32 : decode cX6_wave 32 = .ok (.getfield 147, 3) := by decide +kernel
theorem dX6_wave_35 : decode cX6_wave 35 = .ok (.ireturn, 1) := by decide +kernel
theorem dX6_wave_36 : decode cX6_wave 36 = .ok (.aload_n 0, 1) := by decide +kernel
theorem dX6_wave_37 : decode cX6_wave 37 = .ok (.getfield 10, 3) := by decide +kernel
theorem dX6_wave_40 : decode cX6_wave 40 = .ok (.iload_n 2, 1) := by decide +kernel
theorem dX6_wave_41 : decode cX6_wave 41 = .ok (.invokevirtual 101, 3) := by decide +kernel
theorem dX6_wave_44 : decode cX6_wave 44 = .ok (.ifCond .eq 15, 3) := by decide +kernel
theorem dX6_wave_47 : decode cX6_wave 47 = .ok (.aload_n 0, 1) := by decide +kernel
theorem dX6_wave_48 : decode cX6_wave 48 = .ok (.getfield 26, 3) := by decide +kernel
theorem dX6_wave_51 : decode cX6_wave 51 = .ok (.getfield 150, 3) := by decide +kernel
theorem dX6_wave_54 : decode cX6_wave 54 = .ok (.iload_n 2, 1) := by decide +kernel
theorem dX6_wave_55 : decode cX6_wave 55 = .ok (.iaload, 1) := by decide +kernel
theorem dX6_wave_56 : decode cX6_wave 56 = .ok (.goto 9, 3) := by decide +kernel
theorem dX6_wave_59 : decode cX6_wave 59 = .ok (.aload_n 0, 1) := by decide +kernel
theorem dX6_wave_60 : decode cX6_wave 60 = .ok (.bipush (-2), 2) := by decide +kernel
theorem dX6_wave_62 : decode cX6_wave 62 = .ok (.invokevirtual 62, 3) := by decide +kernel
theorem dX6_wave_65 : decode cX6_wave 65 = .ok (.ireturn, 1) := by decide +kernel
theorem dX6_wave_66 : decode cX6_wave 66 = .ok (.iload_n 2, 1) := by decide +kernel
theorem dX6_wave_67 : decode cX6_wave 67 = .ok (.iconst 1, 1) := by decide +kernel
theorem dX6_wave_68 : decode cX6_wave 68 = .ok (.if_icmp .lt 14, 3) := by decide +kernel
theorem dX6_wave_71 : decode cX6_wave 71 = .ok (.aload_n 0, 1) := by decide +kernel
theorem dX6_wave_72 : decode cX6_wave 72 = .ok (.getfield 26, 3) := by decide +kernel
theorem dX6_wave_75 : decode cX6_wave 75 = .ok (.iload_n 2, 1) := by decide +kernel
theorem dX6_wave_76 : decode cX6_wave 76 = .ok (.invokevirtual 153, 3) := by decide +kernel
theorem dX6_wave_79 : decode cX6_wave 79 = .ok (.goto 9, 3) := by decide +kernel
theorem dX6_wave_82 : decode cX6_wave 82 = .ok (.aload_n 0, 1) := by decide +kernel
theorem dX6_wave_83 : decode cX6_wave 83 = .ok (.bipush (-2), 2) := by decide +kernel
theorem dX6_wave_85 : decode cX6_wave 85 = .ok (.invokevirtual 62, 3) := by decide +kernel
theorem dX6_wave_88 : decode cX6_wave 88 = .ok (.ireturn, 1) := by decide +kernel
theorem dX6_wave_89 : decode cX6_wave 89 = .ok (.aload_n 0, 1) := by decide +kernel
theorem dX6_wave_90 : decode cX6_wave 90 = .ok (.bipush (-2), 2) := by decide +kernel
theorem dX6_wave_92 : decode cX6_wave 92 = .ok (.invokevirtual 62, 3) := by decide +kernel
theorem dX6_wave_95 : decode cX6_wave 95 = .ok (.ireturn, 1) := by decide +kernel
theorem dX6_would_0 : decode cX6_would 0 = .ok (.aload_n 0, 1) := by decide +kernel
theorem dX6_would_1 : decode cX6_would 1 = .ok (.getfield 10, 3) := by decide +kernel
theorem dX6_would_4 : decode cX6_would 4 = .ok (.iload_n 1, 1) := by decide +kernel
theorem dX6_would_5 : decode cX6_would 5 = .ok (.invokevirtual 101, 3) := by decide +kernel
theorem dX6_would_8 : decode cX6_would 8 = .ok (.ifCond .eq 11, 3) := by decide +kernel
theorem dX6_would_11 : decode cX6_would 11 = .ok (.iload_n 2, 1) := by decide +kernel
theorem dX6_would_12 : decode cX6_would 12 = .ok (.iconst 1, 1) := by decide +kernel
theorem dX6_would_13 : decode cX6_would 13 = .ok (.invokestatic 81, 3) := by decide +kernel
theorem dX6_would_16 : decode cX6_would 16 = .ok (.ifCond .ne 10, 3) := by decide +kernel
theorem dX6_would_19 : decode cX6_would 19 = .ok (.aload_n 0, 1) := by decide +kernel
theorem dX6_would_20 : decode cX6_would 20 = .ok (.bipush (-2), 2) := by decide +kernel
theorem dX6_would_22 : decode cX6_would 22 = .ok (.invokevirtual 62, 3) := by decide +kernel
theorem dX6_would_25 : decode cX6_would 25 = .ok (.ireturn, 1) := by decide +kernel
theorem dX6_would_26 : decode cX6_would 26 = .ok (.aload_n 0, 1) := by decide +kernel
theorem dX6_would_27 : decode cX6_would 27 = .ok (.getfield 10, 3) := by decide +kernel
theorem dX6_would_30 : decode cX6_would 30 = .ok (.iload_n 1, 1) := by decide +kernel
theorem dX6_would_31 : decode cX6_would 31 = .ok (.invokevirtual 136, 3) := by decide +kernel
theorem dX6_would_34 : decode cX6_would 34 = .ok (.ifCond .ne 10, 3) := by decide +kernel
theorem dX6_would_37 : decode cX6_would 37 = .ok (.aload_n 0, 1) := by decide +kernel
theorem dX6_would_38 : decode cX6_would 38 = .ok (.bipush (-3), 2) := by decide +kernel
theorem dX6_would_40 : decode cX6_would 40 = .ok (.invokevirtual 62, 3) := by decide +kernel
theorem dX6_would_43 : decode cX6_would 43 = .ok (.ireturn, 1) := by decide +kernel
theorem dX6_would_44 : decode cX6_would 44 = .ok (.aload_n 0, 1) := by decide +kernel
theorem dX6_would_45 : decode cX6_would 45 = .ok (.getfield 40, 3) := by decide +kernel
theorem dX6_would_48 : decode cX6_would 48 = .ok (.aload_n 0, 1) := by decide +kernel
theorem dX6_would_49 : decode cX6_would 49 = .ok (.getfield 10, 3) := by decide +kernel
theorem dX6_would_52 : decode cX6_would 52 = .ok (.iload_n 1, 1) := by decide +kernel
theorem dX6_would_53 : decode cX6_would 53 = .ok (.invokevirtual 156, 3) := by decide +kernel
theorem dX6_would_56 : decode cX6_would 56 = .ok (.istore_n 3, 1) := by decide +kernel
theorem dX6_would_57 : decode cX6_would 57 = .ok (.iload_n 2, 1) := by decide +kernel
theorem dX6_would_58 : decode cX6_would 58 = .ok (.ifCond .ne 7, 3) := by decide +kernel
theorem dX6_would_61 : decode cX6_would 61 = .ok (.iload_n 3, 1) := by decide +kernel
theorem dX6_would_62 : decode cX6_would 62 = .ok (.goto 13, 3) := by decide +kernel
theorem dX6_would_65 : decode cX6_would 65 = .ok (.aload_n 0, 1) := by decide +kernel
theorem dX6_would_66 : decode cX6_would 66 = .ok (.getfield 40, 3) := by decide +kernel
theorem dX6_would_69 : decode cX6_would 69 = .ok (.getfield 160, 3) := by decide +kernel
theorem dX6_would_72 : decode cX6_would 72 = .ok (.invokevirtual 161, 3) := by decide +kernel
theorem dX6_would_75 : decode cX6_would 75 = .ok (.ireturn, 1) := by decide +kernel
theorem dX6_worst_0 : decode cX6_worst 0 = .ok (.iload_n 1, 1) := by decide +kernel
theorem dX6_worst_1 : decode cX6_worst 1 = .ok (.iconst 1, 1) := by decide +kernel
theorem dX6_worst_2 : decode cX6_worst 2 = .ok (.invokestatic 81, 3) := by decide +kernel
theorem dX6_worst_5 : decode cX6_worst 5 = .ok (.ifCond .ne 10, 3) := by decide +kernel
theorem dX6_worst_8 : decode cX6_worst 8 = .ok (.aload_n 0, 1) := by decide +kernel
theorem dX6_worst_9 : decode cX6_worst 9 = .ok (.bipush (-2), 2) := by decide +kernel
theorem dX6_worst_11 : decode cX6_worst 11 = .ok (.invokevirtual 62, 3) := by decide +kernel
theorem dX6_worst_14 : decode cX6_worst 14 = .ok (.ireturn, 1) := by decide +kernel
theorem dX6_worst_15 : decode cX6_worst 15 = .ok (.iconst (-1), 1) := by decide +kernel
theorem dX6_worst_16 : decode cX6_worst 16 = .ok (.istore_n 2, 1) := by decide +kernel
theorem dX6_worst_17 : decode cX6_worst 17 = .ok (.iconst 0, 1) := by decide +kernel
theorem dX6_worst_18 : decode cX6_worst 18 = .ok (.istore_n 3, 1) := by decide +kernel
theorem dX6_worst_19 : decode cX6_worst 19 = .ok (.iconst 0, 1) := by decide +kernel
theorem dX6_worst_20 : decode cX6_worst 20 = .ok (.istore 4, 2) := by decide +kernel
theorem dX6_worst_22 : decode cX6_worst 22 = .ok (.iload 4, 2) := by decide +kernel
theorem dX6_worst_24 : decode cX6_worst 24 = .ok (.aload_n 0, 1) := by decide +kernel
theorem dX6_worst_25 : decode cX6_worst 25 = .ok (.getfield 10, 3) := by decide +kernel
theorem dX6_worst_28 : decode cX6_worst 28 = .ok (.getfield 69, 3) := by decide +kernel
theorem dX6_worst_31 : decode cX6_worst 31 = .ok (.if_icmp .ge 52, 3) := by decide +kernel
theorem dX6_worst_34 : decode cX6_worst 34 = .ok (.aload_n 0, 1) := by decide +kernel
theorem dX6_worst_35 : decode cX6_worst 35 = .ok (.getfield 10, 3) := by decide +kernel
theorem dX6_worst_38 : decode cX6_worst 38 = .ok (.iload 4, 2) := by decide +kernel
theorem dX6_worst_40 : decode cX6_worst 40 = .ok (.invokevirtual 136, 3) := by decide +kernel
theorem dX6_worst_43 : decode cX6_worst 43 = .ok (.ifCond .eq 19, 3) := by decide +kernel
theorem dX6_worst_46 : decode cX6_worst 46 = .ok (.aload_n 0, 1) := by decide +kernel
theorem dX6_worst_47 : decode cX6_worst 47 = .ok (.getfield 40, 3) := by decide +kernel
theorem dX6_worst_50 : decode cX6_worst 50 = .ok (.aload_n 0, 1) := by decide +kernel
theorem dX6_worst_51 : decode cX6_worst 51 = .ok (.getfield 10, 3) := by decide +kernel
theorem dX6_worst_54 : decode cX6_worst 54 = .ok (.iload 4, 2) := by decide +kernel
theorem dX6_worst_56 : decode cX6_worst 56 = .ok (.invokevirtual 156, 3) := by decide +kernel
theorem dX6_worst_59 : decode cX6_worst 59 = .ok (.goto 4, 3) := by decide +kernel
theorem dX6_worst_62 : decode cX6_worst 62 = .ok (.iconst 0, 1) := by decide +kernel
theorem dX6_worst_63 : decode cX6_worst 63 = .ok (.istore 5, 2) := by decide +kernel
theorem dX6_worst_65 : decode cX6_worst 65 = .ok (.iload 5, 2) := by decide +kernel
theorem dX6_worst_67 : decode cX6_worst 67 = .ok (.iload_n 3, 1) := by decide +kernel
theorem dX6_worst_68 : decode cX6_worst 68 = .ok (.if_icmp .le 9, 3) := by decide +kernel
theorem dX6_worst_71 : decode cX6_worst 71 = .ok (.iload 5, 2) := by decide +kernel
theorem dX6_worst_73 : decode cX6_worst 73 = .ok (.istore_n 3, 1) := by decide +kernel
theorem dX6_worst_74 : decode cX6_worst 74 = .ok (.iload 4, 2) := by decide +kernel
theorem dX6_worst_76 : decode cX6_worst 76 = .ok (.istore_n 2, 1) := by decide +kernel
theorem dX6_worst_77 : decode cX6_worst 77 = .ok (.iinc 4 1, 3) := by decide +kernel
theorem dX6_worst_80 : decode cX6_worst 80 = .ok (.goto (-58), 3) := by decide +kernel
theorem dX6_worst_83 : decode cX6_worst 83 = .ok (.iload_n 1, 1) := by decide +kernel
theorem dX6_worst_84 : decode cX6_worst 84 = .ok (.ifCond .ne 7, 3) := by decide +kernel
theorem dX6_worst_87 : decode cX6_worst 87 = .ok (.iload_n 2, 1) := by decide +kernel
theorem dX6_worst_88 : decode cX6_worst 88 = .ok (.goto 4, 3) := by decide +kernel
theorem dX6_worst_91 : decode cX6_worst 91 = .ok (.iload_n 3, 1) := by decide +kernel
theorem dX6_worst_92 : decode cX6_worst 92 = .ok (.ireturn, 1) := by decide +kernel
theorem dX6_cut_0 : decode cX6_cut 0 = .ok (.aload_n 0, 1) := by decide +kernel
theorem dX6_cut_1 : decode cX6_cut 1 = .ok (.getfield 10, 3) := by decide +kernel
theorem dX6_cut_4 : decode cX6_cut 4 = .ok (.iload_n 1, 1) := by decide +kernel
theorem dX6_cut_5 : decode cX6_cut 5 = .ok (.invokevirtual 101, 3) := by decide +kernel
theorem dX6_cut_8 : decode cX6_cut 8 = .ok (.ifCond .ne 10, 3) := by decide +kernel
theorem dX6_cut_11 : decode cX6_cut 11 = .ok (.aload_n 0, 1) := by decide +kernel
theorem dX6_cut_12 : decode cX6_cut 12 = .ok (.bipush (-2), 2) := by decide +kernel
theorem dX6_cut_14 : decode cX6_cut 14 = .ok (.invokevirtual 62, 3) := by decide +kernel
theorem dX6_cut_17 : decode cX6_cut 17 = .ok (.ireturn, 1) := by decide +kernel
theorem dX6_cut_18 : decode cX6_cut 18 = .ok (.aload_n 0, 1) := by decide +kernel
theorem dX6_cut_19 : decode cX6_cut 19 = .ok (.getfield 10, 3) := by decide +kernel
theorem dX6_cut_22 : decode cX6_cut 22 = .ok (.iload_n 1, 1) := by decide +kernel
theorem dX6_cut_23 : decode cX6_cut 23 = .ok (.invokevirtual 136, 3) := by decide +kernel
theorem dX6_cut_26 : decode cX6_cut 26 = .ok (.ifCond .ne 10, 3) := by decide +kernel
theorem dX6_cut_29 : decode cX6_cut 29 = .ok (.aload_n 0, 1) := by decide +kernel
theorem dX6_cut_30 : decode cX6_cut 30 = .ok (.bipush (-3), 2) := by decide +kernel
theorem dX6_cut_32 : decode cX6_cut 32 = .ok (.invokevirtual 62, 3) := by decide +kernel
theorem dX6_cut_35 : decode cX6_cut 35 = .ok (.ireturn, 1) := by decide +kernel
theorem dX6_cut_36 : decode cX6_cut 36 = .ok (.aload_n 0, 1) := by decide +kernel
theorem dX6_cut_37 : decode cX6_cut 37 = .ok (.getfield 40, 3) := by decide +kernel
theorem dX6_cut_40 : decode cX6_cut 40 = .ok (.aload_n 0, 1) := by decide +kernel
theorem dX6_cut_41 : decode cX6_cut 41 = .ok (.getfield 10, 3) := by decide +kernel
theorem dX6_cut_44 : decode cX6_cut 44 = .ok (.invokevirtual 164, 3) := by decide +kernel
theorem dX6_cut_47 : decode cX6_cut 47 = .ok (.aload_n 0, 1) := by decide +kernel
theorem dX6_cut_48 : decode cX6_cut 48 = .ok (.getfield 40, 3) := by decide +kernel
theorem dX6_cut_51 : decode cX6_cut 51 = .ok (.invokevirtual 167, 3) := by decide +kernel
theorem dX6_cut_54 : decode cX6_cut 54 = .ok (.pop, 1) := by decide +kernel
theorem dX6_cut_55 : decode cX6_cut 55 = .ok (.aload_n 0, 1) := by decide +kernel
theorem dX6_cut_56 : decode cX6_cut 56 = .ok (.getfield 40, 3) := by decide +kernel
theorem dX6_cut_59 : decode cX6_cut 59 = .ok (.getfield 169, 3) := by decide +kernel
theorem dX6_cut_62 : decode cX6_cut 62 = .ok (.iload_n 1, 1) := by decide +kernel
theorem dX6_cut_63 : decode cX6_cut 63 = .ok (.invokevirtual 136, 3) := by decide +kernel
theorem dX6_cut_66 : decode cX6_cut 66 = .ok (.ifCond .eq 28, 3) := by decide +kernel
theorem dX6_cut_69 : decode cX6_cut 69 = .ok (.aload_n 0, 1) := by decide +kernel
theorem dX6_cut_70 : decode cX6_cut 70 = .ok (.getfield 10, 3) := by decide +kernel
theorem dX6_cut_73 : decode cX6_cut 73 = .ok (.getfield 104, 3) := by decide +kernel
theorem dX6_cut_76 : decode cX6_cut 76 = .ok (.iload_n 1, 1) := by decide +kernel
theorem dX6_cut_77 : decode cX6_cut 77 = .ok (.iaload, 1) := by decide +kernel
theorem dX6_cut_78 : decode cX6_cut 78 = .ok (.aload_n 0, 1) := by decide +kernel
theorem dX6_cut_79 : decode cX6_cut 79 = .ok (.getfield 40, 3) := by decide +kernel
theorem dX6_cut_82 : decode cX6_cut 82 = .ok (.getfield 160, 3) := by decide +kernel
theorem dX6_cut_85 : decode cX6_cut 85 = .ok (.getfield 170, 3) := by decide +kernel
theorem dX6_cut_88 : decode cX6_cut 88 = .ok (.iload_n 1, 1) := by decide +kernel
theorem dX6_cut_89 : decode cX6_cut 89 = .ok (.iaload, 1) := by decide +kernel
theorem dX6_cut_90 : decode cX6_cut 90 = .ok (.isub, 1) := by decide +kernel
theorem dX6_cut_91 : decode cX6_cut 91 = .ok (.goto 12, 3) := by decide +kernel
theorem dX6_cut_94 : decode cX6_cut 94 = .ok (.aload_n 0, 1) := by decide +kernel
theorem dX6_cut_95 : decode cX6_cut 95 = .ok (.getfield 10, 3) := by decide +kernel
theorem dX6_cut_98 : decode cX6_cut 98 = .ok (.getfield 104, 3) := by decide +kernel
theorem dX6_cut_101 : decode cX6_cut 101 = .ok (.iload_n 1, 1) := by decide +kernel
theorem dX6_cut_102 : decode cX6_cut 102 = .ok (.iaload, 1) := by decide +kernel
theorem dX6_cut_103 : decode cX6_cut 103 = .ok (.ireturn, 1) := by decide +kernel
theorem dX6_mending_0 : decode cX6_mending 0 = .ok (.aload_n 0, 1) := by decide +kernel
theorem dX6_mending_1 : decode cX6_mending 1 = .ok (.getfield 19, 3) := by decide +kernel
theorem dX6_mending_4 : decode cX6_mending 4 = .ok (.aload_n 0, 1) := by decide +kernel
theorem dX6_mending_5 : decode cX6_mending 5 = .ok (.getfield 10, 3) := by decide +kernel
theorem dX6_mending_8 : decode cX6_mending 8 = .ok (.invokevirtual 123, 3) := by decide +kernel
theorem dX6_mending_11 : decode cX6_mending 11 = .ok (.iconst 0, 1) := by decide +kernel
theorem dX6_mending_12 : decode cX6_mending 12 = .ok (.istore_n 1, 1) := by decide +kernel
theorem dX6_mending_13 : decode cX6_mending 13 = .ok (.iconst 0, 1) := by decide +kernel
theorem dX6_mending_14 : decode cX6_mending 14 = .ok (.istore_n 2, 1) := by decide +kernel
theorem dX6_mending_15 : decode cX6_mending 15 = .ok (.iload_n 2, 1) := by decide +kernel
theorem dX6_mending_16 : decode cX6_mending 16 = .ok (.aload_n 0, 1) := by decide +kernel
theorem dX6_mending_17 : decode cX6_mending 17 = .ok (.getfield 10, 3) := by decide +kernel
theorem dX6_mending_20 : decode cX6_mending 20 = .ok (.getfield 69, 3) := by decide +kernel
theorem dX6_mending_23 : decode cX6_mending 23 = .ok (.if_icmp .ge 44, 3) := by decide +kernel
theorem dX6_mending_26 : decode cX6_mending 26 = .ok (.aload_n 0, 1) := by decide +kernel
theorem dX6_mending_27 : decode cX6_mending 27 = .ok (.getfield 10, 3) := by decide +kernel
theorem dX6_mending_30 : decode cX6_mending 30 = .ok (.iload_n 2, 1) := by decide +kernel
theorem dX6_mending_31 : decode cX6_mending 31 = .ok (.invokevirtual 136, 3) := by decide +kernel
theorem dX6_mending_34 : decode cX6_mending 34 = .ok (.ifCond .eq 27, 3) := by decide +kernel
theorem dX6_mending_37 : decode cX6_mending 37 = .ok (.iload_n 1, 1) := by decide +kernel
theorem dX6_mending_38 : decode cX6_mending 38 = .ok (.aload_n 0, 1) := by decide +kernel
theorem dX6_mending_39 : decode cX6_mending 39 = .ok (.getfield 19, 3) := by decide +kernel
theorem dX6_mending_42 : decode cX6_mending 42 = .ok (.getfield 170, 3) := by decide +kernel
theorem dX6_mending_45 : decode cX6_mending 45 = .ok (.iload_n 2, 1) := by decide +kernel
theorem dX6_mending_46 : decode cX6_mending 46 = .ok (.iaload, 1) := by decide +kernel
theorem dX6_mending_47 : decode cX6_mending 47 = .ok (.aload_n 0, 1) := by decide +kernel
theorem dX6_mending_48 : decode cX6_mending 48 = .ok (.getfield 10, 3) := by decide +kernel
theorem dX6_mending_51 : decode cX6_mending 51 = .ok (.getfield 104, 3) := by decide +kernel
theorem dX6_mending_54 : decode cX6_mending 54 = .ok (.iload_n 2, 1) := by decide +kernel
theorem dX6_mending_55 : decode cX6_mending 55 = .ok (.iaload, 1) := by decide +kernel
theorem dX6_mending_56 : decode cX6_mending 56 = .ok (.isub, 1) := by decide +kernel
theorem dX6_mending_57 : decode cX6_mending 57 = .ok (.invokestatic 173, 3) := by decide +kernel
theorem dX6_mending_60 : decode cX6_mending 60 = .ok (.istore_n 1, 1) := by decide +kernel
theorem dX6_mending_61 : decode cX6_mending 61 = .ok (.iinc 2 1, 3) := by decide +kernel
theorem dX6_mending_64 : decode cX6_mending 64 = .ok (.goto (-49), 3) := by decide +kernel
theorem dX6_mending_67 : decode cX6_mending 67 = .ok (.iload_n 1, 1) := by decide +kernel
theorem dX6_mending_68 : decode cX6_mending 68 = .ok (.sipush 999, 3) := by decide +kernel
theorem dX6_mending_71 : decode cX6_mending 71 = .ok (.if_icmp .gt 7, 3) := by decide +kernel
theorem dX6_mending_74 : decode cX6_mending 74 = .ok (.iload_n 1, 1) := by decide +kernel
theorem dX6_mending_75 : decode cX6_mending 75 = .ok (.goto 4, 3) := by decide +kernel
theorem dX6_mending_78 : decode cX6_mending 78 = .ok (.iconst (-1), 1) := by decide +kernel
theorem dX6_mending_79 : decode cX6_mending 79 = .ok (.ireturn, 1) := by decide +kernel
theorem dX6_bestWall_0 : decode cX6_bestWall 0 = .ok (.iload_n 1, 1) := by decide +kernel
theorem dX6_bestWall_1 : decode cX6_bestWall 1 = .ok (.iconst 1, 1) := by decide +kernel
theorem dX6_bestWall_2 : decode cX6_bestWall 2 = .ok (.invokestatic 81, 3) := by decide +kernel
theorem dX6_bestWall_5 : decode cX6_bestWall 5 = .ok (.ifCond .ne 10, 3) := by decide +kernel
theorem dX6_bestWall_8 : decode cX6_bestWall 8 = .ok (.aload_n 0, 1) := by decide +kernel
theorem dX6_bestWall_9 : decode cX6_bestWall 9 = .ok (.bipush (-2), 2) := by decide +kernel
theorem dX6_bestWall_11 : decode cX6_bestWall 11 = .ok (.invokevirtual 62, 3) := by decide +kernel
theorem dX6_bestWall_14 : decode cX6_bestWall 14 = .ok (.ireturn, 1) := by decide +kernel
theorem dX6_bestWall_15 : decode cX6_bestWall 15 = .ok (.iconst (-1), 1) := by decide +kernel
theorem dX6_bestWall_16 : decode cX6_bestWall 16 = .ok (.istore_n 2, 1) := by decide +kernel
theorem dX6_bestWall_17 : decode cX6_bestWall 17 = .ok (.iconst (-1), 1) := by decide +kernel
theorem dX6_bestWall_18 : decode cX6_bestWall 18 = .ok (.istore_n 3, 1) := by decide +kernel
theorem dX6_bestWall_19 : decode cX6_bestWall 19 = .ok (.iconst 0, 1) := by decide +kernel
theorem dX6_bestWall_20 : decode cX6_bestWall 20 = .ok (.istore 4, 2) := by decide +kernel
theorem dX6_bestWall_22 : decode cX6_bestWall 22 = .ok (.iload 4, 2) := by decide +kernel
theorem dX6_bestWall_24 : decode cX6_bestWall 24 = .ok (.bipush 21, 2) := by decide +kernel
theorem dX6_bestWall_26 : decode cX6_bestWall 26 = .ok (.if_icmp .ge 61, 3) := by decide +kernel
theorem dX6_bestWall_29 : decode cX6_bestWall 29 = .ok (.iload 4, 2) := by decide +kernel
theorem dX6_bestWall_31 : decode cX6_bestWall 31 = .ok (.invokestatic 178, 3) := by decide +kernel
theorem dX6_bestWall_34 : decode cX6_bestWall 34 = .ok (.ifCond .eq 32, 3) := by decide +kernel
theorem dX6_bestWall_37 : decode cX6_bestWall 37 = .ok (.aload_n 0, 1) := by decide +kernel
theorem dX6_bestWall_38 : decode cX6_bestWall 38 = .ok (.getfield 10, 3) := by decide +kernel
theorem dX6_bestWall_41 : decode cX6_bestWall 41 = .ok (.getfield 107, 3) := by decide +kernel
theorem dX6_bestWall_44 : decode cX6_bestWall 44 = .ok (.iload 4, 2) := by decide +kernel
theorem dX6_bestWall_46 : decode cX6_bestWall 46 = .ok (.iaload, 1) := by decide +kernel
theorem dX6_bestWall_47 : decode cX6_bestWall 47 = .ok (.ifCond .ne 19, 3) := by decide +kernel
theorem dX6_bestWall_50 : decode cX6_bestWall 50 = .ok (.aload_n 0, 1) := by decide +kernel
theorem dX6_bestWall_51 : decode cX6_bestWall 51 = .ok (.getfield 40, 3) := by decide +kernel
theorem dX6_bestWall_54 : decode cX6_bestWall 54 = .ok (.aload_n 0, 1) := by decide +kernel
theorem dX6_bestWall_55 : decode cX6_bestWall 55 = .ok (.getfield 10, 3) := by decide +kernel
theorem dX6_bestWall_58 : decode cX6_bestWall 58 = .ok (.iload 4, 2) := by decide +kernel
theorem dX6_bestWall_60 : decode cX6_bestWall 60 = .ok (.invokevirtual 181, 3) := by decide +kernel
theorem dX6_bestWall_63 : decode cX6_bestWall 63 = .ok (.goto 4, 3) := by decide +kernel
theorem dX6_bestWall_66 : decode cX6_bestWall 66 = .ok (.iconst (-1), 1) := by decide +kernel
theorem dX6_bestWall_67 : decode cX6_bestWall 67 = .ok (.istore 5, 2) := by decide +kernel
theorem dX6_bestWall_69 : decode cX6_bestWall 69 = .ok (.iload 5, 2) := by decide +kernel
theorem dX6_bestWall_71 : decode cX6_bestWall 71 = .ok (.iload_n 3, 1) := by decide +kernel
theorem dX6_bestWall_72 : decode cX6_bestWall 72 = .ok (.if_icmp .le 9, 3) := by decide +kernel
theorem dX6_bestWall_75 : decode cX6_bestWall 75 = .ok (.iload 5, 2) := by decide +kernel
theorem dX6_bestWall_77 : decode cX6_bestWall 77 = .ok (.istore_n 3, 1) := by decide +kernel
theorem dX6_bestWall_78 : decode cX6_bestWall 78 = .ok (.iload 4, 2) := by decide +kernel
theorem dX6_bestWall_80 : decode cX6_bestWall 80 = .ok (.istore_n 2, 1) := by decide +kernel
theorem dX6_bestWall_81 : decode cX6_bestWall 81 = .ok (.iinc 4 1, 3) := by decide +kernel
theorem dX6_bestWall_84 : decode cX6_bestWall 84 = .ok (.goto (-62), 3) := by decide +kernel
theorem dX6_bestWall_87 : decode cX6_bestWall 87 = .ok (.iload_n 1, 1) := by decide +kernel
theorem dX6_bestWall_88 : decode cX6_bestWall 88 = .ok (.ifCond .ne 7, 3) := by decide +kernel
theorem dX6_bestWall_91 : decode cX6_bestWall 91 = .ok (.iload_n 2, 1) := by decide +kernel
theorem dX6_bestWall_92 : decode cX6_bestWall 92 = .ok (.goto 4, 3) := by decide +kernel
theorem dX6_bestWall_95 : decode cX6_bestWall 95 = .ok (.iload_n 3, 1) := by decide +kernel
theorem dX6_bestWall_96 : decode cX6_bestWall 96 = .ok (.ireturn, 1) := by decide +kernel
theorem dX6_bestCell_0 : decode cX6_bestCell 0 = .ok (.iload_n 1, 1) := by decide +kernel
theorem dX6_bestCell_1 : decode cX6_bestCell 1 = .ok (.invokestatic 59, 3) := by decide +kernel
theorem dX6_bestCell_4 : decode cX6_bestCell 4 = .ok (.ifCond .eq 11, 3) := by decide +kernel
theorem dX6_bestCell_7 : decode cX6_bestCell 7 = .ok (.iload_n 2, 1) := by decide +kernel
theorem dX6_bestCell_8 : decode cX6_bestCell 8 = .ok (.iconst 1, 1) := by decide +kernel
theorem dX6_bestCell_9 : decode cX6_bestCell 9 = .ok (.invokestatic 81, 3) := by decide +kernel
theorem dX6_bestCell_12 : decode cX6_bestCell 12 = .ok (.ifCond .ne 10, 3) := by decide +kernel
theorem dX6_bestCell_15 : decode cX6_bestCell 15 = .ok (.aload_n 0, 1) := by decide +kernel
theorem dX6_bestCell_16 : decode cX6_bestCell 16 = .ok (.bipush (-2), 2) := by decide +kernel
theorem dX6_bestCell_18 : decode cX6_bestCell 18 = .ok (.invokevirtual 62, 3) := by decide +kernel
theorem dX6_bestCell_21 : decode cX6_bestCell 21 = .ok (.ireturn, 1) := by decide +kernel
theorem dX6_bestCell_22 : decode cX6_bestCell 22 = .ok (.aload_n 0, 1) := by decide +kernel
theorem dX6_bestCell_23 : decode cX6_bestCell 23 = .ok (.getfield 10, 3) := by decide +kernel
theorem dX6_bestCell_26 : decode cX6_bestCell 26 = .ok (.getfield 69, 3) := by decide +kernel
theorem dX6_bestCell_29 : decode cX6_bestCell 29 = .ok (.bipush 12, 2) := by decide +kernel
theorem dX6_bestCell_31 : decode cX6_bestCell 31 = .ok (.if_icmp .lt 10, 3) := by decide +kernel
theorem dX6_bestCell_34 : decode cX6_bestCell 34 = .ok (.aload_n 0, 1) := by decide +kernel
theorem dX6_bestCell_35 : decode cX6_bestCell 35 = .ok (.bipush (-3), 2) := by decide +kernel
theorem dX6_bestCell_37 : decode cX6_bestCell 37 = .ok (.invokevirtual 62, 3) := by decide +kernel
theorem dX6_bestCell_40 : decode cX6_bestCell 40 = .ok (.ireturn, 1) := by decide +kernel
theorem dX6_bestCell_41 : decode cX6_bestCell 41 = .ok (.iconst (-1), 1) := by decide +kernel
theorem dX6_bestCell_42 : decode cX6_bestCell 42 = .ok (.istore_n 3, 1) := by decide +kernel
theorem dX6_bestCell_43 : decode cX6_bestCell 43 = .ok (.iconst (-1), 1) := by decide +kernel
theorem dX6_bestCell_44 : decode cX6_bestCell 44 = .ok (.istore 4, 2) := by decide +kernel
theorem dX6_bestCell_46 : decode cX6_bestCell 46 = .ok (.iconst 0, 1) := by decide +kernel
theorem dX6_bestCell_47 : decode cX6_bestCell 47 = .ok (.istore 5, 2) := by decide +kernel
theorem dX6_bestCell_49 : decode cX6_bestCell 49 = .ok (.iload 5, 2) := by decide +kernel
theorem dX6_bestCell_51 : decode cX6_bestCell 51 = .ok (.bipush 96, 2) := by decide +kernel
theorem dX6_bestCell_53 : decode cX6_bestCell 53 = .ok (.if_icmp .ge 55, 3) := by decide +kernel
theorem dX6_bestCell_56 : decode cX6_bestCell 56 = .ok (.aload_n 0, 1) := by decide +kernel
theorem dX6_bestCell_57 : decode cX6_bestCell 57 = .ok (.getfield 10, 3) := by decide +kernel
theorem dX6_bestCell_60 : decode cX6_bestCell 60 = .ok (.iload 5, 2) := by decide +kernel
theorem dX6_bestCell_62 : decode cX6_bestCell 62 = .ok (.invokevirtual 66, 3) := by decide +kernel
theorem dX6_bestCell_65 : decode cX6_bestCell 65 = .ok (.ifCond .eq 7, 3) := by decide +kernel
theorem dX6_bestCell_68 : decode cX6_bestCell 68 = .ok (.iconst (-1), 1) := by decide +kernel
theorem dX6_bestCell_69 : decode cX6_bestCell 69 = .ok (.goto 17, 3) := by decide +kernel
theorem dX6_bestCell_72 : decode cX6_bestCell 72 = .ok (.aload_n 0, 1) := by decide +kernel
theorem dX6_bestCell_73 : decode cX6_bestCell 73 = .ok (.getfield 40, 3) := by decide +kernel
theorem dX6_bestCell_76 : decode cX6_bestCell 76 = .ok (.aload_n 0, 1) := by decide +kernel
theorem dX6_bestCell_77 : decode cX6_bestCell 77 = .ok (.getfield 10, 3) := by decide +kernel
theorem dX6_bestCell_80 : decode cX6_bestCell 80 = .ok (.iload 5, 2) := by decide +kernel
theorem dX6_bestCell_82 : decode cX6_bestCell 82 = .ok (.iload_n 1, 1) := by decide +kernel
theorem dX6_bestCell_83 : decode cX6_bestCell 83 = .ok (.invokevirtual 184, 3) := by decide +kernel
theorem dX6_bestCell_86 : decode cX6_bestCell 86 = .ok (.istore 6, 2) := by decide +kernel
theorem dX6_bestCell_88 : decode cX6_bestCell 88 = .ok (.iload 6, 2) := by decide +kernel
theorem dX6_bestCell_90 : decode cX6_bestCell 90 = .ok (.iload 4, 2) := by decide +kernel
theorem dX6_bestCell_92 : decode cX6_bestCell 92 = .ok (.if_icmp .le 10, 3) := by decide +kernel
theorem dX6_bestCell_95 : decode cX6_bestCell 95 = .ok (.iload 6, 2) := by decide +kernel
theorem dX6_bestCell_97 : decode cX6_bestCell 97 = .ok (.istore 4, 2) := by decide +kernel
theorem dX6_bestCell_99 : decode cX6_bestCell 99 = .ok (.iload 5, 2) := by decide +kernel
theorem dX6_bestCell_101 : decode cX6_bestCell 101 = .ok (.istore_n 3, 1) := by decide +kernel
theorem dX6_bestCell_102 : decode cX6_bestCell 102 = .ok (.iinc 5 1, 3) := by decide +kernel
theorem dX6_bestCell_105 : decode cX6_bestCell 105 = .ok (.goto (-56), 3) := by decide +kernel
theorem dX6_bestCell_108 : decode cX6_bestCell 108 = .ok (.iload_n 2, 1) := by decide +kernel
theorem dX6_bestCell_109 : decode cX6_bestCell 109 = .ok (.ifCond .ne 7, 3) := by decide +kernel
theorem dX6_bestCell_112 : decode cX6_bestCell 112 = .ok (.iload_n 3, 1) := by decide +kernel
theorem dX6_bestCell_113 : decode cX6_bestCell 113 = .ok (.goto 5, 3) := by decide +kernel
theorem dX6_bestCell_116 : decode cX6_bestCell 116 = .ok (.iload 4, 2) := by decide +kernel
theorem dX6_bestCell_118 : decode cX6_bestCell 118 = .ok (.ireturn, 1) := by decide +kernel
theorem dX6_type_0 : decode cX6_type 0 = .ok (.iload_n 1, 1) := by decide +kernel
theorem dX6_type_1 : decode cX6_type 1 = .ok (.bipush 127, 2) := by decide +kernel
theorem dX6_type_3 : decode cX6_type 3 = .ok (.invokestatic 81, 3) := by decide +kernel
theorem dX6_type_6 : decode cX6_type 6 = .ok (.ifCond .ne 10, 3) := by decide +kernel
theorem dX6_type_9 : decode cX6_type 9 = .ok (.aload_n 0, 1) := by decide +kernel
theorem dX6_type_10 : decode cX6_type 10 = .ok (.bipush (-2), 2) := by decide +kernel
theorem dX6_type_12 : decode cX6_type 12 = .ok (.invokevirtual 62, 3) := by decide +kernel
theorem dX6_type_15 : decode cX6_type 15 = .ok (.ireturn, 1) := by decide +kernel
theorem dX6_type_16 : decode cX6_type 16 = .ok (.aload_n 0, 1) := by decide +kernel
theorem dX6_type_17 : decode cX6_type 17 = .ok (.getfield 47, 3) := by decide +kernel
theorem dX6_type_20 : decode cX6_type 20 = .ok (.getfield 188, 3) := by decide +kernel
theorem dX6_type_23 : decode cX6_type 23 = .ok (.bipush 120, 2) := by decide +kernel
theorem dX6_type_25 : decode cX6_type 25 = .ok (.if_icmp .lt 10, 3) := by decide +kernel
theorem dX6_type_28 : decode cX6_type 28 = .ok (.aload_n 0, 1) := by decide +kernel
theorem dX6_type_29 : decode cX6_type 29 = .ok (.bipush (-4), 2) := by decide +kernel
theorem dX6_type_31 : decode cX6_type 31 = .ok (.invokevirtual 62, 3) := by decide +kernel
theorem dX6_type_34 : decode cX6_type 34 = .ok (.ireturn, 1) := by decide +kernel
theorem dX6_type_35 : decode cX6_type 35 = .ok (.aload_n 0, 1) := by decide +kernel
theorem dX6_type_36 : decode cX6_type 36 = .ok (.getfield 47, 3) := by decide +kernel
theorem dX6_type_39 : decode cX6_type 39 = .ok (.iload_n 1, 1) := by decide +kernel
theorem dX6_type_40 : decode cX6_type 40 = .ok (.invokevirtual 191, 3) := by decide +kernel
theorem dX6_type_43 : decode cX6_type 43 = .ok (.aload_n 0, 1) := by decide +kernel
theorem dX6_type_44 : decode cX6_type 44 = .ok (.getfield 47, 3) := by decide +kernel
theorem dX6_type_47 : decode cX6_type 47 = .ok (.getfield 188, 3) := by decide +kernel
theorem dX6_type_50 : decode cX6_type 50 = .ok (.ireturn, 1) := by decide +kernel
theorem dX6_clear_0 : decode cX6_clear 0 = .ok (.aload_n 0, 1) := by decide +kernel
theorem dX6_clear_1 : decode cX6_clear 1 = .ok (.getfield 47, 3) := by decide +kernel
theorem dX6_clear_4 : decode cX6_clear 4 = .ok (.getfield 188, 3) := by decide +kernel
theorem dX6_clear_7 : decode cX6_clear 7 = .ok (.istore_n 1, 1) := by decide +kernel
theorem dX6_clear_8 : decode cX6_clear 8 = .ok (.aload_n 0, 1) := by decide +kernel
theorem dX6_clear_9 : decode cX6_clear 9 = .ok (.getfield 47, 3) := by decide +kernel
theorem dX6_clear_12 : decode cX6_clear 12 = .ok (.iconst 0, 1) := by decide +kernel
theorem dX6_clear_13 : decode cX6_clear 13 = .ok (.putfield 188, 3) := by decide +kernel
theorem dX6_clear_16 : decode cX6_clear 16 = .ok (.iload_n 1, 1) := by decide +kernel
theorem dX6_clear_17 : decode cX6_clear 17 = .ok (.ireturn, 1) := by decide +kernel
theorem dX6_does_0 : decode cX6_does 0 = .ok (.aload_n 0, 1) := by decide +kernel
theorem dX6_does_1 : decode cX6_does 1 = .ok (.getfield 40, 3) := by decide +kernel
theorem dX6_does_4 : decode cX6_does 4 = .ok (.aload_n 0, 1) := by decide +kernel
theorem dX6_does_5 : decode cX6_does 5 = .ok (.getfield 10, 3) := by decide +kernel
theorem dX6_does_8 : decode cX6_does 8 = .ok (.invokevirtual 164, 3) := by decide +kernel
theorem dX6_does_11 : decode cX6_does 11 = .ok (.aload_n 0, 1) := by decide +kernel
theorem dX6_does_12 : decode cX6_does 12 = .ok (.getfield 40, 3) := by decide +kernel
theorem dX6_does_15 : decode cX6_does 15 = .ok (.getfield 194, 3) := by decide +kernel
theorem dX6_does_18 : decode cX6_does 18 = .ok (.aload_n 0, 1) := by decide +kernel
theorem dX6_does_19 : decode cX6_does 19 = .ok (.getfield 26, 3) := by decide +kernel
theorem dX6_does_22 : decode cX6_does 22 = .ok (.invokevirtual 197, 3) := by decide +kernel
theorem dX6_does_25 : decode cX6_does 25 = .ok (.aload_n 0, 1) := by decide +kernel
theorem dX6_does_26 : decode cX6_does 26 = .ok (.getfield 47, 3) := by decide +kernel
theorem dX6_does_29 : decode cX6_does 29 = .ok (.aload_n 0, 1) := by decide +kernel
theorem dX6_does_30 : decode cX6_does 30 = .ok (.getfield 40, 3) := by decide +kernel
theorem dX6_does_33 : decode cX6_does 33 = .ok (.invokevirtual 201, 3) := by decide +kernel
theorem dX6_does_36 : decode cX6_does 36 = .ok (.istore_n 1, 1) := by decide +kernel
theorem dX6_does_37 : decode cX6_does 37 = .ok (.iload_n 1, 1) := by decide +kernel
theorem dX6_does_38 : decode cX6_does 38 = .ok (.iconst (-1), 1) := by decide +kernel
theorem dX6_does_39 : decode cX6_does 39 = .ok (.if_icmp .eq 8, 3) := by decide +kernel
theorem dX6_does_42 : decode cX6_does 42 = .ok (.bipush (-10), 2) := by decide +kernel
theorem dX6_does_44 : decode cX6_does 44 = .ok (.iload_n 1, 1) := by decide +kernel
theorem dX6_does_45 : decode cX6_does 45 = .ok (.isub, 1) := by decide +kernel
theorem dX6_does_46 : decode cX6_does 46 = .ok (.ireturn, 1) := by decide +kernel
theorem dX6_does_47 : decode cX6_does 47 = .ok (.aload_n 0, 1) := by decide +kernel
theorem dX6_does_48 : decode cX6_does 48 = .ok (.getfield 33, 3) := by decide +kernel
theorem dX6_does_51 : decode cX6_does 51 = .ok (.aload_n 0, 1) := by decide +kernel
theorem dX6_does_52 : decode cX6_does 52 = .ok (.getfield 10, 3) := by decide +kernel
theorem dX6_does_55 : decode cX6_does 55 = .ok (.invokevirtual 73, 3) := by decide +kernel
theorem dX6_does_58 : decode cX6_does 58 = .ok (.aload_n 0, 1) := by decide +kernel
theorem dX6_does_59 : decode cX6_does 59 = .ok (.getfield 10, 3) := by decide +kernel
theorem dX6_does_62 : decode cX6_does 62 = .ok (.aload_n 0, 1) := by decide +kernel
theorem dX6_does_63 : decode cX6_does 63 = .ok (.getfield 40, 3) := by decide +kernel
theorem dX6_does_66 : decode cX6_does 66 = .ok (.getfield 169, 3) := by decide +kernel
theorem dX6_does_69 : decode cX6_does 69 = .ok (.invokevirtual 205, 3) := by decide +kernel
theorem dX6_does_72 : decode cX6_does 72 = .ok (.aload_n 0, 1) := by decide +kernel
theorem dX6_does_73 : decode cX6_does 73 = .ok (.getfield 26, 3) := by decide +kernel
theorem dX6_does_76 : decode cX6_does 76 = .ok (.aload_n 0, 1) := by decide +kernel
theorem dX6_does_77 : decode cX6_does 77 = .ok (.getfield 40, 3) := by decide +kernel
theorem dX6_does_80 : decode cX6_does 80 = .ok (.getfield 194, 3) := by decide +kernel
theorem dX6_does_83 : decode cX6_does 83 = .ok (.invokevirtual 197, 3) := by decide +kernel
theorem dX6_does_86 : decode cX6_does 86 = .ok (.aload_n 0, 1) := by decide +kernel
theorem dX6_does_87 : decode cX6_does 87 = .ok (.getfield 10, 3) := by decide +kernel
theorem dX6_does_90 : decode cX6_does 90 = .ok (.invokevirtual 113, 3) := by decide +kernel
theorem dX6_does_93 : decode cX6_does 93 = .ok (.ireturn, 1) := by decide +kernel
theorem dX6_back_0 : decode cX6_back 0 = .ok (.aload_n 0, 1) := by decide +kernel
theorem dX6_back_1 : decode cX6_back 1 = .ok (.getfield 33, 3) := by decide +kernel
theorem dX6_back_4 : decode cX6_back 4 = .ok (.getfield 207, 3) := by decide +kernel
theorem dX6_back_7 : decode cX6_back 7 = .ok (.ifCond .ne 10, 3) := by decide +kernel
theorem dX6_back_10 : decode cX6_back 10 = .ok (.aload_n 0, 1) := by decide +kernel
theorem dX6_back_11 : decode cX6_back 11 = .ok (.bipush (-3), 2) := by decide +kernel
theorem dX6_back_13 : decode cX6_back 13 = .ok (.invokevirtual 62, 3) := by decide +kernel
theorem dX6_back_16 : decode cX6_back 16 = .ok (.ireturn, 1) := by decide +kernel
theorem dX6_back_17 : decode cX6_back 17 = .ok (.aload_n 0, 1) := by decide +kernel
theorem dX6_back_18 : decode cX6_back 18 = .ok (.getfield 33, 3) := by decide +kernel
theorem dX6_back_21 : decode cX6_back 21 = .ok (.aload_n 0, 1) := by decide +kernel
theorem dX6_back_22 : decode cX6_back 22 = .ok (.getfield 10, 3) := by decide +kernel
theorem dX6_back_25 : decode cX6_back 25 = .ok (.invokevirtual 210, 3) := by decide +kernel
theorem dX6_back_28 : decode cX6_back 28 = .ok (.aload_n 0, 1) := by decide +kernel
theorem dX6_back_29 : decode cX6_back 29 = .ok (.getfield 26, 3) := by decide +kernel
theorem dX6_back_32 : decode cX6_back 32 = .ok (.invokevirtual 110, 3) := by decide +kernel
theorem dX6_back_35 : decode cX6_back 35 = .ok (.aload_n 0, 1) := by decide +kernel
theorem dX6_back_36 : decode cX6_back 36 = .ok (.getfield 33, 3) := by decide +kernel
theorem dX6_back_39 : decode cX6_back 39 = .ok (.getfield 207, 3) := by decide +kernel
theorem dX6_back_42 : decode cX6_back 42 = .ok (.ireturn, 1) := by decide +kernel
theorem dX6_told_0 : decode cX6_told 0 = .ok (.iload_n 1, 1) := by decide +kernel
theorem dX6_told_1 : decode cX6_told 1 = .ok (.iconst 5, 1) := by decide +kernel
theorem dX6_told_2 : decode cX6_told 2 = .ok (.invokestatic 81, 3) := by decide +kernel
theorem dX6_told_5 : decode cX6_told 5 = .ok (.ifCond .eq 11, 3) := by decide +kernel
theorem dX6_told_8 : decode cX6_told 8 = .ok (.aload_n 0, 1) := by decide +kernel
theorem dX6_told_9 : decode cX6_told 9 = .ok (.iload_n 1, 1) := by decide +kernel
theorem dX6_told_10 : decode cX6_told 10 = .ok (.invokevirtual 213, 3) := by decide +kernel
theorem dX6_told_13 : decode cX6_told 13 = .ok (.goto 9, 3) := by decide +kernel
theorem dX6_told_16 : decode cX6_told 16 = .ok (.aload_n 0, 1) := by decide +kernel
theorem dX6_told_17 : decode cX6_told 17 = .ok (.bipush (-2), 2) := by decide +kernel
theorem dX6_told_19 : decode cX6_told 19 = .ok (.invokevirtual 62, 3) := by decide +kernel
theorem dX6_told_22 : decode cX6_told 22 = .ok (.ireturn, 1) := by decide +kernel
theorem dX6_digest_0 : decode cX6_digest 0 = .ok (.aload_n 0, 1) := by decide +kernel
theorem dX6_digest_1 : decode cX6_digest 1 = .ok (.getfield 19, 3) := by decide +kernel
theorem dX6_digest_4 : decode cX6_digest 4 = .ok (.aload_n 0, 1) := by decide +kernel
theorem dX6_digest_5 : decode cX6_digest 5 = .ok (.getfield 10, 3) := by decide +kernel
theorem dX6_digest_8 : decode cX6_digest 8 = .ok (.invokevirtual 123, 3) := by decide +kernel
theorem dX6_digest_11 : decode cX6_digest 11 = .ok (.ldc2_w 216, 3) := by decide +kernel
theorem dX6_digest_14 : decode cX6_digest 14 = .ok (.lstore_n 1, 1) := by decide +kernel
theorem dX6_digest_15 : decode cX6_digest 15 = .ok (.iconst 0, 1) := by decide +kernel
theorem dX6_digest_16 : decode cX6_digest 16 = .ok (.istore_n 3, 1) := by decide +kernel
theorem dX6_digest_17 : decode cX6_digest 17 = .ok (.iload_n 3, 1) := by decide +kernel
theorem dX6_digest_18 : decode cX6_digest 18 = .ok (.iconst 5, 1) := by decide +kernel
theorem dX6_digest_19 : decode cX6_digest 19 = .ok (.if_icmp .gt 22, 3) := by decide +kernel
theorem dX6_digest_22 : decode cX6_digest 22 = .ok (.ldc2_w 218, 3) := by decide +kernel
theorem dX6_digest_25 : decode cX6_digest 25 = .ok (.lload_n 1, 1) := by decide +kernel
theorem dX6_digest_26 : decode cX6_digest 26 = .ok (.lmul, 1) := by decide +kernel
theorem dX6_digest_27 : decode cX6_digest 27 = .ok (.aload_n 0, 1) := by decide +kernel
theorem dX6_digest_28 : decode cX6_digest 28 = .ok (.iload_n 3, 1) := by decide +kernel
theorem dX6_digest_29 : decode cX6_digest 29 = .ok (.invokevirtual 213, 3) := by decide +kernel
theorem dX6_digest_32 : decode cX6_digest 32 = .ok (.i2l, 1) := by decide +kernel
theorem dX6_digest_33 : decode cX6_digest 33 = .ok (.ladd, 1) := by decide +kernel
theorem dX6_digest_34 : decode cX6_digest 34 = .ok (.lstore_n 1, 1) := by decide +kernel
theorem dX6_digest_35 : decode cX6_digest 35 = .ok (.iinc 3 1, 3) := by decide +kernel
theorem dX6_digest_38 : decode cX6_digest 38 = .ok (.goto (-21), 3) := by decide +kernel
theorem dX6_digest_41 : decode cX6_digest 41 = .ok (.iconst 0, 1) := by decide +kernel
theorem dX6_digest_42 : decode cX6_digest 42 = .ok (.istore_n 3, 1) := by decide +kernel
theorem dX6_digest_43 : decode cX6_digest 43 = .ok (.iload_n 3, 1) := by decide +kernel
theorem dX6_digest_44 : decode cX6_digest 44 = .ok (.bipush 7, 2) := by decide +kernel
theorem dX6_digest_46 : decode cX6_digest 46 = .ok (.if_icmp .gt 22, 3) := by decide +kernel
theorem dX6_digest_49 : decode cX6_digest 49 = .ok (.ldc2_w 218, 3) := by decide +kernel
theorem dX6_digest_52 : decode cX6_digest 52 = .ok (.lload_n 1, 1) := by decide +kernel
theorem dX6_digest_53 : decode cX6_digest 53 = .ok (.lmul, 1) := by decide +kernel
theorem dX6_digest_54 : decode cX6_digest 54 = .ok (.aload_n 0, 1) := by decide +kernel
theorem dX6_digest_55 : decode cX6_digest 55 = .ok (.iload_n 3, 1) := by decide +kernel
theorem dX6_digest_56 : decode cX6_digest 56 = .ok (.invokevirtual 133, 3) := by decide +kernel
theorem dX6_digest_59 : decode cX6_digest 59 = .ok (.i2l, 1) := by decide +kernel
theorem dX6_digest_60 : decode cX6_digest 60 = .ok (.ladd, 1) := by decide +kernel
theorem dX6_digest_61 : decode cX6_digest 61 = .ok (.lstore_n 1, 1) := by decide +kernel
theorem dX6_digest_62 : decode cX6_digest 62 = .ok (.iinc 3 1, 3) := by decide +kernel
theorem dX6_digest_65 : decode cX6_digest 65 = .ok (.goto (-22), 3) := by decide +kernel
theorem dX6_digest_68 : decode cX6_digest 68 = .ok (.iconst 0, 1) := by decide +kernel
theorem dX6_digest_69 : decode cX6_digest 69 = .ok (.istore_n 3, 1) := by decide +kernel
theorem dX6_digest_70 : decode cX6_digest 70 = .ok (.iload_n 3, 1) := by decide +kernel
theorem dX6_digest_71 : decode cX6_digest 71 = .ok (.aload_n 0, 1) := by decide +kernel
theorem dX6_digest_72 : decode cX6_digest 72 = .ok (.getfield 10, 3) := by decide +kernel
theorem dX6_digest_75 : decode cX6_digest 75 = .ok (.getfield 69, 3) := by decide +kernel
theorem dX6_digest_78 : decode cX6_digest 78 = .ok (.if_icmp .ge 39, 3) := by decide +kernel
theorem dX6_digest_81 : decode cX6_digest 81 = .ok (.iconst 0, 1) := by decide +kernel
theorem dX6_digest_82 : decode cX6_digest 82 = .ok (.istore 4, 2) := by decide +kernel
theorem dX6_digest_84 : decode cX6_digest 84 = .ok (.iload 4, 2) := by decide +kernel
theorem dX6_digest_86 : decode cX6_digest 86 = .ok (.iconst 4, 1) := by decide +kernel
theorem dX6_digest_87 : decode cX6_digest 87 = .ok (.if_icmp .gt 24, 3) := by decide +kernel
theorem dX6_digest_90 : decode cX6_digest 90 = .ok (.ldc2_w 218, 3) := by decide +kernel
theorem dX6_digest_93 : decode cX6_digest 93 = .ok (.lload_n 1, 1) := by decide +kernel
theorem dX6_digest_94 : decode cX6_digest 94 = .ok (.lmul, 1) := by decide +kernel
theorem dX6_digest_95 : decode cX6_digest 95 = .ok (.aload_n 0, 1) := by decide +kernel
theorem dX6_digest_96 : decode cX6_digest 96 = .ok (.iload_n 3, 1) := by decide +kernel
theorem dX6_digest_97 : decode cX6_digest 97 = .ok (.iload 4, 2) := by decide +kernel
theorem dX6_digest_99 : decode cX6_digest 99 = .ok (.invokevirtual 126, 3) := by decide +kernel
theorem dX6_digest_102 : decode cX6_digest 102 = .ok (.i2l, 1) := by decide +kernel
theorem dX6_digest_103 : decode cX6_digest 103 = .ok (.ladd, 1) := by decide +kernel
theorem dX6_digest_104 : decode cX6_digest 104 = .ok (.lstore_n 1, 1) := by decide +kernel
theorem dX6_digest_105 : decode cX6_digest 105 = .ok (.iinc 4 1, 3) := by decide +kernel
theorem dX6_digest_108 : decode cX6_digest 108 = .ok (.goto (-24), 3) := by decide +kernel
theorem dX6_digest_111 : decode cX6_digest 111 = .ok (.iinc 3 1, 3) := by decide +kernel
theorem dX6_digest_114 : decode cX6_digest 114 = .ok (.goto (-44), 3) := by decide +kernel
theorem dX6_digest_117 : decode cX6_digest 117 = .ok (.iconst 0, 1) := by decide +kernel
theorem dX6_digest_118 : decode cX6_digest 118 = .ok (.istore_n 3, 1) := by decide +kernel
theorem dX6_digest_119 : decode cX6_digest 119 = .ok (.iload_n 3, 1) := by decide +kernel
theorem dX6_digest_120 : decode cX6_digest 120 = .ok (.bipush 96, 2) := by decide +kernel
theorem dX6_digest_122 : decode cX6_digest 122 = .ok (.if_icmp .ge 26, 3) := by decide +kernel
theorem dX6_digest_125 : decode cX6_digest 125 = .ok (.ldc2_w 218, 3) := by decide +kernel
theorem dX6_digest_128 : decode cX6_digest 128 = .ok (.lload_n 1, 1) := by decide +kernel
theorem dX6_digest_129 : decode cX6_digest 129 = .ok (.lmul, 1) := by decide +kernel
theorem dX6_digest_130 : decode cX6_digest 130 = .ok (.aload_n 0, 1) := by decide +kernel
theorem dX6_digest_131 : decode cX6_digest 131 = .ok (.getfield 10, 3) := by decide +kernel
theorem dX6_digest_134 : decode cX6_digest 134 = .ok (.getfield 85, 3) := by decide +kernel
theorem dX6_digest_137 : decode cX6_digest 137 = .ok (.iload_n 3, 1) := by decide +kernel
theorem dX6_digest_138 : decode cX6_digest 138 = .ok (.iaload, 1) := by decide +kernel
theorem dX6_digest_139 : decode cX6_digest 139 = .ok (.i2l, 1) := by decide +kernel
theorem dX6_digest_140 : decode cX6_digest 140 = .ok (.ladd, 1) := by decide +kernel
theorem dX6_digest_141 : decode cX6_digest 141 = .ok (.lstore_n 1, 1) := by decide +kernel
theorem dX6_digest_142 : decode cX6_digest 142 = .ok (.iinc 3 1, 3) := by decide +kernel
theorem dX6_digest_145 : decode cX6_digest 145 = .ok (.goto (-26), 3) := by decide +kernel
theorem dX6_digest_148 : decode cX6_digest 148 = .ok (.lload_n 1, 1) := by decide +kernel
theorem dX6_digest_149 : decode cX6_digest 149 = .ok (.lreturn, 1) := by decide +kernel
theorem dX6_refuse_0 : decode cX6_refuse 0 = .ok (.iload_n 1, 1) := by decide +kernel
theorem dX6_refuse_1 : decode cX6_refuse 1 = .ok (.bipush (-2), 2) := by decide +kernel
theorem dX6_refuse_3 : decode cX6_refuse 3 = .ok (.if_icmp .ne 16, 3) := by decide +kernel
theorem dX6_refuse_6 : decode cX6_refuse 6 = .ok (.aload_n 0, 1) := by decide +kernel
theorem dX6_refuse_7 : decode cX6_refuse 7 = .ok (.getfield 51, 3) := by decide +kernel
theorem dX6_refuse_10 : decode cX6_refuse 10 = .ok (.iconst 0, 1) := by decide +kernel
theorem dX6_refuse_11 : decode cX6_refuse 11 = .ok (.dup2, 1) := by decide +kernel
theorem dX6_refuse_12 : decode cX6_refuse 12 = .ok (.iaload, 1) := by decide +kernel
theorem dX6_refuse_13 : decode cX6_refuse 13 = .ok (.iconst 1, 1) := by decide +kernel
theorem dX6_refuse_14 : decode cX6_refuse 14 = .ok (.iadd, 1) := by decide +kernel
theorem dX6_refuse_15 : decode cX6_refuse 15 = .ok (.iastore, 1) := by decide +kernel
theorem dX6_refuse_16 : decode cX6_refuse 16 = .ok (.goto 32, 3) := by decide +kernel
theorem dX6_refuse_19 : decode cX6_refuse 19 = .ok (.iload_n 1, 1) := by decide +kernel
theorem dX6_refuse_20 : decode cX6_refuse 20 = .ok (.bipush (-3), 2) := by decide +kernel
theorem dX6_refuse_22 : decode cX6_refuse 22 = .ok (.if_icmp .ne 16, 3) := by decide +kernel
theorem dX6_refuse_25 : decode cX6_refuse 25 = .ok (.aload_n 0, 1) := by decide +kernel
theorem dX6_refuse_26 : decode cX6_refuse 26 = .ok (.getfield 51, 3) := by decide +kernel
theorem dX6_refuse_29 : decode cX6_refuse 29 = .ok (.iconst 1, 1) := by decide +kernel
theorem dX6_refuse_30 : decode cX6_refuse 30 = .ok (.dup2, 1) := by decide +kernel
theorem dX6_refuse_31 : decode cX6_refuse 31 = .ok (.iaload, 1) := by decide +kernel
theorem dX6_refuse_32 : decode cX6_refuse 32 = .ok (.iconst 1, 1) := by decide +kernel
theorem dX6_refuse_33 : decode cX6_refuse 33 = .ok (.iadd, 1) := by decide +kernel
theorem dX6_refuse_34 : decode cX6_refuse 34 = .ok (.iastore, 1) := by decide +kernel
theorem dX6_refuse_35 : decode cX6_refuse 35 = .ok (.goto 13, 3) := by decide +kernel
theorem dX6_refuse_38 : decode cX6_refuse 38 = .ok (.aload_n 0, 1) := by decide +kernel
theorem dX6_refuse_39 : decode cX6_refuse 39 = .ok (.getfield 51, 3) := by decide +kernel
theorem dX6_refuse_42 : decode cX6_refuse 42 = .ok (.iconst 2, 1) := by decide +kernel
theorem dX6_refuse_43 : decode cX6_refuse 43 = .ok (.dup2, 1) := by decide +kernel
theorem dX6_refuse_44 : decode cX6_refuse 44 = .ok (.iaload, 1) := by decide +kernel
theorem dX6_refuse_45 : decode cX6_refuse 45 = .ok (.iconst 1, 1) := by decide +kernel
theorem dX6_refuse_46 : decode cX6_refuse 46 = .ok (.iadd, 1) := by decide +kernel
theorem dX6_refuse_47 : decode cX6_refuse 47 = .ok (.iastore, 1) := by decide +kernel
theorem dX6_refuse_48 : decode cX6_refuse 48 = .ok (.iload_n 1, 1) := by decide +kernel
theorem dX6_refuse_49 : decode cX6_refuse 49 = .ok (.ireturn, 1) := by decide +kernel
theorem dX6_tellCount_0 : decode cX6_tellCount 0 = .ok (.iload_n 1, 1) := by decide +kernel
theorem dX6_tellCount_1 : decode cX6_tellCount 1 = .ok (.tableswitch 61 0 4 #[35, 35, 35, 42, 50], 35) := by decide +kernel
theorem dX6_tellCount_36 : decode cX6_tellCount 36 = .ok (.aload_n 0, 1) := by decide +kernel
theorem dX6_tellCount_37 : decode cX6_tellCount 37 = .ok (.getfield 51, 3) := by decide +kernel
theorem dX6_tellCount_40 : decode cX6_tellCount 40 = .ok (.iload_n 1, 1) := by decide +kernel
theorem dX6_tellCount_41 : decode cX6_tellCount 41 = .ok (.iaload, 1) := by decide +kernel
theorem dX6_tellCount_42 : decode cX6_tellCount 42 = .ok (.ireturn, 1) := by decide +kernel
theorem dX6_tellCount_43 : decode cX6_tellCount 43 = .ok (.aload_n 0, 1) := by decide +kernel
theorem dX6_tellCount_44 : decode cX6_tellCount 44 = .ok (.getfield 47, 3) := by decide +kernel
theorem dX6_tellCount_47 : decode cX6_tellCount 47 = .ok (.getfield 188, 3) := by decide +kernel
theorem dX6_tellCount_50 : decode cX6_tellCount 50 = .ok (.ireturn, 1) := by decide +kernel
theorem dX6_tellCount_51 : decode cX6_tellCount 51 = .ok (.aload_n 0, 1) := by decide +kernel
theorem dX6_tellCount_52 : decode cX6_tellCount 52 = .ok (.getfield 10, 3) := by decide +kernel
theorem dX6_tellCount_55 : decode cX6_tellCount 55 = .ok (.getfield 107, 3) := by decide +kernel
theorem dX6_tellCount_58 : decode cX6_tellCount 58 = .ok (.invokestatic 97, 3) := by decide +kernel
theorem dX6_tellCount_61 : decode cX6_tellCount 61 = .ok (.ireturn, 1) := by decide +kernel
theorem dX6_tellCount_62 : decode cX6_tellCount 62 = .ok (.aload_n 0, 1) := by decide +kernel
theorem dX6_tellCount_63 : decode cX6_tellCount 63 = .ok (.getfield 33, 3) := by decide +kernel
theorem dX6_tellCount_66 : decode cX6_tellCount 66 = .ok (.getfield 207, 3) := by decide +kernel
theorem dX6_tellCount_69 : decode cX6_tellCount 69 = .ok (.ireturn, 1) := by decide +kernel
theorem dX6_tellMine_0 : decode cX6_tellMine 0 = .ok (.iload_n 1, 1) := by decide +kernel
theorem dX6_tellMine_1 : decode cX6_tellMine 1 = .ok (.tableswitch 110 0 6 #[43, 51, 59, 71, 79, 91, 102], 43) := by decide +kernel
theorem dX6_tellMine_44 : decode cX6_tellMine 44 = .ok (.aload_n 0, 1) := by decide +kernel
theorem dX6_tellMine_45 : decode cX6_tellMine 45 = .ok (.getfield 10, 3) := by decide +kernel
theorem dX6_tellMine_48 : decode cX6_tellMine 48 = .ok (.getfield 69, 3) := by decide +kernel
theorem dX6_tellMine_51 : decode cX6_tellMine 51 = .ok (.ireturn, 1) := by decide +kernel
theorem dX6_tellMine_52 : decode cX6_tellMine 52 = .ok (.aload_n 0, 1) := by decide +kernel
theorem dX6_tellMine_53 : decode cX6_tellMine 53 = .ok (.getfield 10, 3) := by decide +kernel
theorem dX6_tellMine_56 : decode cX6_tellMine 56 = .ok (.invokevirtual 113, 3) := by decide +kernel
theorem dX6_tellMine_59 : decode cX6_tellMine 59 = .ok (.ireturn, 1) := by decide +kernel
theorem dX6_tellMine_60 : decode cX6_tellMine 60 = .ok (.aload_n 0, 1) := by decide +kernel
theorem dX6_tellMine_61 : decode cX6_tellMine 61 = .ok (.getfield 19, 3) := by decide +kernel
theorem dX6_tellMine_64 : decode cX6_tellMine 64 = .ok (.aload_n 0, 1) := by decide +kernel
theorem dX6_tellMine_65 : decode cX6_tellMine 65 = .ok (.getfield 10, 3) := by decide +kernel
theorem dX6_tellMine_68 : decode cX6_tellMine 68 = .ok (.invokevirtual 220, 3) := by decide +kernel
theorem dX6_tellMine_71 : decode cX6_tellMine 71 = .ok (.ireturn, 1) := by decide +kernel
theorem dX6_tellMine_72 : decode cX6_tellMine 72 = .ok (.aload_n 0, 1) := by decide +kernel
theorem dX6_tellMine_73 : decode cX6_tellMine 73 = .ok (.getfield 19, 3) := by decide +kernel
theorem dX6_tellMine_76 : decode cX6_tellMine 76 = .ok (.invokevirtual 161, 3) := by decide +kernel
theorem dX6_tellMine_79 : decode cX6_tellMine 79 = .ok (.ireturn, 1) := by decide +kernel
theorem dX6_tellMine_80 : decode cX6_tellMine 80 = .ok (.aload_n 0, 1) := by decide +kernel
theorem dX6_tellMine_81 : decode cX6_tellMine 81 = .ok (.getfield 19, 3) := by decide +kernel
theorem dX6_tellMine_84 : decode cX6_tellMine 84 = .ok (.aload_n 0, 1) := by decide +kernel
theorem dX6_tellMine_85 : decode cX6_tellMine 85 = .ok (.getfield 10, 3) := by decide +kernel
theorem dX6_tellMine_88 : decode cX6_tellMine 88 = .ok (.invokevirtual 224, 3) := by decide +kernel
theorem dX6_tellMine_91 : decode cX6_tellMine 91 = .ok (.ireturn, 1) := by decide +kernel
theorem dX6_tellMine_92 : decode cX6_tellMine 92 = .ok (.aload_n 0, 1) := by decide +kernel
theorem dX6_tellMine_93 : decode cX6_tellMine 93 = .ok (.getfield 10, 3) := by decide +kernel
theorem dX6_tellMine_96 : decode cX6_tellMine 96 = .ok (.getfield 85, 3) := by decide +kernel
theorem dX6_tellMine_99 : decode cX6_tellMine 99 = .ok (.invokestatic 97, 3) := by decide +kernel
theorem dX6_tellMine_102 : decode cX6_tellMine 102 = .ok (.ireturn, 1) := by decide +kernel
theorem dX6_tellMine_103 : decode cX6_tellMine 103 = .ok (.aload_n 0, 1) := by decide +kernel
theorem dX6_tellMine_104 : decode cX6_tellMine 104 = .ok (.getfield 10, 3) := by decide +kernel
theorem dX6_tellMine_107 : decode cX6_tellMine 107 = .ok (.invokevirtual 227, 3) := by decide +kernel
theorem dX6_tellMine_110 : decode cX6_tellMine 110 = .ok (.ireturn, 1) := by decide +kernel
theorem dX6_tellMine_111 : decode cX6_tellMine 111 = .ok (.aload_n 0, 1) := by decide +kernel
theorem dX6_tellMine_112 : decode cX6_tellMine 112 = .ok (.getfield 19, 3) := by decide +kernel
theorem dX6_tellMine_115 : decode cX6_tellMine 115 = .ok (.aload_n 0, 1) := by decide +kernel
theorem dX6_tellMine_116 : decode cX6_tellMine 116 = .ok (.getfield 10, 3) := by decide +kernel
theorem dX6_tellMine_119 : decode cX6_tellMine 119 = .ok (.invokevirtual 230, 3) := by decide +kernel
theorem dX6_tellMine_122 : decode cX6_tellMine 122 = .ok (.ireturn, 1) := by decide +kernel
theorem dX6_tellPillar_0 : decode cX6_tellPillar 0 = .ok (.iload_n 2, 1) := by decide +kernel
theorem dX6_tellPillar_1 : decode cX6_tellPillar 1 = .ok (.tableswitch 85 0 4 #[35, 45, 55, 65, 75], 35) := by decide +kernel
theorem dX6_tellPillar_36 : decode cX6_tellPillar 36 = .ok (.aload_n 0, 1) := by decide +kernel
theorem dX6_tellPillar_37 : decode cX6_tellPillar 37 = .ok (.getfield 10, 3) := by decide +kernel
theorem dX6_tellPillar_40 : decode cX6_tellPillar 40 = .ok (.getfield 233, 3) := by decide +kernel
theorem dX6_tellPillar_43 : decode cX6_tellPillar 43 = .ok (.iload_n 1, 1) := by decide +kernel
theorem dX6_tellPillar_44 : decode cX6_tellPillar 44 = .ok (.iaload, 1) := by decide +kernel
theorem dX6_tellPillar_45 : decode cX6_tellPillar 45 = .ok (.ireturn, 1) := by decide +kernel
theorem dX6_tellPillar_46 : decode cX6_tellPillar 46 = .ok (.aload_n 0, 1) := by decide +kernel
theorem dX6_tellPillar_47 : decode cX6_tellPillar 47 = .ok (.getfield 10, 3) := by decide +kernel
theorem dX6_tellPillar_50 : decode cX6_tellPillar 50 = .ok (.getfield 104, 3) := by decide +kernel
theorem dX6_tellPillar_53 : decode cX6_tellPillar 53 = .ok (.iload_n 1, 1) := by decide +kernel
theorem dX6_tellPillar_54 : decode cX6_tellPillar 54 = .ok (.iaload, 1) := by decide +kernel
theorem dX6_tellPillar_55 : decode cX6_tellPillar 55 = .ok (.ireturn, 1) := by decide +kernel
theorem dX6_tellPillar_56 : decode cX6_tellPillar 56 = .ok (.aload_n 0, 1) := by decide +kernel
theorem dX6_tellPillar_57 : decode cX6_tellPillar 57 = .ok (.getfield 10, 3) := by decide +kernel
theorem dX6_tellPillar_60 : decode cX6_tellPillar 60 = .ok (.getfield 117, 3) := by decide +kernel
theorem dX6_tellPillar_63 : decode cX6_tellPillar 63 = .ok (.iload_n 1, 1) := by decide +kernel
theorem dX6_tellPillar_64 : decode cX6_tellPillar 64 = .ok (.iaload, 1) := by decide +kernel
theorem dX6_tellPillar_65 : decode cX6_tellPillar 65 = .ok (.ireturn, 1) := by decide +kernel
theorem dX6_tellPillar_66 : decode cX6_tellPillar 66 = .ok (.aload_n 0, 1) := by decide +kernel
theorem dX6_tellPillar_67 : decode cX6_tellPillar 67 = .ok (.getfield 19, 3) := by decide +kernel
theorem dX6_tellPillar_70 : decode cX6_tellPillar 70 = .ok (.getfield 170, 3) := by decide +kernel
theorem dX6_tellPillar_73 : decode cX6_tellPillar 73 = .ok (.iload_n 1, 1) := by decide +kernel
theorem dX6_tellPillar_74 : decode cX6_tellPillar 74 = .ok (.iaload, 1) := by decide +kernel
theorem dX6_tellPillar_75 : decode cX6_tellPillar 75 = .ok (.ireturn, 1) := by decide +kernel
theorem dX6_tellPillar_76 : decode cX6_tellPillar 76 = .ok (.aload_n 0, 1) := by decide +kernel
theorem dX6_tellPillar_77 : decode cX6_tellPillar 77 = .ok (.getfield 19, 3) := by decide +kernel
theorem dX6_tellPillar_80 : decode cX6_tellPillar 80 = .ok (.getfield 236, 3) := by decide +kernel
theorem dX6_tellPillar_83 : decode cX6_tellPillar 83 = .ok (.iload_n 1, 1) := by decide +kernel
theorem dX6_tellPillar_84 : decode cX6_tellPillar 84 = .ok (.iaload, 1) := by decide +kernel
theorem dX6_tellPillar_85 : decode cX6_tellPillar 85 = .ok (.ireturn, 1) := by decide +kernel
theorem dX6_tellPillar_86 : decode cX6_tellPillar 86 = .ok (.aload_n 0, 1) := by decide +kernel
theorem dX6_tellPillar_87 : decode cX6_tellPillar 87 = .ok (.getfield 10, 3) := by decide +kernel
theorem dX6_tellPillar_90 : decode cX6_tellPillar 90 = .ok (.iload_n 1, 1) := by decide +kernel
theorem dX6_tellPillar_91 : decode cX6_tellPillar 91 = .ok (.invokevirtual 136, 3) := by decide +kernel
theorem dX6_tellPillar_94 : decode cX6_tellPillar 94 = .ok (.ifCond .eq 25, 3) := by decide +kernel
theorem dX6_tellPillar_97 : decode cX6_tellPillar 97 = .ok (.aload_n 0, 1) := by decide +kernel
theorem dX6_tellPillar_98 : decode cX6_tellPillar 98 = .ok (.getfield 10, 3) := by decide +kernel
theorem dX6_tellPillar_101 : decode cX6_tellPillar 101 = .ok (.getfield 104, 3) := by decide +kernel
theorem dX6_tellPillar_104 : decode cX6_tellPillar 104 = .ok (.iload_n 1, 1) := by decide +kernel
theorem dX6_tellPillar_105 : decode cX6_tellPillar 105 = .ok (.iaload, 1) := by decide +kernel
theorem dX6_tellPillar_106 : decode cX6_tellPillar 106 = .ok (.aload_n 0, 1) := by decide +kernel
theorem dX6_tellPillar_107 : decode cX6_tellPillar 107 = .ok (.getfield 19, 3) := by decide +kernel
theorem dX6_tellPillar_110 : decode cX6_tellPillar 110 = .ok (.getfield 170, 3) := by decide +kernel
theorem dX6_tellPillar_113 : decode cX6_tellPillar 113 = .ok (.iload_n 1, 1) := by decide +kernel
theorem dX6_tellPillar_114 : decode cX6_tellPillar 114 = .ok (.iaload, 1) := by decide +kernel
theorem dX6_tellPillar_115 : decode cX6_tellPillar 115 = .ok (.isub, 1) := by decide +kernel
theorem dX6_tellPillar_116 : decode cX6_tellPillar 116 = .ok (.goto 6, 3) := by decide +kernel
theorem dX6_tellPillar_119 : decode cX6_tellPillar 119 = .ok (.sipush (-10000), 3) := by decide +kernel
theorem dX6_tellPillar_122 : decode cX6_tellPillar 122 = .ok (.ireturn, 1) := by decide +kernel
theorem dX6_isWithin_0 : decode cX6_isWithin 0 = .ok (.iload_n 0, 1) := by decide +kernel
theorem dX6_isWithin_1 : decode cX6_isWithin 1 = .ok (.ifCond .lt 12, 3) := by decide +kernel
theorem dX6_isWithin_4 : decode cX6_isWithin 4 = .ok (.iload_n 0, 1) := by decide +kernel
theorem dX6_isWithin_5 : decode cX6_isWithin 5 = .ok (.iload_n 1, 1) := by decide +kernel
theorem dX6_isWithin_6 : decode cX6_isWithin 6 = .ok (.if_icmp .gt 7, 3) := by decide +kernel
theorem dX6_isWithin_9 : decode cX6_isWithin 9 = .ok (.iconst 1, 1) := by decide +kernel
theorem dX6_isWithin_10 : decode cX6_isWithin 10 = .ok (.goto 4, 3) := by decide +kernel
theorem dX6_isWithin_13 : decode cX6_isWithin 13 = .ok (.iconst 0, 1) := by decide +kernel
theorem dX6_isWithin_14 : decode cX6_isWithin 14 = .ok (.ireturn, 1) := by decide +kernel
theorem dX6_isCell_0 : decode cX6_isCell 0 = .ok (.iload_n 0, 1) := by decide +kernel
theorem dX6_isCell_1 : decode cX6_isCell 1 = .ok (.bipush 95, 2) := by decide +kernel
theorem dX6_isCell_3 : decode cX6_isCell 3 = .ok (.invokestatic 81, 3) := by decide +kernel
theorem dX6_isCell_6 : decode cX6_isCell 6 = .ok (.ireturn, 1) := by decide +kernel
theorem dX6_isStrength_0 : decode cX6_isStrength 0 = .ok (.iload_n 0, 1) := by decide +kernel
theorem dX6_isStrength_1 : decode cX6_isStrength 1 = .ok (.sipush 999, 3) := by decide +kernel
theorem dX6_isStrength_4 : decode cX6_isStrength 4 = .ok (.invokestatic 81, 3) := by decide +kernel
theorem dX6_isStrength_7 : decode cX6_isStrength 7 = .ok (.ireturn, 1) := by decide +kernel
theorem dX6_isWall_0 : decode cX6_isWall 0 = .ok (.iload_n 0, 1) := by decide +kernel
theorem dX6_isWall_1 : decode cX6_isWall 1 = .ok (.bipush 7, 2) := by decide +kernel
theorem dX6_isWall_3 : decode cX6_isWall 3 = .ok (.if_icmp .lt 9, 3) := by decide +kernel
theorem dX6_isWall_6 : decode cX6_isWall 6 = .ok (.iload_n 0, 1) := by decide +kernel
theorem dX6_isWall_7 : decode cX6_isWall 7 = .ok (.bipush 10, 2) := by decide +kernel
theorem dX6_isWall_9 : decode cX6_isWall 9 = .ok (.if_icmp .lt 7, 3) := by decide +kernel
theorem dX6_isWall_12 : decode cX6_isWall 12 = .ok (.iconst 1, 1) := by decide +kernel
theorem dX6_isWall_13 : decode cX6_isWall 13 = .ok (.goto 4, 3) := by decide +kernel
theorem dX6_isWall_16 : decode cX6_isWall 16 = .ok (.iconst 0, 1) := by decide +kernel
theorem dX6_isWall_17 : decode cX6_isWall 17 = .ok (.ireturn, 1) := by decide +kernel
theorem dX6_sum_0 : decode cX6_sum 0 = .ok (.iconst 0, 1) := by decide +kernel
theorem dX6_sum_1 : decode cX6_sum 1 = .ok (.istore_n 1, 1) := by decide +kernel
theorem dX6_sum_2 : decode cX6_sum 2 = .ok (.iconst 0, 1) := by decide +kernel
theorem dX6_sum_3 : decode cX6_sum 3 = .ok (.istore_n 2, 1) := by decide +kernel
theorem dX6_sum_4 : decode cX6_sum 4 = .ok (.iload_n 2, 1) := by decide +kernel
theorem dX6_sum_5 : decode cX6_sum 5 = .ok (.aload_n 0, 1) := by decide +kernel
theorem dX6_sum_6 : decode cX6_sum 6 = .ok (.arraylength, 1) := by decide +kernel
theorem dX6_sum_7 : decode cX6_sum 7 = .ok (.if_icmp .ge 15, 3) := by decide +kernel
theorem dX6_sum_10 : decode cX6_sum 10 = .ok (.iload_n 1, 1) := by decide +kernel
theorem dX6_sum_11 : decode cX6_sum 11 = .ok (.aload_n 0, 1) := by decide +kernel
theorem dX6_sum_12 : decode cX6_sum 12 = .ok (.iload_n 2, 1) := by decide +kernel
theorem dX6_sum_13 : decode cX6_sum 13 = .ok (.iaload, 1) := by decide +kernel
theorem dX6_sum_14 : decode cX6_sum 14 = .ok (.iadd, 1) := by decide +kernel
theorem dX6_sum_15 : decode cX6_sum 15 = .ok (.istore_n 1, 1) := by decide +kernel
theorem dX6_sum_16 : decode cX6_sum 16 = .ok (.iinc 2 1, 3) := by decide +kernel
theorem dX6_sum_19 : decode cX6_sum 19 = .ok (.goto (-15), 3) := by decide +kernel
theorem dX6_sum_22 : decode cX6_sum 22 = .ok (.iload_n 1, 1) := by decide +kernel
theorem dX6_sum_23 : decode cX6_sum 23 = .ok (.ireturn, 1) := by decide +kernel
