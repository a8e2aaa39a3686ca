theorem d_Cel_init_0 : decode b_Cel_init 0 = .ok (.aload_n 0, 1) := by decide +kernel
theorem d_Cel_init_1 : decode b_Cel_init 1 = .ok (.invokespecial 1, 3) := by decide +kernel
theorem d_Cel_init_4 : decode b_Cel_init 4 = .ok (.aload_n 0, 1) := by decide +kernel
theorem d_Cel_init_5 : decode b_Cel_init 5 = .ok (.iload_n 2, 1) := by decide +kernel
theorem d_Cel_init_6 : decode b_Cel_init 6 = .ok (.i2l, 1) := by decide +kernel
theorem d_Cel_init_7 : decode b_Cel_init 7 = .ok (.lconst 1, 1) := by decide +kernel
theorem d_Cel_init_8 : decode b_Cel_init 8 = .ok (.ldc2_w 9, 3) := by decide +kernel
theorem d_Cel_init_11 : decode b_Cel_init 11 = .ok (.invokestatic 11, 3) := by decide +kernel
theorem d_Cel_init_14 : decode b_Cel_init 14 = .ok (.ifCond .eq 7, 3) := by decide +kernel
theorem d_Cel_init_17 : decode b_Cel_init 17 = .ok (.iload_n 2, 1) := by decide +kernel
theorem d_Cel_init_18 : decode b_Cel_init 18 = .ok (.goto 4, 3) := by decide +kernel
theorem d_Cel_init_21 : decode b_Cel_init 21 = .ok (.iconst 1, 1) := by decide +kernel
theorem d_Cel_init_22 : decode b_Cel_init 22 = .ok (.putfield 15, 3) := by decide +kernel
theorem d_Cel_init_25 : decode b_Cel_init 25 = .ok (.aload_n 0, 1) := by decide +kernel
theorem d_Cel_init_26 : decode b_Cel_init 26 = .ok (.iload_n 1, 1) := by decide +kernel
theorem d_Cel_init_27 : decode b_Cel_init 27 = .ok (.i2l, 1) := by decide +kernel
theorem d_Cel_init_28 : decode b_Cel_init 28 = .ok (.lconst 1, 1) := by decide +kernel
theorem d_Cel_init_29 : decode b_Cel_init 29 = .ok (.ldc2_w 19, 3) := by decide +kernel
theorem d_Cel_init_32 : decode b_Cel_init 32 = .ok (.invokestatic 11, 3) := by decide +kernel
theorem d_Cel_init_35 : decode b_Cel_init 35 = .ok (.ifCond .eq 7, 3) := by decide +kernel
theorem d_Cel_init_38 : decode b_Cel_init 38 = .ok (.iload_n 1, 1) := by decide +kernel
theorem d_Cel_init_39 : decode b_Cel_init 39 = .ok (.goto 4, 3) := by decide +kernel
theorem d_Cel_init_42 : decode b_Cel_init 42 = .ok (.iconst 1, 1) := by decide +kernel
theorem d_Cel_init_43 : decode b_Cel_init 43 = .ok (.anewarray 21, 3) := by decide +kernel
theorem d_Cel_init_46 : decode b_Cel_init 46 = .ok (.putfield 23, 3) := by decide +kernel
theorem d_Cel_init_49 : decode b_Cel_init 49 = .ok (.iconst 0, 1) := by decide +kernel
theorem d_Cel_init_50 : decode b_Cel_init 50 = .ok (.istore_n 3, 1) := by decide +kernel
theorem d_Cel_init_51 : decode b_Cel_init 51 = .ok (.iload_n 3, 1) := by decide +kernel
theorem d_Cel_init_52 : decode b_Cel_init 52 = .ok (.aload_n 0, 1) := by decide +kernel
theorem d_Cel_init_53 : decode b_Cel_init 53 = .ok (.getfield 23, 3) := by decide +kernel
theorem d_Cel_init_56 : decode b_Cel_init 56 = .ok (.arraylength, 1) := by decide +kernel
theorem d_Cel_init_57 : decode b_Cel_init 57 = .ok (.if_icmp .ge 22, 3) := by decide +kernel
theorem d_Cel_init_60 : decode b_Cel_init 60 = .ok (.aload_n 0, 1) := by decide +kernel
theorem d_Cel_init_61 : decode b_Cel_init 61 = .ok (.getfield 23, 3) := by decide +kernel
theorem d_Cel_init_64 : decode b_Cel_init 64 = .ok (.iload_n 3, 1) := by decide +kernel
theorem d_Cel_init_65 : decode b_Cel_init 65 = .ok (.new 21, 3) := by decide +kernel
theorem d_Cel_init_68 : decode b_Cel_init 68 = .ok (.dup, 1) := by decide +kernel
theorem d_Cel_init_69 : decode b_Cel_init 69 = .ok (.invokespecial 27, 3) := by decide +kernel
theorem d_Cel_init_72 : decode b_Cel_init 72 = .ok (.aastore, 1) := by decide +kernel
theorem d_Cel_init_73 : decode b_Cel_init 73 = .ok (.iinc 3 1, 3) := by decide +kernel
theorem d_Cel_init_76 : decode b_Cel_init 76 = .ok (.goto (-25), 3) := by decide +kernel
theorem d_Cel_init_79 : decode b_Cel_init 79 = .ok (.aload_n 0, 1) := by decide +kernel
theorem d_Cel_init_80 : decode b_Cel_init 80 = .ok (.iconst 4, 1) := by decide +kernel
theorem d_Cel_init_81 : decode b_Cel_init 81 = .ok (.anewarray 28, 3) := by decide +kernel
theorem d_Cel_init_84 : decode b_Cel_init 84 = .ok (.putfield 30, 3) := by decide +kernel
theorem d_Cel_init_87 : decode b_Cel_init 87 = .ok (.iconst 0, 1) := by decide +kernel
theorem d_Cel_init_88 : decode b_Cel_init 88 = .ok (.istore_n 3, 1) := by decide +kernel
theorem d_Cel_init_89 : decode b_Cel_init 89 = .ok (.iload_n 3, 1) := by decide +kernel
theorem d_Cel_init_90 : decode b_Cel_init 90 = .ok (.iconst 4, 1) := by decide +kernel
theorem d_Cel_init_91 : decode b_Cel_init 91 = .ok (.if_icmp .ge 22, 3) := by decide +kernel
theorem d_Cel_init_94 : decode b_Cel_init 94 = .ok (.aload_n 0, 1) := by decide +kernel
theorem d_Cel_init_95 : decode b_Cel_init 95 = .ok (.getfield 30, 3) := by decide +kernel
theorem d_Cel_init_98 : decode b_Cel_init 98 = .ok (.iload_n 3, 1) := by decide +kernel
theorem d_Cel_init_99 : decode b_Cel_init 99 = .ok (.new 28, 3) := by decide +kernel
theorem d_Cel_init_102 : decode b_Cel_init 102 = .ok (.dup, 1) := by decide +kernel
theorem d_Cel_init_103 : decode b_Cel_init 103 = .ok (.invokespecial 34, 3) := by decide +kernel
theorem d_Cel_init_106 : decode b_Cel_init 106 = .ok (.aastore, 1) := by decide +kernel
theorem d_Cel_init_107 : decode b_Cel_init 107 = .ok (.iinc 3 1, 3) := by decide +kernel
theorem d_Cel_init_110 : decode b_Cel_init 110 = .ok (.goto (-21), 3) := by decide +kernel
theorem d_Cel_init_113 : decode b_Cel_init 113 = .ok (.aload_n 0, 1) := by decide +kernel
theorem d_Cel_init_114 : decode b_Cel_init 114 = .ok (.new 35, 3) := by decide +kernel
theorem d_Cel_init_117 : decode b_Cel_init 117 = .ok (.dup, 1) := by decide +kernel
theorem d_Cel_init_118 : decode b_Cel_init 118 = .ok (.invokespecial 37, 3) := by decide +kernel
theorem d_Cel_init_121 : decode b_Cel_init 121 = .ok (.putfield 38, 3) := by decide +kernel
theorem d_Cel_init_124 : decode b_Cel_init 124 = .ok (.aload_n 0, 1) := by decide +kernel
theorem d_Cel_init_125 : decode b_Cel_init 125 = .ok (.iconst 4, 1) := by decide +kernel
theorem d_Cel_init_126 : decode b_Cel_init 126 = .ok (.anewarray 42, 3) := by decide +kernel
theorem d_Cel_init_129 : decode b_Cel_init 129 = .ok (.putfield 44, 3) := by decide +kernel
theorem d_Cel_init_132 : decode b_Cel_init 132 = .ok (.aload_n 0, 1) := by decide +kernel
theorem d_Cel_init_133 : decode b_Cel_init 133 = .ok (.iconst 4, 1) := by decide +kernel
theorem d_Cel_init_134 : decode b_Cel_init 134 = .ok (.anewarray 48, 3) := by decide +kernel
theorem d_Cel_init_137 : decode b_Cel_init 137 = .ok (.putfield 50, 3) := by decide +kernel
theorem d_Cel_init_140 : decode b_Cel_init 140 = .ok (.return_, 1) := by decide +kernel
theorem d_Cel_density_0 : decode b_Cel_density 0 = .ok (.aload_n 0, 1) := by decide +kernel
theorem d_Cel_density_1 : decode b_Cel_density 1 = .ok (.iload_n 1, 1) := by decide +kernel
theorem d_Cel_density_2 : decode b_Cel_density 2 = .ok (.invokevirtual 54, 3) := by decide +kernel
theorem d_Cel_density_5 : decode b_Cel_density 5 = .ok (.astore_n 3, 1) := by decide +kernel
theorem d_Cel_density_6 : decode b_Cel_density 6 = .ok (.aload_n 3, 1) := by decide +kernel
theorem d_Cel_density_7 : decode b_Cel_density 7 = .ok (.ifnull 17, 3) := by decide +kernel
theorem d_Cel_density_10 : decode b_Cel_density 10 = .ok (.iload_n 2, 1) := by decide +kernel
theorem d_Cel_density_11 : decode b_Cel_density 11 = .ok (.i2l, 1) := by decide +kernel
theorem d_Cel_density_12 : decode b_Cel_density 12 = .ok (.ldc2_w 9, 3) := by decide +kernel
theorem d_Cel_density_15 : decode b_Cel_density 15 = .ok (.ldc2_w 58, 3) := by decide +kernel
theorem d_Cel_density_18 : decode b_Cel_density 18 = .ok (.invokestatic 11, 3) := by decide +kernel
theorem d_Cel_density_21 : decode b_Cel_density 21 = .ok (.ifCond .ne 5, 3) := by decide +kernel
theorem d_Cel_density_24 : decode b_Cel_density 24 = .ok (.iconst 0, 1) := by decide +kernel
theorem d_Cel_density_25 : decode b_Cel_density 25 = .ok (.ireturn, 1) := by decide +kernel
theorem d_Cel_density_26 : decode b_Cel_density 26 = .ok (.aload_n 3, 1) := by decide +kernel
theorem d_Cel_density_27 : decode b_Cel_density 27 = .ok (.iload_n 2, 1) := by decide +kernel
theorem d_Cel_density_28 : decode b_Cel_density 28 = .ok (.putfield 60, 3) := by decide +kernel
theorem d_Cel_density_31 : decode b_Cel_density 31 = .ok (.iconst 1, 1) := by decide +kernel
theorem d_Cel_density_32 : decode b_Cel_density 32 = .ok (.ireturn, 1) := by decide +kernel
theorem d_Cel_row_0 : decode b_Cel_row 0 = .ok (.aload_n 0, 1) := by decide +kernel
theorem d_Cel_row_1 : decode b_Cel_row 1 = .ok (.iload_n 1, 1) := by decide +kernel
theorem d_Cel_row_2 : decode b_Cel_row 2 = .ok (.invokevirtual 54, 3) := by decide +kernel
theorem d_Cel_row_5 : decode b_Cel_row 5 = .ok (.astore 5, 2) := by decide +kernel
theorem d_Cel_row_7 : decode b_Cel_row 7 = .ok (.aload 5, 2) := by decide +kernel
theorem d_Cel_row_9 : decode b_Cel_row 9 = .ok (.ifnull 24, 3) := by decide +kernel
theorem d_Cel_row_12 : decode b_Cel_row 12 = .ok (.aload 5, 2) := by decide +kernel
theorem d_Cel_row_14 : decode b_Cel_row 14 = .ok (.lload_n 2, 1) := by decide +kernel
theorem d_Cel_row_15 : decode b_Cel_row 15 = .ok (.iload 4, 2) := by decide +kernel
theorem d_Cel_row_17 : decode b_Cel_row 17 = .ok (.invokevirtual 63, 3) := by decide +kernel
theorem d_Cel_row_20 : decode b_Cel_row 20 = .ok (.ifCond .eq 13, 3) := by decide +kernel
theorem d_Cel_row_23 : decode b_Cel_row 23 = .ok (.aload_n 0, 1) := by decide +kernel
theorem d_Cel_row_24 : decode b_Cel_row 24 = .ok (.getfield 38, 3) := by decide +kernel
theorem d_Cel_row_27 : decode b_Cel_row 27 = .ok (.invokevirtual 67, 3) := by decide +kernel
theorem d_Cel_row_30 : decode b_Cel_row 30 = .ok (.ifCond .eq 5, 3) := by decide +kernel
theorem d_Cel_row_33 : decode b_Cel_row 33 = .ok (.iconst 0, 1) := by decide +kernel
theorem d_Cel_row_34 : decode b_Cel_row 34 = .ok (.ireturn, 1) := by decide +kernel
theorem d_Cel_row_35 : decode b_Cel_row 35 = .ok (.aload_n 0, 1) := by decide +kernel
theorem d_Cel_row_36 : decode b_Cel_row 36 = .ok (.iconst 0, 1) := by decide +kernel
theorem d_Cel_row_37 : decode b_Cel_row 37 = .ok (.iload_n 1, 1) := by decide +kernel
theorem d_Cel_row_38 : decode b_Cel_row 38 = .ok (.iload 4, 2) := by decide +kernel
theorem d_Cel_row_40 : decode b_Cel_row 40 = .ok (.lload_n 2, 1) := by decide +kernel
theorem d_Cel_row_41 : decode b_Cel_row 41 = .ok (.lconst 0, 1) := by decide +kernel
theorem d_Cel_row_42 : decode b_Cel_row 42 = .ok (.invokevirtual 71, 3) := by decide +kernel
theorem d_Cel_row_45 : decode b_Cel_row 45 = .ok (.iconst 1, 1) := by decide +kernel
theorem d_Cel_row_46 : decode b_Cel_row 46 = .ok (.ireturn, 1) := by decide +kernel
theorem d_Cel_layer_0 : decode b_Cel_layer 0 = .ok (.aload_n 0, 1) := by decide +kernel
theorem d_Cel_layer_1 : decode b_Cel_layer 1 = .ok (.iload_n 1, 1) := by decide +kernel
theorem d_Cel_layer_2 : decode b_Cel_layer 2 = .ok (.invokevirtual 75, 3) := by decide +kernel
theorem d_Cel_layer_5 : decode b_Cel_layer 5 = .ok (.astore 5, 2) := by decide +kernel
theorem d_Cel_layer_7 : decode b_Cel_layer 7 = .ok (.aload_n 0, 1) := by decide +kernel
theorem d_Cel_layer_8 : decode b_Cel_layer 8 = .ok (.iload_n 2, 1) := by decide +kernel
theorem d_Cel_layer_9 : decode b_Cel_layer 9 = .ok (.invokevirtual 54, 3) := by decide +kernel
theorem d_Cel_layer_12 : decode b_Cel_layer 12 = .ok (.astore 6, 2) := by decide +kernel
theorem d_Cel_layer_14 : decode b_Cel_layer 14 = .ok (.aload 5, 2) := by decide +kernel
theorem d_Cel_layer_16 : decode b_Cel_layer 16 = .ok (.ifnull 19, 3) := by decide +kernel
theorem d_Cel_layer_19 : decode b_Cel_layer 19 = .ok (.aload 6, 2) := by decide +kernel
theorem d_Cel_layer_21 : decode b_Cel_layer 21 = .ok (.ifnull 14, 3) := by decide +kernel
theorem d_Cel_layer_24 : decode b_Cel_layer 24 = .ok (.lload_n 3, 1) := by decide +kernel
theorem d_Cel_layer_25 : decode b_Cel_layer 25 = .ok (.lconst 1, 1) := by decide +kernel
theorem d_Cel_layer_26 : decode b_Cel_layer 26 = .ok (.ldc2_w 79, 3) := by decide +kernel
theorem d_Cel_layer_29 : decode b_Cel_layer 29 = .ok (.invokestatic 11, 3) := by decide +kernel
theorem d_Cel_layer_32 : decode b_Cel_layer 32 = .ok (.ifCond .ne 5, 3) := by decide +kernel
theorem d_Cel_layer_35 : decode b_Cel_layer 35 = .ok (.iconst (-1), 1) := by decide +kernel
theorem d_Cel_layer_36 : decode b_Cel_layer 36 = .ok (.ireturn, 1) := by decide +kernel
theorem d_Cel_layer_37 : decode b_Cel_layer 37 = .ok (.aload 5, 2) := by decide +kernel
theorem d_Cel_layer_39 : decode b_Cel_layer 39 = .ok (.invokevirtual 81, 3) := by decide +kernel
theorem d_Cel_layer_42 : decode b_Cel_layer 42 = .ok (.ifCond .ne 13, 3) := by decide +kernel
theorem d_Cel_layer_45 : decode b_Cel_layer 45 = .ok (.aload_n 0, 1) := by decide +kernel
theorem d_Cel_layer_46 : decode b_Cel_layer 46 = .ok (.getfield 38, 3) := by decide +kernel
theorem d_Cel_layer_49 : decode b_Cel_layer 49 = .ok (.invokevirtual 67, 3) := by decide +kernel
theorem d_Cel_layer_52 : decode b_Cel_layer 52 = .ok (.ifCond .eq 5, 3) := by decide +kernel
theorem d_Cel_layer_55 : decode b_Cel_layer 55 = .ok (.iconst (-1), 1) := by decide +kernel
theorem d_Cel_layer_56 : decode b_Cel_layer 56 = .ok (.ireturn, 1) := by decide +kernel
theorem d_Cel_layer_57 : decode b_Cel_layer 57 = .ok (.aload_n 0, 1) := by decide +kernel
theorem d_Cel_layer_58 : decode b_Cel_layer 58 = .ok (.iconst 1, 1) := by decide +kernel
theorem d_Cel_layer_59 : decode b_Cel_layer 59 = .ok (.iload_n 1, 1) := by decide +kernel
theorem d_Cel_layer_60 : decode b_Cel_layer 60 = .ok (.iload_n 2, 1) := by decide +kernel
theorem d_Cel_layer_61 : decode b_Cel_layer 61 = .ok (.lload_n 3, 1) := by decide +kernel
theorem d_Cel_layer_62 : decode b_Cel_layer 62 = .ok (.aload_n 0, 1) := by decide +kernel
theorem d_Cel_layer_63 : decode b_Cel_layer 63 = .ok (.aload 6, 2) := by decide +kernel
theorem d_Cel_layer_65 : decode b_Cel_layer 65 = .ok (.lload_n 3, 1) := by decide +kernel
theorem d_Cel_layer_66 : decode b_Cel_layer 66 = .ok (.invokevirtual 82, 3) := by decide +kernel
theorem d_Cel_layer_69 : decode b_Cel_layer 69 = .ok (.invokevirtual 71, 3) := by decide +kernel
theorem d_Cel_layer_72 : decode b_Cel_layer 72 = .ok (.aload 5, 2) := by decide +kernel
theorem d_Cel_layer_74 : decode b_Cel_layer 74 = .ok (.getfield 86, 3) := by decide +kernel
theorem d_Cel_layer_77 : decode b_Cel_layer 77 = .ok (.iconst 1, 1) := by decide +kernel
theorem d_Cel_layer_78 : decode b_Cel_layer 78 = .ok (.isub, 1) := by decide +kernel
theorem d_Cel_layer_79 : decode b_Cel_layer 79 = .ok (.ireturn, 1) := by decide +kernel
theorem d_Cel_roll_0 : decode b_Cel_roll 0 = .ok (.aload_n 0, 1) := by decide +kernel
theorem d_Cel_roll_1 : decode b_Cel_roll 1 = .ok (.iload_n 1, 1) := by decide +kernel
theorem d_Cel_roll_2 : decode b_Cel_roll 2 = .ok (.invokevirtual 75, 3) := by decide +kernel
theorem d_Cel_roll_5 : decode b_Cel_roll 5 = .ok (.astore_n 3, 1) := by decide +kernel
theorem d_Cel_roll_6 : decode b_Cel_roll 6 = .ok (.aload_n 3, 1) := by decide +kernel
theorem d_Cel_roll_7 : decode b_Cel_roll 7 = .ok (.ifnull 32, 3) := by decide +kernel
theorem d_Cel_roll_10 : decode b_Cel_roll 10 = .ok (.aload_n 3, 1) := by decide +kernel
theorem d_Cel_roll_11 : decode b_Cel_roll 11 = .ok (.getfield 86, 3) := by decide +kernel
theorem d_Cel_roll_14 : decode b_Cel_roll 14 = .ok (.ifCond .eq 25, 3) := by decide +kernel
theorem d_Cel_roll_17 : decode b_Cel_roll 17 = .ok (.iload_n 2, 1) := by decide +kernel
theorem d_Cel_roll_18 : decode b_Cel_roll 18 = .ok (.i2l, 1) := by decide +kernel
theorem d_Cel_roll_19 : decode b_Cel_roll 19 = .ok (.lconst 1, 1) := by decide +kernel
theorem d_Cel_roll_20 : decode b_Cel_roll 20 = .ok (.ldc2_w 89, 3) := by decide +kernel
theorem d_Cel_roll_23 : decode b_Cel_roll 23 = .ok (.invokestatic 11, 3) := by decide +kernel
theorem d_Cel_roll_26 : decode b_Cel_roll 26 = .ok (.ifCond .eq 13, 3) := by decide +kernel
theorem d_Cel_roll_29 : decode b_Cel_roll 29 = .ok (.aload_n 0, 1) := by decide +kernel
theorem d_Cel_roll_30 : decode b_Cel_roll 30 = .ok (.getfield 38, 3) := by decide +kernel
theorem d_Cel_roll_33 : decode b_Cel_roll 33 = .ok (.invokevirtual 67, 3) := by decide +kernel
theorem d_Cel_roll_36 : decode b_Cel_roll 36 = .ok (.ifCond .eq 5, 3) := by decide +kernel
theorem d_Cel_roll_39 : decode b_Cel_roll 39 = .ok (.iconst 0, 1) := by decide +kernel
theorem d_Cel_roll_40 : decode b_Cel_roll 40 = .ok (.ireturn, 1) := by decide +kernel
theorem d_Cel_roll_41 : decode b_Cel_roll 41 = .ok (.aload_n 0, 1) := by decide +kernel
theorem d_Cel_roll_42 : decode b_Cel_roll 42 = .ok (.iconst 2, 1) := by decide +kernel
theorem d_Cel_roll_43 : decode b_Cel_roll 43 = .ok (.iload_n 1, 1) := by decide +kernel
theorem d_Cel_roll_44 : decode b_Cel_roll 44 = .ok (.iload_n 2, 1) := by decide +kernel
theorem d_Cel_roll_45 : decode b_Cel_roll 45 = .ok (.lconst 0, 1) := by decide +kernel
theorem d_Cel_roll_46 : decode b_Cel_roll 46 = .ok (.lconst 0, 1) := by decide +kernel
theorem d_Cel_roll_47 : decode b_Cel_roll 47 = .ok (.invokevirtual 71, 3) := by decide +kernel
theorem d_Cel_roll_50 : decode b_Cel_roll 50 = .ok (.iconst 1, 1) := by decide +kernel
theorem d_Cel_roll_51 : decode b_Cel_roll 51 = .ok (.ireturn, 1) := by decide +kernel
theorem d_Cel_run_0 : decode b_Cel_run 0 = .ok (.iload_n 1, 1) := by decide +kernel
theorem d_Cel_run_1 : decode b_Cel_run 1 = .ok (.i2l, 1) := by decide +kernel
theorem d_Cel_run_2 : decode b_Cel_run 2 = .ok (.lconst 1, 1) := by decide +kernel
theorem d_Cel_run_3 : decode b_Cel_run 3 = .ok (.ldc2_w 91, 3) := by decide +kernel
theorem d_Cel_run_6 : decode b_Cel_run 6 = .ok (.invokestatic 11, 3) := by decide +kernel
theorem d_Cel_run_9 : decode b_Cel_run 9 = .ok (.ifCond .eq 24, 3) := by decide +kernel
theorem d_Cel_run_12 : decode b_Cel_run 12 = .ok (.aload_n 0, 1) := by decide +kernel
theorem d_Cel_run_13 : decode b_Cel_run 13 = .ok (.getfield 93, 3) := by decide +kernel
theorem d_Cel_run_16 : decode b_Cel_run 16 = .ok (.iload_n 1, 1) := by decide +kernel
theorem d_Cel_run_17 : decode b_Cel_run 17 = .ok (.iadd, 1) := by decide +kernel
theorem d_Cel_run_18 : decode b_Cel_run 18 = .ok (.bipush 100, 2) := by decide +kernel
theorem d_Cel_run_20 : decode b_Cel_run 20 = .ok (.if_icmp .gt 13, 3) := by decide +kernel
theorem d_Cel_run_23 : decode b_Cel_run 23 = .ok (.aload_n 0, 1) := by decide +kernel
theorem d_Cel_run_24 : decode b_Cel_run 24 = .ok (.getfield 38, 3) := by decide +kernel
theorem d_Cel_run_27 : decode b_Cel_run 27 = .ok (.invokevirtual 67, 3) := by decide +kernel
theorem d_Cel_run_30 : decode b_Cel_run 30 = .ok (.ifCond .eq 5, 3) := by decide +kernel
theorem d_Cel_run_33 : decode b_Cel_run 33 = .ok (.iconst (-1), 1) := by decide +kernel
theorem d_Cel_run_34 : decode b_Cel_run 34 = .ok (.ireturn, 1) := by decide +kernel
theorem d_Cel_run_35 : decode b_Cel_run 35 = .ok (.aload_n 0, 1) := by decide +kernel
theorem d_Cel_run_36 : decode b_Cel_run 36 = .ok (.iconst 3, 1) := by decide +kernel
theorem d_Cel_run_37 : decode b_Cel_run 37 = .ok (.iconst 0, 1) := by decide +kernel
theorem d_Cel_run_38 : decode b_Cel_run 38 = .ok (.iload_n 1, 1) := by decide +kernel
theorem d_Cel_run_39 : decode b_Cel_run 39 = .ok (.lconst 0, 1) := by decide +kernel
theorem d_Cel_run_40 : decode b_Cel_run 40 = .ok (.lconst 0, 1) := by decide +kernel
theorem d_Cel_run_41 : decode b_Cel_run 41 = .ok (.invokevirtual 71, 3) := by decide +kernel
theorem d_Cel_run_44 : decode b_Cel_run 44 = .ok (.aload_n 0, 1) := by decide +kernel
theorem d_Cel_run_45 : decode b_Cel_run 45 = .ok (.getfield 93, 3) := by decide +kernel
theorem d_Cel_run_48 : decode b_Cel_run 48 = .ok (.ireturn, 1) := by decide +kernel
theorem d_Cel_cover_0 : decode b_Cel_cover 0 = .ok (.aload_n 0, 1) := by decide +kernel
theorem d_Cel_cover_1 : decode b_Cel_cover 1 = .ok (.iload_n 1, 1) := by decide +kernel
theorem d_Cel_cover_2 : decode b_Cel_cover 2 = .ok (.invokevirtual 75, 3) := by decide +kernel
theorem d_Cel_cover_5 : decode b_Cel_cover 5 = .ok (.ifnull 25, 3) := by decide +kernel
theorem d_Cel_cover_8 : decode b_Cel_cover 8 = .ok (.iload_n 2, 1) := by decide +kernel
theorem d_Cel_cover_9 : decode b_Cel_cover 9 = .ok (.i2l, 1) := by decide +kernel
theorem d_Cel_cover_10 : decode b_Cel_cover 10 = .ok (.lconst 1, 1) := by decide +kernel
theorem d_Cel_cover_11 : decode b_Cel_cover 11 = .ok (.ldc2_w 96, 3) := by decide +kernel
theorem d_Cel_cover_14 : decode b_Cel_cover 14 = .ok (.invokestatic 11, 3) := by decide +kernel
theorem d_Cel_cover_17 : decode b_Cel_cover 17 = .ok (.ifCond .eq 13, 3) := by decide +kernel
theorem d_Cel_cover_20 : decode b_Cel_cover 20 = .ok (.aload_n 0, 1) := by decide +kernel
theorem d_Cel_cover_21 : decode b_Cel_cover 21 = .ok (.getfield 38, 3) := by decide +kernel
theorem d_Cel_cover_24 : decode b_Cel_cover 24 = .ok (.invokevirtual 67, 3) := by decide +kernel
theorem d_Cel_cover_27 : decode b_Cel_cover 27 = .ok (.ifCond .eq 5, 3) := by decide +kernel
theorem d_Cel_cover_30 : decode b_Cel_cover 30 = .ok (.iconst 0, 1) := by decide +kernel
theorem d_Cel_cover_31 : decode b_Cel_cover 31 = .ok (.ireturn, 1) := by decide +kernel
theorem d_Cel_cover_32 : decode b_Cel_cover 32 = .ok (.aload_n 0, 1) := by decide +kernel
theorem d_Cel_cover_33 : decode b_Cel_cover 33 = .ok (.iconst 4, 1) := by decide +kernel
theorem d_Cel_cover_34 : decode b_Cel_cover 34 = .ok (.iload_n 1, 1) := by decide +kernel
theorem d_Cel_cover_35 : decode b_Cel_cover 35 = .ok (.iload_n 2, 1) := by decide +kernel
theorem d_Cel_cover_36 : decode b_Cel_cover 36 = .ok (.lconst 0, 1) := by decide +kernel
theorem d_Cel_cover_37 : decode b_Cel_cover 37 = .ok (.lconst 0, 1) := by decide +kernel
theorem d_Cel_cover_38 : decode b_Cel_cover 38 = .ok (.invokevirtual 71, 3) := by decide +kernel
theorem d_Cel_cover_41 : decode b_Cel_cover 41 = .ok (.iconst 1, 1) := by decide +kernel
theorem d_Cel_cover_42 : decode b_Cel_cover 42 = .ok (.ireturn, 1) := by decide +kernel
theorem d_Cel_survey_0 : decode b_Cel_survey 0 = .ok (.aload_n 0, 1) := by decide +kernel
theorem d_Cel_survey_1 : decode b_Cel_survey 1 = .ok (.iload_n 1, 1) := by decide +kernel
theorem d_Cel_survey_2 : decode b_Cel_survey 2 = .ok (.invokevirtual 75, 3) := by decide +kernel
theorem d_Cel_survey_5 : decode b_Cel_survey 5 = .ok (.ifnull 14, 3) := by decide +kernel
theorem d_Cel_survey_8 : decode b_Cel_survey 8 = .ok (.lload_n 2, 1) := by decide +kernel
theorem d_Cel_survey_9 : decode b_Cel_survey 9 = .ok (.lconst 0, 1) := by decide +kernel
theorem d_Cel_survey_10 : decode b_Cel_survey 10 = .ok (.ldc2_w 98, 3) := by decide +kernel
theorem d_Cel_survey_13 : decode b_Cel_survey 13 = .ok (.invokestatic 11, 3) := by decide +kernel
theorem d_Cel_survey_16 : decode b_Cel_survey 16 = .ok (.ifCond .ne 5, 3) := by decide +kernel
theorem d_Cel_survey_19 : decode b_Cel_survey 19 = .ok (.iconst (-1), 1) := by decide +kernel
theorem d_Cel_survey_20 : decode b_Cel_survey 20 = .ok (.ireturn, 1) := by decide +kernel
theorem d_Cel_survey_21 : decode b_Cel_survey 21 = .ok (.aload_n 0, 1) := by decide +kernel
theorem d_Cel_survey_22 : decode b_Cel_survey 22 = .ok (.getfield 100, 3) := by decide +kernel
theorem d_Cel_survey_25 : decode b_Cel_survey 25 = .ok (.bipush 12, 2) := by decide +kernel
theorem d_Cel_survey_27 : decode b_Cel_survey 27 = .ok (.if_icmp .ge 13, 3) := by decide +kernel
theorem d_Cel_survey_30 : decode b_Cel_survey 30 = .ok (.aload_n 0, 1) := by decide +kernel
theorem d_Cel_survey_31 : decode b_Cel_survey 31 = .ok (.getfield 38, 3) := by decide +kernel
theorem d_Cel_survey_34 : decode b_Cel_survey 34 = .ok (.invokevirtual 67, 3) := by decide +kernel
theorem d_Cel_survey_37 : decode b_Cel_survey 37 = .ok (.ifCond .eq 5, 3) := by decide +kernel
theorem d_Cel_survey_40 : decode b_Cel_survey 40 = .ok (.iconst (-1), 1) := by decide +kernel
theorem d_Cel_survey_41 : decode b_Cel_survey 41 = .ok (.ireturn, 1) := by decide +kernel
theorem d_Cel_survey_42 : decode b_Cel_survey 42 = .ok (.aload_n 0, 1) := by decide +kernel
theorem d_Cel_survey_43 : decode b_Cel_survey 43 = .ok (.iconst 5, 1) := by decide +kernel
theorem d_Cel_survey_44 : decode b_Cel_survey 44 = .ok (.iload_n 1, 1) := by decide +kernel
theorem d_Cel_survey_45 : decode b_Cel_survey 45 = .ok (.iconst 0, 1) := by decide +kernel
theorem d_Cel_survey_46 : decode b_Cel_survey 46 = .ok (.lload_n 2, 1) := by decide +kernel
theorem d_Cel_survey_47 : decode b_Cel_survey 47 = .ok (.lconst 0, 1) := by decide +kernel
theorem d_Cel_survey_48 : decode b_Cel_survey 48 = .ok (.invokevirtual 71, 3) := by decide +kernel
theorem d_Cel_survey_51 : decode b_Cel_survey 51 = .ok (.aload_n 0, 1) := by decide +kernel
theorem d_Cel_survey_52 : decode b_Cel_survey 52 = .ok (.getfield 100, 3) := by decide +kernel
theorem d_Cel_survey_55 : decode b_Cel_survey 55 = .ok (.iconst 1, 1) := by decide +kernel
theorem d_Cel_survey_56 : decode b_Cel_survey 56 = .ok (.isub, 1) := by decide +kernel
theorem d_Cel_survey_57 : decode b_Cel_survey 57 = .ok (.ireturn, 1) := by decide +kernel
theorem d_Cel_height_0 : decode b_Cel_height 0 = .ok (.aload_n 0, 1) := by decide +kernel
theorem d_Cel_height_1 : decode b_Cel_height 1 = .ok (.iload_n 1, 1) := by decide +kernel
theorem d_Cel_height_2 : decode b_Cel_height 2 = .ok (.invokevirtual 75, 3) := by decide +kernel
theorem d_Cel_height_5 : decode b_Cel_height 5 = .ok (.astore_n 2, 1) := by decide +kernel
theorem d_Cel_height_6 : decode b_Cel_height 6 = .ok (.aload_n 2, 1) := by decide +kernel
theorem d_Cel_height_7 : decode b_Cel_height 7 = .ok (.ifnonnull 9, 3) := by decide +kernel
theorem d_Cel_height_10 : decode b_Cel_height 10 = .ok (.ldc2_w 103, 3) := by decide +kernel
theorem d_Cel_height_13 : decode b_Cel_height 13 = .ok (.goto 7, 3) := by decide +kernel
theorem d_Cel_height_16 : decode b_Cel_height 16 = .ok (.aload_n 2, 1) := by decide +kernel
theorem d_Cel_height_17 : decode b_Cel_height 17 = .ok (.invokevirtual 105, 3) := by decide +kernel
theorem d_Cel_height_20 : decode b_Cel_height 20 = .ok (.lreturn, 1) := by decide +kernel
theorem d_Cel_thickness_0 : decode b_Cel_thickness 0 = .ok (.aload_n 0, 1) := by decide +kernel
theorem d_Cel_thickness_1 : decode b_Cel_thickness 1 = .ok (.iload_n 1, 1) := by decide +kernel
theorem d_Cel_thickness_2 : decode b_Cel_thickness 2 = .ok (.invokevirtual 75, 3) := by decide +kernel
theorem d_Cel_thickness_5 : decode b_Cel_thickness 5 = .ok (.astore_n 3, 1) := by decide +kernel
theorem d_Cel_thickness_6 : decode b_Cel_thickness 6 = .ok (.aload_n 3, 1) := by decide +kernel
theorem d_Cel_thickness_7 : decode b_Cel_thickness 7 = .ok (.ifnull 19, 3) := by decide +kernel
theorem d_Cel_thickness_10 : decode b_Cel_thickness 10 = .ok (.iload_n 2, 1) := by decide +kernel
theorem d_Cel_thickness_11 : decode b_Cel_thickness 11 = .ok (.i2l, 1) := by decide +kernel
theorem d_Cel_thickness_12 : decode b_Cel_thickness 12 = .ok (.lconst 0, 1) := by decide +kernel
theorem d_Cel_thickness_13 : decode b_Cel_thickness 13 = .ok (.aload_n 3, 1) := by decide +kernel
theorem d_Cel_thickness_14 : decode b_Cel_thickness 14 = .ok (.getfield 86, 3) := by decide +kernel
theorem d_Cel_thickness_17 : decode b_Cel_thickness 17 = .ok (.iconst 1, 1) := by decide +kernel
theorem d_Cel_thickness_18 : decode b_Cel_thickness 18 = .ok (.isub, 1) := by decide +kernel
theorem d_Cel_thickness_19 : decode b_Cel_thickness 19 = .ok (.i2l, 1) := by decide +kernel
theorem d_Cel_thickness_20 : decode b_Cel_thickness 20 = .ok (.invokestatic 11, 3) := by decide +kernel
theorem d_Cel_thickness_23 : decode b_Cel_thickness 23 = .ok (.ifCond .ne 7, 3) := by decide +kernel
theorem d_Cel_thickness_26 : decode b_Cel_thickness 26 = .ok (.ldc2_w 103, 3) := by decide +kernel
theorem d_Cel_thickness_29 : decode b_Cel_thickness 29 = .ok (.lreturn, 1) := by decide +kernel
theorem d_Cel_thickness_30 : decode b_Cel_thickness 30 = .ok (.aload_n 3, 1) := by decide +kernel
theorem d_Cel_thickness_31 : decode b_Cel_thickness 31 = .ok (.getfield 109, 3) := by decide +kernel
theorem d_Cel_thickness_34 : decode b_Cel_thickness 34 = .ok (.iload_n 2, 1) := by decide +kernel
theorem d_Cel_thickness_35 : decode b_Cel_thickness 35 = .ok (.laload, 1) := by decide +kernel
theorem d_Cel_thickness_36 : decode b_Cel_thickness 36 = .ok (.lreturn, 1) := by decide +kernel
theorem d_Cel_mass_0 : decode b_Cel_mass 0 = .ok (.aload_n 0, 1) := by decide +kernel
theorem d_Cel_mass_1 : decode b_Cel_mass 1 = .ok (.iload_n 1, 1) := by decide +kernel
theorem d_Cel_mass_2 : decode b_Cel_mass 2 = .ok (.invokevirtual 75, 3) := by decide +kernel
theorem d_Cel_mass_5 : decode b_Cel_mass 5 = .ok (.astore_n 3, 1) := by decide +kernel
theorem d_Cel_mass_6 : decode b_Cel_mass 6 = .ok (.aload_n 3, 1) := by decide +kernel
theorem d_Cel_mass_7 : decode b_Cel_mass 7 = .ok (.ifnull 11, 3) := by decide +kernel
theorem d_Cel_mass_10 : decode b_Cel_mass 10 = .ok (.aload_n 0, 1) := by decide +kernel
theorem d_Cel_mass_11 : decode b_Cel_mass 11 = .ok (.iload_n 2, 1) := by decide +kernel
theorem d_Cel_mass_12 : decode b_Cel_mass 12 = .ok (.invokevirtual 54, 3) := by decide +kernel
theorem d_Cel_mass_15 : decode b_Cel_mass 15 = .ok (.ifnonnull 7, 3) := by decide +kernel
theorem d_Cel_mass_18 : decode b_Cel_mass 18 = .ok (.ldc2_w 103, 3) := by decide +kernel
theorem d_Cel_mass_21 : decode b_Cel_mass 21 = .ok (.lreturn, 1) := by decide +kernel
theorem d_Cel_mass_22 : decode b_Cel_mass 22 = .ok (.aload_n 3, 1) := by decide +kernel
theorem d_Cel_mass_23 : decode b_Cel_mass 23 = .ok (.iload_n 2, 1) := by decide +kernel
theorem d_Cel_mass_24 : decode b_Cel_mass 24 = .ok (.invokevirtual 113, 3) := by decide +kernel
theorem d_Cel_mass_27 : decode b_Cel_mass 27 = .ok (.lreturn, 1) := by decide +kernel
theorem d_Cel_covered_0 : decode b_Cel_covered 0 = .ok (.aload_n 0, 1) := by decide +kernel
theorem d_Cel_covered_1 : decode b_Cel_covered 1 = .ok (.iload_n 1, 1) := by decide +kernel
theorem d_Cel_covered_2 : decode b_Cel_covered 2 = .ok (.invokevirtual 75, 3) := by decide +kernel
theorem d_Cel_covered_5 : decode b_Cel_covered 5 = .ok (.astore_n 2, 1) := by decide +kernel
theorem d_Cel_covered_6 : decode b_Cel_covered 6 = .ok (.aload_n 2, 1) := by decide +kernel
theorem d_Cel_covered_7 : decode b_Cel_covered 7 = .ok (.ifnonnull 7, 3) := by decide +kernel
theorem d_Cel_covered_10 : decode b_Cel_covered 10 = .ok (.iconst (-1), 1) := by decide +kernel
theorem d_Cel_covered_11 : decode b_Cel_covered 11 = .ok (.goto 7, 3) := by decide +kernel
theorem d_Cel_covered_14 : decode b_Cel_covered 14 = .ok (.aload_n 2, 1) := by decide +kernel
theorem d_Cel_covered_15 : decode b_Cel_covered 15 = .ok (.getfield 117, 3) := by decide +kernel
theorem d_Cel_covered_18 : decode b_Cel_covered 18 = .ok (.ireturn, 1) := by decide +kernel
theorem d_Cel_surface_0 : decode b_Cel_surface 0 = .ok (.aload_n 0, 1) := by decide +kernel
theorem d_Cel_surface_1 : decode b_Cel_surface 1 = .ok (.getfield 120, 3) := by decide +kernel
theorem d_Cel_surface_4 : decode b_Cel_surface 4 = .ok (.iconst 4, 1) := by decide +kernel
theorem d_Cel_surface_5 : decode b_Cel_surface 5 = .ok (.if_icmp .lt 5, 3) := by decide +kernel
theorem d_Cel_surface_8 : decode b_Cel_surface 8 = .ok (.iconst (-1), 1) := by decide +kernel
theorem d_Cel_surface_9 : decode b_Cel_surface 9 = .ok (.ireturn, 1) := by decide +kernel
theorem d_Cel_surface_10 : decode b_Cel_surface 10 = .ok (.aload_n 0, 1) := by decide +kernel
theorem d_Cel_surface_11 : decode b_Cel_surface 11 = .ok (.getfield 44, 3) := by decide +kernel
theorem d_Cel_surface_14 : decode b_Cel_surface 14 = .ok (.aload_n 0, 1) := by decide +kernel
theorem d_Cel_surface_15 : decode b_Cel_surface 15 = .ok (.getfield 120, 3) := by decide +kernel
theorem d_Cel_surface_18 : decode b_Cel_surface 18 = .ok (.new 42, 3) := by decide +kernel
theorem d_Cel_surface_21 : decode b_Cel_surface 21 = .ok (.dup, 1) := by decide +kernel
theorem d_Cel_surface_22 : decode b_Cel_surface 22 = .ok (.invokespecial 123, 3) := by decide +kernel
theorem d_Cel_surface_25 : decode b_Cel_surface 25 = .ok (.aastore, 1) := by decide +kernel
theorem d_Cel_surface_26 : decode b_Cel_surface 26 = .ok (.aload_n 0, 1) := by decide +kernel
theorem d_Cel_surface_27 : decode b_Cel_surface 27 = .ok (.dup, 1) := by decide +kernel
theorem d_Cel_surface_28 : decode b_Cel_surface 28 = .ok (.getfield 120, 3) := by decide +kernel
theorem d_Cel_surface_31 : decode b_Cel_surface 31 = .ok (.iconst 1, 1) := by decide +kernel
theorem d_Cel_surface_32 : decode b_Cel_surface 32 = .ok (.iadd, 1) := by decide +kernel
theorem d_Cel_surface_33 : decode b_Cel_surface 33 = .ok (.putfield 120, 3) := by decide +kernel
theorem d_Cel_surface_36 : decode b_Cel_surface 36 = .ok (.aload_n 0, 1) := by decide +kernel
theorem d_Cel_surface_37 : decode b_Cel_surface 37 = .ok (.getfield 120, 3) := by decide +kernel
theorem d_Cel_surface_40 : decode b_Cel_surface 40 = .ok (.iconst 1, 1) := by decide +kernel
theorem d_Cel_surface_41 : decode b_Cel_surface 41 = .ok (.isub, 1) := by decide +kernel
theorem d_Cel_surface_42 : decode b_Cel_surface 42 = .ok (.ireturn, 1) := by decide +kernel
theorem d_Cel_point_0 : decode b_Cel_point 0 = .ok (.aload_n 0, 1) := by decide +kernel
theorem d_Cel_point_1 : decode b_Cel_point 1 = .ok (.iload_n 1, 1) := by decide +kernel
theorem d_Cel_point_2 : decode b_Cel_point 2 = .ok (.invokevirtual 124, 3) := by decide +kernel
theorem d_Cel_point_5 : decode b_Cel_point 5 = .ok (.astore 5, 2) := by decide +kernel
theorem d_Cel_point_7 : decode b_Cel_point 7 = .ok (.aload 5, 2) := by decide +kernel
theorem d_Cel_point_9 : decode b_Cel_point 9 = .ok (.ifnull 26, 3) := by decide +kernel
theorem d_Cel_point_12 : decode b_Cel_point 12 = .ok (.iload_n 2, 1) := by decide +kernel
theorem d_Cel_point_13 : decode b_Cel_point 13 = .ok (.iload_n 3, 1) := by decide +kernel
theorem d_Cel_point_14 : decode b_Cel_point 14 = .ok (.invokestatic 128, 3) := by decide +kernel
theorem d_Cel_point_17 : decode b_Cel_point 17 = .ok (.ifCond .eq 18, 3) := by decide +kernel
theorem d_Cel_point_20 : decode b_Cel_point 20 = .ok (.iload 4, 2) := by decide +kernel
theorem d_Cel_point_22 : decode b_Cel_point 22 = .ok (.i2l, 1) := by decide +kernel
theorem d_Cel_point_23 : decode b_Cel_point 23 = .ok (.ldc2_w 132, 3) := by decide +kernel
theorem d_Cel_point_26 : decode b_Cel_point 26 = .ok (.ldc2_w 134, 3) := by decide +kernel
theorem d_Cel_point_29 : decode b_Cel_point 29 = .ok (.invokestatic 11, 3) := by decide +kernel
theorem d_Cel_point_32 : decode b_Cel_point 32 = .ok (.ifCond .ne 5, 3) := by decide +kernel
theorem d_Cel_point_35 : decode b_Cel_point 35 = .ok (.iconst 0, 1) := by decide +kernel
theorem d_Cel_point_36 : decode b_Cel_point 36 = .ok (.ireturn, 1) := by decide +kernel
theorem d_Cel_point_37 : decode b_Cel_point 37 = .ok (.aload 5, 2) := by decide +kernel
theorem d_Cel_point_39 : decode b_Cel_point 39 = .ok (.iload_n 2, 1) := by decide +kernel
theorem d_Cel_point_40 : decode b_Cel_point 40 = .ok (.iload_n 3, 1) := by decide +kernel
theorem d_Cel_point_41 : decode b_Cel_point 41 = .ok (.iload 4, 2) := by decide +kernel
theorem d_Cel_point_43 : decode b_Cel_point 43 = .ok (.invokevirtual 136, 3) := by decide +kernel
theorem d_Cel_point_46 : decode b_Cel_point 46 = .ok (.iconst 1, 1) := by decide +kernel
theorem d_Cel_point_47 : decode b_Cel_point 47 = .ok (.ireturn, 1) := by decide +kernel
theorem d_Cel_room_0 : decode b_Cel_room 0 = .ok (.aload_n 0, 1) := by decide +kernel
theorem d_Cel_room_1 : decode b_Cel_room 1 = .ok (.iload_n 1, 1) := by decide +kernel
theorem d_Cel_room_2 : decode b_Cel_room 2 = .ok (.invokevirtual 124, 3) := by decide +kernel
theorem d_Cel_room_5 : decode b_Cel_room 5 = .ok (.astore 4, 2) := by decide +kernel
theorem d_Cel_room_7 : decode b_Cel_room 7 = .ok (.aload_n 0, 1) := by decide +kernel
theorem d_Cel_room_8 : decode b_Cel_room 8 = .ok (.iload_n 2, 1) := by decide +kernel
theorem d_Cel_room_9 : decode b_Cel_room 9 = .ok (.invokevirtual 124, 3) := by decide +kernel
theorem d_Cel_room_12 : decode b_Cel_room 12 = .ok (.astore 5, 2) := by decide +kernel
theorem d_Cel_room_14 : decode b_Cel_room 14 = .ok (.aload 4, 2) := by decide +kernel
theorem d_Cel_room_16 : decode b_Cel_room 16 = .ok (.ifnull 18, 3) := by decide +kernel
theorem d_Cel_room_19 : decode b_Cel_room 19 = .ok (.aload 5, 2) := by decide +kernel
theorem d_Cel_room_21 : decode b_Cel_room 21 = .ok (.ifnull 13, 3) := by decide +kernel
theorem d_Cel_room_24 : decode b_Cel_room 24 = .ok (.iload_n 3, 1) := by decide +kernel
theorem d_Cel_room_25 : decode b_Cel_room 25 = .ok (.i2l, 1) := by decide +kernel
theorem d_Cel_room_26 : decode b_Cel_room 26 = .ok (.lconst 0, 1) := by decide +kernel
theorem d_Cel_room_27 : decode b_Cel_room 27 = .ok (.lconst 1, 1) := by decide +kernel
theorem d_Cel_room_28 : decode b_Cel_room 28 = .ok (.invokestatic 11, 3) := by decide +kernel
theorem d_Cel_room_31 : decode b_Cel_room 31 = .ok (.ifCond .ne 7, 3) := by decide +kernel
theorem d_Cel_room_34 : decode b_Cel_room 34 = .ok (.ldc2_w 142, 3) := by decide +kernel
theorem d_Cel_room_37 : decode b_Cel_room 37 = .ok (.lreturn, 1) := by decide +kernel
theorem d_Cel_room_38 : decode b_Cel_room 38 = .ok (.aload 4, 2) := by decide +kernel
theorem d_Cel_room_40 : decode b_Cel_room 40 = .ok (.aload 5, 2) := by decide +kernel
theorem d_Cel_room_42 : decode b_Cel_room 42 = .ok (.invokevirtual 144, 3) := by decide +kernel
theorem d_Cel_room_45 : decode b_Cel_room 45 = .ok (.aload_n 0, 1) := by decide +kernel
theorem d_Cel_room_46 : decode b_Cel_room 46 = .ok (.getfield 15, 3) := by decide +kernel
theorem d_Cel_room_49 : decode b_Cel_room 49 = .ok (.i2l, 1) := by decide +kernel
theorem d_Cel_room_50 : decode b_Cel_room 50 = .ok (.lmul, 1) := by decide +kernel
theorem d_Cel_room_51 : decode b_Cel_room 51 = .ok (.aload_n 0, 1) := by decide +kernel
theorem d_Cel_room_52 : decode b_Cel_room 52 = .ok (.getfield 15, 3) := by decide +kernel
theorem d_Cel_room_55 : decode b_Cel_room 55 = .ok (.i2l, 1) := by decide +kernel
theorem d_Cel_room_56 : decode b_Cel_room 56 = .ok (.lmul, 1) := by decide +kernel
theorem d_Cel_room_57 : decode b_Cel_room 57 = .ok (.lstore 6, 2) := by decide +kernel
theorem d_Cel_room_59 : decode b_Cel_room 59 = .ok (.lload 6, 2) := by decide +kernel
theorem d_Cel_room_61 : decode b_Cel_room 61 = .ok (.invokestatic 148, 3) := by decide +kernel
theorem d_Cel_room_64 : decode b_Cel_room 64 = .ok (.lstore 8, 2) := by decide +kernel
theorem d_Cel_room_66 : decode b_Cel_room 66 = .ok (.iload_n 3, 1) := by decide +kernel
theorem d_Cel_room_67 : decode b_Cel_room 67 = .ok (.ifCond .ne 11, 3) := by decide +kernel
theorem d_Cel_room_70 : decode b_Cel_room 70 = .ok (.lload 6, 2) := by decide +kernel
theorem d_Cel_room_72 : decode b_Cel_room 72 = .ok (.lload 8, 2) := by decide +kernel
theorem d_Cel_room_74 : decode b_Cel_room 74 = .ok (.ldiv, 1) := by decide +kernel
theorem d_Cel_room_75 : decode b_Cel_room 75 = .ok (.goto 9, 3) := by decide +kernel
theorem d_Cel_room_78 : decode b_Cel_room 78 = .ok (.ldc2_w 152, 3) := by decide +kernel
theorem d_Cel_room_81 : decode b_Cel_room 81 = .ok (.lload 8, 2) := by decide +kernel
theorem d_Cel_room_83 : decode b_Cel_room 83 = .ok (.ldiv, 1) := by decide +kernel
theorem d_Cel_room_84 : decode b_Cel_room 84 = .ok (.lreturn, 1) := by decide +kernel
theorem d_Cel_phase_0 : decode b_Cel_phase 0 = .ok (.aload_n 0, 1) := by decide +kernel
theorem d_Cel_phase_1 : decode b_Cel_phase 1 = .ok (.iload_n 1, 1) := by decide +kernel
theorem d_Cel_phase_2 : decode b_Cel_phase 2 = .ok (.invokevirtual 75, 3) := by decide +kernel
theorem d_Cel_phase_5 : decode b_Cel_phase 5 = .ok (.ifnull 16, 3) := by decide +kernel
theorem d_Cel_phase_8 : decode b_Cel_phase 8 = .ok (.aload_n 0, 1) := by decide +kernel
theorem d_Cel_phase_9 : decode b_Cel_phase 9 = .ok (.iload_n 2, 1) := by decide +kernel
theorem d_Cel_phase_10 : decode b_Cel_phase 10 = .ok (.invokevirtual 75, 3) := by decide +kernel
theorem d_Cel_phase_13 : decode b_Cel_phase 13 = .ok (.ifnull 8, 3) := by decide +kernel
theorem d_Cel_phase_16 : decode b_Cel_phase 16 = .ok (.iload_n 1, 1) := by decide +kernel
theorem d_Cel_phase_17 : decode b_Cel_phase 17 = .ok (.iload_n 2, 1) := by decide +kernel
theorem d_Cel_phase_18 : decode b_Cel_phase 18 = .ok (.if_icmp .le 5, 3) := by decide +kernel
theorem d_Cel_phase_21 : decode b_Cel_phase 21 = .ok (.iconst (-1), 1) := by decide +kernel
theorem d_Cel_phase_22 : decode b_Cel_phase 22 = .ok (.ireturn, 1) := by decide +kernel
theorem d_Cel_phase_23 : decode b_Cel_phase 23 = .ok (.lload_n 3, 1) := by decide +kernel
theorem d_Cel_phase_24 : decode b_Cel_phase 24 = .ok (.lconst 0, 1) := by decide +kernel
theorem d_Cel_phase_25 : decode b_Cel_phase 25 = .ok (.ldc2_w 98, 3) := by decide +kernel
theorem d_Cel_phase_28 : decode b_Cel_phase 28 = .ok (.invokestatic 11, 3) := by decide +kernel
theorem d_Cel_phase_31 : decode b_Cel_phase 31 = .ok (.ifCond .eq 11, 3) := by decide +kernel
theorem d_Cel_phase_34 : decode b_Cel_phase 34 = .ok (.aload_n 0, 1) := by decide +kernel
theorem d_Cel_phase_35 : decode b_Cel_phase 35 = .ok (.getfield 154, 3) := by decide +kernel
theorem d_Cel_phase_38 : decode b_Cel_phase 38 = .ok (.iconst 4, 1) := by decide +kernel
theorem d_Cel_phase_39 : decode b_Cel_phase 39 = .ok (.if_icmp .lt 5, 3) := by decide +kernel
theorem d_Cel_phase_42 : decode b_Cel_phase 42 = .ok (.iconst (-1), 1) := by decide +kernel
theorem d_Cel_phase_43 : decode b_Cel_phase 43 = .ok (.ireturn, 1) := by decide +kernel
theorem d_Cel_phase_44 : decode b_Cel_phase 44 = .ok (.aload_n 0, 1) := by decide +kernel
theorem d_Cel_phase_45 : decode b_Cel_phase 45 = .ok (.getfield 50, 3) := by decide +kernel
theorem d_Cel_phase_48 : decode b_Cel_phase 48 = .ok (.aload_n 0, 1) := by decide +kernel
theorem d_Cel_phase_49 : decode b_Cel_phase 49 = .ok (.getfield 154, 3) := by decide +kernel
theorem d_Cel_phase_52 : decode b_Cel_phase 52 = .ok (.new 48, 3) := by decide +kernel
theorem d_Cel_phase_55 : decode b_Cel_phase 55 = .ok (.dup, 1) := by decide +kernel
theorem d_Cel_phase_56 : decode b_Cel_phase 56 = .ok (.iload_n 1, 1) := by decide +kernel
theorem d_Cel_phase_57 : decode b_Cel_phase 57 = .ok (.iload_n 2, 1) := by decide +kernel
theorem d_Cel_phase_58 : decode b_Cel_phase 58 = .ok (.lload_n 3, 1) := by decide +kernel
theorem d_Cel_phase_59 : decode b_Cel_phase 59 = .ok (.invokespecial 157, 3) := by decide +kernel
theorem d_Cel_phase_62 : decode b_Cel_phase 62 = .ok (.aastore, 1) := by decide +kernel
theorem d_Cel_phase_63 : decode b_Cel_phase 63 = .ok (.aload_n 0, 1) := by decide +kernel
theorem d_Cel_phase_64 : decode b_Cel_phase 64 = .ok (.dup, 1) := by decide +kernel
theorem d_Cel_phase_65 : decode b_Cel_phase 65 = .ok (.getfield 154, 3) := by decide +kernel
theorem d_Cel_phase_68 : decode b_Cel_phase 68 = .ok (.iconst 1, 1) := by decide +kernel
theorem d_Cel_phase_69 : decode b_Cel_phase 69 = .ok (.iadd, 1) := by decide +kernel
theorem d_Cel_phase_70 : decode b_Cel_phase 70 = .ok (.putfield 154, 3) := by decide +kernel
theorem d_Cel_phase_73 : decode b_Cel_phase 73 = .ok (.aload_n 0, 1) := by decide +kernel
theorem d_Cel_phase_74 : decode b_Cel_phase 74 = .ok (.getfield 154, 3) := by decide +kernel
theorem d_Cel_phase_77 : decode b_Cel_phase 77 = .ok (.iconst 1, 1) := by decide +kernel
theorem d_Cel_phase_78 : decode b_Cel_phase 78 = .ok (.isub, 1) := by decide +kernel
theorem d_Cel_phase_79 : decode b_Cel_phase 79 = .ok (.ireturn, 1) := by decide +kernel
theorem d_Cel_kept_0 : decode b_Cel_kept 0 = .ok (.aload_n 0, 1) := by decide +kernel
theorem d_Cel_kept_1 : decode b_Cel_kept 1 = .ok (.iload_n 1, 1) := by decide +kernel
theorem d_Cel_kept_2 : decode b_Cel_kept 2 = .ok (.invokevirtual 160, 3) := by decide +kernel
theorem d_Cel_kept_5 : decode b_Cel_kept 5 = .ok (.astore_n 2, 1) := by decide +kernel
theorem d_Cel_kept_6 : decode b_Cel_kept 6 = .ok (.aload_n 2, 1) := by decide +kernel
theorem d_Cel_kept_7 : decode b_Cel_kept 7 = .ok (.ifnonnull 5, 3) := by decide +kernel
theorem d_Cel_kept_10 : decode b_Cel_kept 10 = .ok (.iconst 0, 1) := by decide +kernel
theorem d_Cel_kept_11 : decode b_Cel_kept 11 = .ok (.ireturn, 1) := by decide +kernel
theorem d_Cel_kept_12 : decode b_Cel_kept 12 = .ok (.aload_n 2, 1) := by decide +kernel
theorem d_Cel_kept_13 : decode b_Cel_kept 13 = .ok (.getfield 164, 3) := by decide +kernel
theorem d_Cel_kept_16 : decode b_Cel_kept 16 = .ok (.istore_n 3, 1) := by decide +kernel
theorem d_Cel_kept_17 : decode b_Cel_kept 17 = .ok (.iload_n 3, 1) := by decide +kernel
theorem d_Cel_kept_18 : decode b_Cel_kept 18 = .ok (.aload_n 2, 1) := by decide +kernel
theorem d_Cel_kept_19 : decode b_Cel_kept 19 = .ok (.getfield 167, 3) := by decide +kernel
theorem d_Cel_kept_22 : decode b_Cel_kept 22 = .ok (.if_icmp .ge 24, 3) := by decide +kernel
theorem d_Cel_kept_25 : decode b_Cel_kept 25 = .ok (.aload_n 0, 1) := by decide +kernel
theorem d_Cel_kept_26 : decode b_Cel_kept 26 = .ok (.iload_n 3, 1) := by decide +kernel
theorem d_Cel_kept_27 : decode b_Cel_kept 27 = .ok (.invokevirtual 170, 3) := by decide +kernel
theorem d_Cel_kept_30 : decode b_Cel_kept 30 = .ok (.aload_n 2, 1) := by decide +kernel
theorem d_Cel_kept_31 : decode b_Cel_kept 31 = .ok (.getfield 173, 3) := by decide +kernel
theorem d_Cel_kept_34 : decode b_Cel_kept 34 = .ok (.lcmp, 1) := by decide +kernel
theorem d_Cel_kept_35 : decode b_Cel_kept 35 = .ok (.ifCond .le 5, 3) := by decide +kernel
theorem d_Cel_kept_38 : decode b_Cel_kept 38 = .ok (.iconst 0, 1) := by decide +kernel
theorem d_Cel_kept_39 : decode b_Cel_kept 39 = .ok (.ireturn, 1) := by decide +kernel
theorem d_Cel_kept_40 : decode b_Cel_kept 40 = .ok (.iinc 3 1, 3) := by decide +kernel
theorem d_Cel_kept_43 : decode b_Cel_kept 43 = .ok (.goto (-26), 3) := by decide +kernel
theorem d_Cel_kept_46 : decode b_Cel_kept 46 = .ok (.iconst 1, 1) := by decide +kernel
theorem d_Cel_kept_47 : decode b_Cel_kept 47 = .ok (.ireturn, 1) := by decide +kernel
theorem d_Cel_crack_0 : decode b_Cel_crack 0 = .ok (.iload_n 1, 1) := by decide +kernel
theorem d_Cel_crack_1 : decode b_Cel_crack 1 = .ok (.ifCond .lt 9, 3) := by decide +kernel
theorem d_Cel_crack_4 : decode b_Cel_crack 4 = .ok (.lload_n 2, 1) := by decide +kernel
theorem d_Cel_crack_5 : decode b_Cel_crack 5 = .ok (.lconst 0, 1) := by decide +kernel
theorem d_Cel_crack_6 : decode b_Cel_crack 6 = .ok (.lcmp, 1) := by decide +kernel
theorem d_Cel_crack_7 : decode b_Cel_crack 7 = .ok (.ifCond .ge 5, 3) := by decide +kernel
theorem d_Cel_crack_10 : decode b_Cel_crack 10 = .ok (.iconst (-1), 1) := by decide +kernel
theorem d_Cel_crack_11 : decode b_Cel_crack 11 = .ok (.ireturn, 1) := by decide +kernel
theorem d_Cel_crack_12 : decode b_Cel_crack 12 = .ok (.iconst 0, 1) := by decide +kernel
theorem d_Cel_crack_13 : decode b_Cel_crack 13 = .ok (.istore 4, 2) := by decide +kernel
theorem d_Cel_crack_15 : decode b_Cel_crack 15 = .ok (.iconst 0, 1) := by decide +kernel
theorem d_Cel_crack_16 : decode b_Cel_crack 16 = .ok (.istore 5, 2) := by decide +kernel
theorem d_Cel_crack_18 : decode b_Cel_crack 18 = .ok (.iload 5, 2) := by decide +kernel
theorem d_Cel_crack_20 : decode b_Cel_crack 20 = .ok (.aload_n 0, 1) := by decide +kernel
theorem d_Cel_crack_21 : decode b_Cel_crack 21 = .ok (.getfield 23, 3) := by decide +kernel
theorem d_Cel_crack_24 : decode b_Cel_crack 24 = .ok (.arraylength, 1) := by decide +kernel
theorem d_Cel_crack_25 : decode b_Cel_crack 25 = .ok (.iconst 1, 1) := by decide +kernel
theorem d_Cel_crack_26 : decode b_Cel_crack 26 = .ok (.isub, 1) := by decide +kernel
theorem d_Cel_crack_27 : decode b_Cel_crack 27 = .ok (.if_icmp .ge 32, 3) := by decide +kernel
theorem d_Cel_crack_30 : decode b_Cel_crack 30 = .ok (.aload_n 0, 1) := by decide +kernel
theorem d_Cel_crack_31 : decode b_Cel_crack 31 = .ok (.iload 5, 2) := by decide +kernel
theorem d_Cel_crack_33 : decode b_Cel_crack 33 = .ok (.invokevirtual 170, 3) := by decide +kernel
theorem d_Cel_crack_36 : decode b_Cel_crack 36 = .ok (.lload_n 2, 1) := by decide +kernel
theorem d_Cel_crack_37 : decode b_Cel_crack 37 = .ok (.lcmp, 1) := by decide +kernel
theorem d_Cel_crack_38 : decode b_Cel_crack 38 = .ok (.ifCond .le 15, 3) := by decide +kernel
theorem d_Cel_crack_41 : decode b_Cel_crack 41 = .ok (.iload 4, 2) := by decide +kernel
theorem d_Cel_crack_43 : decode b_Cel_crack 43 = .ok (.iload_n 1, 1) := by decide +kernel
theorem d_Cel_crack_44 : decode b_Cel_crack 44 = .ok (.if_icmp .ne 6, 3) := by decide +kernel
theorem d_Cel_crack_47 : decode b_Cel_crack 47 = .ok (.iload 5, 2) := by decide +kernel
theorem d_Cel_crack_49 : decode b_Cel_crack 49 = .ok (.ireturn, 1) := by decide +kernel
theorem d_Cel_crack_50 : decode b_Cel_crack 50 = .ok (.iinc 4 1, 3) := by decide +kernel
theorem d_Cel_crack_53 : decode b_Cel_crack 53 = .ok (.iinc 5 1, 3) := by decide +kernel
theorem d_Cel_crack_56 : decode b_Cel_crack 56 = .ok (.goto (-38), 3) := by decide +kernel
theorem d_Cel_crack_59 : decode b_Cel_crack 59 = .ok (.iconst (-1), 1) := by decide +kernel
theorem d_Cel_crack_60 : decode b_Cel_crack 60 = .ok (.ireturn, 1) := by decide +kernel
theorem d_Cel_factor_0 : decode b_Cel_factor 0 = .ok (.aload_n 0, 1) := by decide +kernel
theorem d_Cel_factor_1 : decode b_Cel_factor 1 = .ok (.iload_n 1, 1) := by decide +kernel
theorem d_Cel_factor_2 : decode b_Cel_factor 2 = .ok (.invokevirtual 54, 3) := by decide +kernel
theorem d_Cel_factor_5 : decode b_Cel_factor 5 = .ok (.astore_n 2, 1) := by decide +kernel
theorem d_Cel_factor_6 : decode b_Cel_factor 6 = .ok (.aload_n 2, 1) := by decide +kernel
theorem d_Cel_factor_7 : decode b_Cel_factor 7 = .ok (.ifnonnull 7, 3) := by decide +kernel
theorem d_Cel_factor_10 : decode b_Cel_factor 10 = .ok (.iconst (-1), 1) := by decide +kernel
theorem d_Cel_factor_11 : decode b_Cel_factor 11 = .ok (.goto 7, 3) := by decide +kernel
theorem d_Cel_factor_14 : decode b_Cel_factor 14 = .ok (.aload_n 2, 1) := by decide +kernel
theorem d_Cel_factor_15 : decode b_Cel_factor 15 = .ok (.getfield 177, 3) := by decide +kernel
theorem d_Cel_factor_18 : decode b_Cel_factor 18 = .ok (.ireturn, 1) := by decide +kernel
theorem d_Cel_sum_0 : decode b_Cel_sum 0 = .ok (.aload_n 0, 1) := by decide +kernel
theorem d_Cel_sum_1 : decode b_Cel_sum 1 = .ok (.getfield 180, 3) := by decide +kernel
theorem d_Cel_sum_4 : decode b_Cel_sum 4 = .ok (.lreturn, 1) := by decide +kernel
theorem d_Cel_fit_0 : decode b_Cel_fit 0 = .ok (.iload_n 1, 1) := by decide +kernel
theorem d_Cel_fit_1 : decode b_Cel_fit 1 = .ok (.i2l, 1) := by decide +kernel
theorem d_Cel_fit_2 : decode b_Cel_fit 2 = .ok (.lconst 1, 1) := by decide +kernel
theorem d_Cel_fit_3 : decode b_Cel_fit 3 = .ok (.ldc2_w 183, 3) := by decide +kernel
theorem d_Cel_fit_6 : decode b_Cel_fit 6 = .ok (.invokestatic 11, 3) := by decide +kernel
theorem d_Cel_fit_9 : decode b_Cel_fit 9 = .ok (.ifCond .ne 5, 3) := by decide +kernel
theorem d_Cel_fit_12 : decode b_Cel_fit 12 = .ok (.iconst (-1), 1) := by decide +kernel
theorem d_Cel_fit_13 : decode b_Cel_fit 13 = .ok (.ireturn, 1) := by decide +kernel
theorem d_Cel_fit_14 : decode b_Cel_fit 14 = .ok (.aload_n 0, 1) := by decide +kernel
theorem d_Cel_fit_15 : decode b_Cel_fit 15 = .ok (.getfield 180, 3) := by decide +kernel
theorem d_Cel_fit_18 : decode b_Cel_fit 18 = .ok (.lstore_n 2, 1) := by decide +kernel
theorem d_Cel_fit_19 : decode b_Cel_fit 19 = .ok (.iconst 0, 1) := by decide +kernel
theorem d_Cel_fit_20 : decode b_Cel_fit 20 = .ok (.istore 4, 2) := by decide +kernel
theorem d_Cel_fit_22 : decode b_Cel_fit 22 = .ok (.iconst 0, 1) := by decide +kernel
theorem d_Cel_fit_23 : decode b_Cel_fit 23 = .ok (.istore 5, 2) := by decide +kernel
theorem d_Cel_fit_25 : decode b_Cel_fit 25 = .ok (.iload 5, 2) := by decide +kernel
theorem d_Cel_fit_27 : decode b_Cel_fit 27 = .ok (.iload_n 1, 1) := by decide +kernel
theorem d_Cel_fit_28 : decode b_Cel_fit 28 = .ok (.if_icmp .ge 53, 3) := by decide +kernel
theorem d_Cel_fit_31 : decode b_Cel_fit 31 = .ok (.lload_n 2, 1) := by decide +kernel
theorem d_Cel_fit_32 : decode b_Cel_fit 32 = .ok (.lstore 6, 2) := by decide +kernel
theorem d_Cel_fit_34 : decode b_Cel_fit 34 = .ok (.iconst 0, 1) := by decide +kernel
theorem d_Cel_fit_35 : decode b_Cel_fit 35 = .ok (.istore 8, 2) := by decide +kernel
theorem d_Cel_fit_37 : decode b_Cel_fit 37 = .ok (.iload 8, 2) := by decide +kernel
theorem d_Cel_fit_39 : decode b_Cel_fit 39 = .ok (.iconst 4, 1) := by decide +kernel
theorem d_Cel_fit_40 : decode b_Cel_fit 40 = .ok (.if_icmp .ge 22, 3) := by decide +kernel
theorem d_Cel_fit_43 : decode b_Cel_fit 43 = .ok (.aload_n 0, 1) := by decide +kernel
theorem d_Cel_fit_44 : decode b_Cel_fit 44 = .ok (.aload_n 0, 1) := by decide +kernel
theorem d_Cel_fit_45 : decode b_Cel_fit 45 = .ok (.getfield 30, 3) := by decide +kernel
theorem d_Cel_fit_48 : decode b_Cel_fit 48 = .ok (.iload 8, 2) := by decide +kernel
theorem d_Cel_fit_50 : decode b_Cel_fit 50 = .ok (.aaload, 1) := by decide +kernel
theorem d_Cel_fit_51 : decode b_Cel_fit 51 = .ok (.lload_n 2, 1) := by decide +kernel
theorem d_Cel_fit_52 : decode b_Cel_fit 52 = .ok (.invokevirtual 185, 3) := by decide +kernel
theorem d_Cel_fit_55 : decode b_Cel_fit 55 = .ok (.lstore_n 2, 1) := by decide +kernel
theorem d_Cel_fit_56 : decode b_Cel_fit 56 = .ok (.iinc 8 1, 3) := by decide +kernel
theorem d_Cel_fit_59 : decode b_Cel_fit 59 = .ok (.goto (-22), 3) := by decide +kernel
theorem d_Cel_fit_62 : decode b_Cel_fit 62 = .ok (.lload_n 2, 1) := by decide +kernel
theorem d_Cel_fit_63 : decode b_Cel_fit 63 = .ok (.lload 6, 2) := by decide +kernel
theorem d_Cel_fit_65 : decode b_Cel_fit 65 = .ok (.lcmp, 1) := by decide +kernel
theorem d_Cel_fit_66 : decode b_Cel_fit 66 = .ok (.ifCond .lt 6, 3) := by decide +kernel
theorem d_Cel_fit_69 : decode b_Cel_fit 69 = .ok (.goto 12, 3) := by decide +kernel
theorem d_Cel_fit_72 : decode b_Cel_fit 72 = .ok (.iinc 4 1, 3) := by decide +kernel
theorem d_Cel_fit_75 : decode b_Cel_fit 75 = .ok (.iinc 5 1, 3) := by decide +kernel
theorem d_Cel_fit_78 : decode b_Cel_fit 78 = .ok (.goto (-53), 3) := by decide +kernel
theorem d_Cel_fit_81 : decode b_Cel_fit 81 = .ok (.aload_n 0, 1) := by decide +kernel
theorem d_Cel_fit_82 : decode b_Cel_fit 82 = .ok (.invokevirtual 188, 3) := by decide +kernel
theorem d_Cel_fit_85 : decode b_Cel_fit 85 = .ok (.iload 4, 2) := by decide +kernel
theorem d_Cel_fit_87 : decode b_Cel_fit 87 = .ok (.ireturn, 1) := by decide +kernel
theorem d_Cel_leastByKind_0 : decode b_Cel_leastByKind 0 = .ok (.aload_n 1, 1) := by decide +kernel
theorem d_Cel_leastByKind_1 : decode b_Cel_leastByKind 1 = .ok (.getfield 177, 3) := by decide +kernel
theorem d_Cel_leastByKind_4 : decode b_Cel_leastByKind 4 = .ok (.istore 4, 2) := by decide +kernel
theorem d_Cel_leastByKind_6 : decode b_Cel_leastByKind 6 = .ok (.bipush 50, 2) := by decide +kernel
theorem d_Cel_leastByKind_8 : decode b_Cel_leastByKind 8 = .ok (.istore 5, 2) := by decide +kernel
theorem d_Cel_leastByKind_10 : decode b_Cel_leastByKind 10 = .ok (.iload 5, 2) := by decide +kernel
theorem d_Cel_leastByKind_12 : decode b_Cel_leastByKind 12 = .ok (.bipush (-50), 2) := by decide +kernel
theorem d_Cel_leastByKind_14 : decode b_Cel_leastByKind 14 = .ok (.if_icmp .lt 52, 3) := by decide +kernel
theorem d_Cel_leastByKind_17 : decode b_Cel_leastByKind 17 = .ok (.iload 4, 2) := by decide +kernel
theorem d_Cel_leastByKind_19 : decode b_Cel_leastByKind 19 = .ok (.iload 5, 2) := by decide +kernel
theorem d_Cel_leastByKind_21 : decode b_Cel_leastByKind 21 = .ok (.iadd, 1) := by decide +kernel
theorem d_Cel_leastByKind_22 : decode b_Cel_leastByKind 22 = .ok (.i2l, 1) := by decide +kernel
theorem d_Cel_leastByKind_23 : decode b_Cel_leastByKind 23 = .ok (.lconst 0, 1) := by decide +kernel
theorem d_Cel_leastByKind_24 : decode b_Cel_leastByKind 24 = .ok (.ldc2_w 58, 3) := by decide +kernel
theorem d_Cel_leastByKind_27 : decode b_Cel_leastByKind 27 = .ok (.invokestatic 11, 3) := by decide +kernel
theorem d_Cel_leastByKind_30 : decode b_Cel_leastByKind 30 = .ok (.ifCond .eq 30, 3) := by decide +kernel
theorem d_Cel_leastByKind_33 : decode b_Cel_leastByKind 33 = .ok (.aload_n 1, 1) := by decide +kernel
theorem d_Cel_leastByKind_34 : decode b_Cel_leastByKind 34 = .ok (.iload 4, 2) := by decide +kernel
theorem d_Cel_leastByKind_36 : decode b_Cel_leastByKind 36 = .ok (.iload 5, 2) := by decide +kernel
theorem d_Cel_leastByKind_38 : decode b_Cel_leastByKind 38 = .ok (.iadd, 1) := by decide +kernel
theorem d_Cel_leastByKind_39 : decode b_Cel_leastByKind 39 = .ok (.putfield 177, 3) := by decide +kernel
theorem d_Cel_leastByKind_42 : decode b_Cel_leastByKind 42 = .ok (.aload_n 0, 1) := by decide +kernel
theorem d_Cel_leastByKind_43 : decode b_Cel_leastByKind 43 = .ok (.invokevirtual 188, 3) := by decide +kernel
theorem d_Cel_leastByKind_46 : decode b_Cel_leastByKind 46 = .ok (.aload_n 0, 1) := by decide +kernel
theorem d_Cel_leastByKind_47 : decode b_Cel_leastByKind 47 = .ok (.getfield 180, 3) := by decide +kernel
theorem d_Cel_leastByKind_50 : decode b_Cel_leastByKind 50 = .ok (.lload_n 2, 1) := by decide +kernel
theorem d_Cel_leastByKind_51 : decode b_Cel_leastByKind 51 = .ok (.lcmp, 1) := by decide +kernel
theorem d_Cel_leastByKind_52 : decode b_Cel_leastByKind 52 = .ok (.ifCond .ge 8, 3) := by decide +kernel
theorem d_Cel_leastByKind_55 : decode b_Cel_leastByKind 55 = .ok (.aload_n 0, 1) := by decide +kernel
theorem d_Cel_leastByKind_56 : decode b_Cel_leastByKind 56 = .ok (.getfield 180, 3) := by decide +kernel
theorem d_Cel_leastByKind_59 : decode b_Cel_leastByKind 59 = .ok (.lreturn, 1) := by decide +kernel
theorem d_Cel_leastByKind_60 : decode b_Cel_leastByKind 60 = .ok (.iinc 5 (-100), 3) := by decide +kernel
theorem d_Cel_leastByKind_63 : decode b_Cel_leastByKind 63 = .ok (.goto (-53), 3) := by decide +kernel
theorem d_Cel_leastByKind_66 : decode b_Cel_leastByKind 66 = .ok (.aload_n 1, 1) := by decide +kernel
theorem d_Cel_leastByKind_67 : decode b_Cel_leastByKind 67 = .ok (.iload 4, 2) := by decide +kernel
theorem d_Cel_leastByKind_69 : decode b_Cel_leastByKind 69 = .ok (.putfield 177, 3) := by decide +kernel
theorem d_Cel_leastByKind_72 : decode b_Cel_leastByKind 72 = .ok (.lload_n 2, 1) := by decide +kernel
theorem d_Cel_leastByKind_73 : decode b_Cel_leastByKind 73 = .ok (.lreturn, 1) := by decide +kernel
theorem d_Cel_doAllAnew_0 : decode b_Cel_doAllAnew 0 = .ok (.aload_n 0, 1) := by decide +kernel
theorem d_Cel_doAllAnew_1 : decode b_Cel_doAllAnew 1 = .ok (.iconst 0, 1) := by decide +kernel
theorem d_Cel_doAllAnew_2 : decode b_Cel_doAllAnew 2 = .ok (.putfield 93, 3) := by decide +kernel
theorem d_Cel_doAllAnew_5 : decode b_Cel_doAllAnew 5 = .ok (.aload_n 0, 1) := by decide +kernel
theorem d_Cel_doAllAnew_6 : decode b_Cel_doAllAnew 6 = .ok (.iconst 0, 1) := by decide +kernel
theorem d_Cel_doAllAnew_7 : decode b_Cel_doAllAnew 7 = .ok (.putfield 100, 3) := by decide +kernel
theorem d_Cel_doAllAnew_10 : decode b_Cel_doAllAnew 10 = .ok (.aload_n 0, 1) := by decide +kernel
theorem d_Cel_doAllAnew_11 : decode b_Cel_doAllAnew 11 = .ok (.lconst 0, 1) := by decide +kernel
theorem d_Cel_doAllAnew_12 : decode b_Cel_doAllAnew 12 = .ok (.putfield 180, 3) := by decide +kernel
theorem d_Cel_doAllAnew_15 : decode b_Cel_doAllAnew 15 = .ok (.iconst 0, 1) := by decide +kernel
theorem d_Cel_doAllAnew_16 : decode b_Cel_doAllAnew 16 = .ok (.istore_n 1, 1) := by decide +kernel
theorem d_Cel_doAllAnew_17 : decode b_Cel_doAllAnew 17 = .ok (.iload_n 1, 1) := by decide +kernel
theorem d_Cel_doAllAnew_18 : decode b_Cel_doAllAnew 18 = .ok (.aload_n 0, 1) := by decide +kernel
theorem d_Cel_doAllAnew_19 : decode b_Cel_doAllAnew 19 = .ok (.getfield 23, 3) := by decide +kernel
theorem d_Cel_doAllAnew_22 : decode b_Cel_doAllAnew 22 = .ok (.arraylength, 1) := by decide +kernel
theorem d_Cel_doAllAnew_23 : decode b_Cel_doAllAnew 23 = .ok (.if_icmp .ge 18, 3) := by decide +kernel
theorem d_Cel_doAllAnew_26 : decode b_Cel_doAllAnew 26 = .ok (.aload_n 0, 1) := by decide +kernel
theorem d_Cel_doAllAnew_27 : decode b_Cel_doAllAnew 27 = .ok (.getfield 23, 3) := by decide +kernel
theorem d_Cel_doAllAnew_30 : decode b_Cel_doAllAnew 30 = .ok (.iload_n 1, 1) := by decide +kernel
theorem d_Cel_doAllAnew_31 : decode b_Cel_doAllAnew 31 = .ok (.aaload, 1) := by decide +kernel
theorem d_Cel_doAllAnew_32 : decode b_Cel_doAllAnew 32 = .ok (.invokevirtual 191, 3) := by decide +kernel
theorem d_Cel_doAllAnew_35 : decode b_Cel_doAllAnew 35 = .ok (.iinc 1 1, 3) := by decide +kernel
theorem d_Cel_doAllAnew_38 : decode b_Cel_doAllAnew 38 = .ok (.goto (-21), 3) := by decide +kernel
theorem d_Cel_doAllAnew_41 : decode b_Cel_doAllAnew 41 = .ok (.iconst 0, 1) := by decide +kernel
theorem d_Cel_doAllAnew_42 : decode b_Cel_doAllAnew 42 = .ok (.istore_n 1, 1) := by decide +kernel
theorem d_Cel_doAllAnew_43 : decode b_Cel_doAllAnew 43 = .ok (.iload_n 1, 1) := by decide +kernel
theorem d_Cel_doAllAnew_44 : decode b_Cel_doAllAnew 44 = .ok (.iconst 4, 1) := by decide +kernel
theorem d_Cel_doAllAnew_45 : decode b_Cel_doAllAnew 45 = .ok (.if_icmp .ge 18, 3) := by decide +kernel
theorem d_Cel_doAllAnew_48 : decode b_Cel_doAllAnew 48 = .ok (.aload_n 0, 1) := by decide +kernel
theorem d_Cel_doAllAnew_49 : decode b_Cel_doAllAnew 49 = .ok (.getfield 30, 3) := by decide +kernel
theorem d_Cel_doAllAnew_52 : decode b_Cel_doAllAnew 52 = .ok (.iload_n 1, 1) := by decide +kernel
theorem d_Cel_doAllAnew_53 : decode b_Cel_doAllAnew 53 = .ok (.aaload, 1) := by decide +kernel
theorem d_Cel_doAllAnew_54 : decode b_Cel_doAllAnew 54 = .ok (.invokevirtual 194, 3) := by decide +kernel
theorem d_Cel_doAllAnew_57 : decode b_Cel_doAllAnew 57 = .ok (.iinc 1 1, 3) := by decide +kernel
theorem d_Cel_doAllAnew_60 : decode b_Cel_doAllAnew 60 = .ok (.goto (-17), 3) := by decide +kernel
theorem d_Cel_doAllAnew_63 : decode b_Cel_doAllAnew 63 = .ok (.iconst 0, 1) := by decide +kernel
theorem d_Cel_doAllAnew_64 : decode b_Cel_doAllAnew 64 = .ok (.istore_n 1, 1) := by decide +kernel
theorem d_Cel_doAllAnew_65 : decode b_Cel_doAllAnew 65 = .ok (.iload_n 1, 1) := by decide +kernel
theorem d_Cel_doAllAnew_66 : decode b_Cel_doAllAnew 66 = .ok (.aload_n 0, 1) := by decide +kernel
theorem d_Cel_doAllAnew_67 : decode b_Cel_doAllAnew 67 = .ok (.getfield 38, 3) := by decide +kernel
theorem d_Cel_doAllAnew_70 : decode b_Cel_doAllAnew 70 = .ok (.getfield 197, 3) := by decide +kernel
theorem d_Cel_doAllAnew_73 : decode b_Cel_doAllAnew 73 = .ok (.if_icmp .ge 14, 3) := by decide +kernel
theorem d_Cel_doAllAnew_76 : decode b_Cel_doAllAnew 76 = .ok (.aload_n 0, 1) := by decide +kernel
theorem d_Cel_doAllAnew_77 : decode b_Cel_doAllAnew 77 = .ok (.iload_n 1, 1) := by decide +kernel
theorem d_Cel_doAllAnew_78 : decode b_Cel_doAllAnew 78 = .ok (.invokevirtual 200, 3) := by decide +kernel
theorem d_Cel_doAllAnew_81 : decode b_Cel_doAllAnew 81 = .ok (.iinc 1 1, 3) := by decide +kernel
theorem d_Cel_doAllAnew_84 : decode b_Cel_doAllAnew 84 = .ok (.goto (-19), 3) := by decide +kernel
theorem d_Cel_doAllAnew_87 : decode b_Cel_doAllAnew 87 = .ok (.return_, 1) := by decide +kernel
theorem d_Cel_tell_0 : decode b_Cel_tell 0 = .ok (.aload_n 0, 1) := by decide +kernel
theorem d_Cel_tell_1 : decode b_Cel_tell 1 = .ok (.getfield 38, 3) := by decide +kernel
theorem d_Cel_tell_4 : decode b_Cel_tell 4 = .ok (.iload_n 1, 1) := by decide +kernel
theorem d_Cel_tell_5 : decode b_Cel_tell 5 = .ok (.iload_n 2, 1) := by decide +kernel
theorem d_Cel_tell_6 : decode b_Cel_tell 6 = .ok (.iload_n 3, 1) := by decide +kernel
theorem d_Cel_tell_7 : decode b_Cel_tell 7 = .ok (.lload 4, 2) := by decide +kernel
theorem d_Cel_tell_9 : decode b_Cel_tell 9 = .ok (.lload 6, 2) := by decide +kernel
theorem d_Cel_tell_11 : decode b_Cel_tell 11 = .ok (.invokevirtual 204, 3) := by decide +kernel
theorem d_Cel_tell_14 : decode b_Cel_tell 14 = .ok (.aload_n 0, 1) := by decide +kernel
theorem d_Cel_tell_15 : decode b_Cel_tell 15 = .ok (.aload_n 0, 1) := by decide +kernel
theorem d_Cel_tell_16 : decode b_Cel_tell 16 = .ok (.getfield 38, 3) := by decide +kernel
theorem d_Cel_tell_19 : decode b_Cel_tell 19 = .ok (.getfield 197, 3) := by decide +kernel
theorem d_Cel_tell_22 : decode b_Cel_tell 22 = .ok (.iconst 1, 1) := by decide +kernel
theorem d_Cel_tell_23 : decode b_Cel_tell 23 = .ok (.isub, 1) := by decide +kernel
theorem d_Cel_tell_24 : decode b_Cel_tell 24 = .ok (.invokevirtual 200, 3) := by decide +kernel
theorem d_Cel_tell_27 : decode b_Cel_tell 27 = .ok (.return_, 1) := by decide +kernel
theorem d_Cel_carryOut_0 : decode b_Cel_carryOut 0 = .ok (.aload_n 0, 1) := by decide +kernel
theorem d_Cel_carryOut_1 : decode b_Cel_carryOut 1 = .ok (.getfield 38, 3) := by decide +kernel
theorem d_Cel_carryOut_4 : decode b_Cel_carryOut 4 = .ok (.getfield 207, 3) := by decide +kernel
theorem d_Cel_carryOut_7 : decode b_Cel_carryOut 7 = .ok (.iload_n 1, 1) := by decide +kernel
theorem d_Cel_carryOut_8 : decode b_Cel_carryOut 8 = .ok (.iaload, 1) := by decide +kernel
theorem d_Cel_carryOut_9 : decode b_Cel_carryOut 9 = .ok (.istore_n 2, 1) := by decide +kernel
theorem d_Cel_carryOut_10 : decode b_Cel_carryOut 10 = .ok (.aload_n 0, 1) := by decide +kernel
theorem d_Cel_carryOut_11 : decode b_Cel_carryOut 11 = .ok (.getfield 38, 3) := by decide +kernel
theorem d_Cel_carryOut_14 : decode b_Cel_carryOut 14 = .ok (.getfield 211, 3) := by decide +kernel
theorem d_Cel_carryOut_17 : decode b_Cel_carryOut 17 = .ok (.iload_n 1, 1) := by decide +kernel
theorem d_Cel_carryOut_18 : decode b_Cel_carryOut 18 = .ok (.iaload, 1) := by decide +kernel
theorem d_Cel_carryOut_19 : decode b_Cel_carryOut 19 = .ok (.istore_n 3, 1) := by decide +kernel
theorem d_Cel_carryOut_20 : decode b_Cel_carryOut 20 = .ok (.aload_n 0, 1) := by decide +kernel
theorem d_Cel_carryOut_21 : decode b_Cel_carryOut 21 = .ok (.getfield 38, 3) := by decide +kernel
theorem d_Cel_carryOut_24 : decode b_Cel_carryOut 24 = .ok (.getfield 214, 3) := by decide +kernel
theorem d_Cel_carryOut_27 : decode b_Cel_carryOut 27 = .ok (.iload_n 1, 1) := by decide +kernel
theorem d_Cel_carryOut_28 : decode b_Cel_carryOut 28 = .ok (.iaload, 1) := by decide +kernel
theorem d_Cel_carryOut_29 : decode b_Cel_carryOut 29 = .ok (.tableswitch 153 0 5 #[39, 61, 92, 105, 113, 131], 39) := by decide +kernel
theorem d_Cel_carryOut_68 : decode b_Cel_carryOut 68 = .ok (.aload_n 0, 1) := by decide +kernel
theorem d_Cel_carryOut_69 : decode b_Cel_carryOut 69 = .ok (.getfield 30, 3) := by decide +kernel
theorem d_Cel_carryOut_72 : decode b_Cel_carryOut 72 = .ok (.iload_n 2, 1) := by decide +kernel
theorem d_Cel_carryOut_73 : decode b_Cel_carryOut 73 = .ok (.aaload, 1) := by decide +kernel
theorem d_Cel_carryOut_74 : decode b_Cel_carryOut 74 = .ok (.aload_n 0, 1) := by decide +kernel
theorem d_Cel_carryOut_75 : decode b_Cel_carryOut 75 = .ok (.getfield 38, 3) := by decide +kernel
theorem d_Cel_carryOut_78 : decode b_Cel_carryOut 78 = .ok (.getfield 217, 3) := by decide +kernel
theorem d_Cel_carryOut_81 : decode b_Cel_carryOut 81 = .ok (.iload_n 1, 1) := by decide +kernel
theorem d_Cel_carryOut_82 : decode b_Cel_carryOut 82 = .ok (.laload, 1) := by decide +kernel
theorem d_Cel_carryOut_83 : decode b_Cel_carryOut 83 = .ok (.iload_n 3, 1) := by decide +kernel
theorem d_Cel_carryOut_84 : decode b_Cel_carryOut 84 = .ok (.invokevirtual 220, 3) := by decide +kernel
theorem d_Cel_carryOut_87 : decode b_Cel_carryOut 87 = .ok (.goto 95, 3) := by decide +kernel
theorem d_Cel_carryOut_90 : decode b_Cel_carryOut 90 = .ok (.aload_n 0, 1) := by decide +kernel
theorem d_Cel_carryOut_91 : decode b_Cel_carryOut 91 = .ok (.getfield 23, 3) := by decide +kernel
theorem d_Cel_carryOut_94 : decode b_Cel_carryOut 94 = .ok (.iload_n 2, 1) := by decide +kernel
theorem d_Cel_carryOut_95 : decode b_Cel_carryOut 95 = .ok (.aaload, 1) := by decide +kernel
theorem d_Cel_carryOut_96 : decode b_Cel_carryOut 96 = .ok (.iload_n 3, 1) := by decide +kernel
theorem d_Cel_carryOut_97 : decode b_Cel_carryOut 97 = .ok (.aload_n 0, 1) := by decide +kernel
theorem d_Cel_carryOut_98 : decode b_Cel_carryOut 98 = .ok (.getfield 38, 3) := by decide +kernel
theorem d_Cel_carryOut_101 : decode b_Cel_carryOut 101 = .ok (.getfield 217, 3) := by decide +kernel
theorem d_Cel_carryOut_104 : decode b_Cel_carryOut 104 = .ok (.iload_n 1, 1) := by decide +kernel
theorem d_Cel_carryOut_105 : decode b_Cel_carryOut 105 = .ok (.laload, 1) := by decide +kernel
theorem d_Cel_carryOut_106 : decode b_Cel_carryOut 106 = .ok (.aload_n 0, 1) := by decide +kernel
theorem d_Cel_carryOut_107 : decode b_Cel_carryOut 107 = .ok (.getfield 38, 3) := by decide +kernel
theorem d_Cel_carryOut_110 : decode b_Cel_carryOut 110 = .ok (.getfield 224, 3) := by decide +kernel
theorem d_Cel_carryOut_113 : decode b_Cel_carryOut 113 = .ok (.iload_n 1, 1) := by decide +kernel
theorem d_Cel_carryOut_114 : decode b_Cel_carryOut 114 = .ok (.laload, 1) := by decide +kernel
theorem d_Cel_carryOut_115 : decode b_Cel_carryOut 115 = .ok (.invokevirtual 225, 3) := by decide +kernel
theorem d_Cel_carryOut_118 : decode b_Cel_carryOut 118 = .ok (.goto 64, 3) := by decide +kernel
theorem d_Cel_carryOut_121 : decode b_Cel_carryOut 121 = .ok (.aload_n 0, 1) := by decide +kernel
theorem d_Cel_carryOut_122 : decode b_Cel_carryOut 122 = .ok (.getfield 23, 3) := by decide +kernel
theorem d_Cel_carryOut_125 : decode b_Cel_carryOut 125 = .ok (.iload_n 2, 1) := by decide +kernel
theorem d_Cel_carryOut_126 : decode b_Cel_carryOut 126 = .ok (.aaload, 1) := by decide +kernel
theorem d_Cel_carryOut_127 : decode b_Cel_carryOut 127 = .ok (.iload_n 3, 1) := by decide +kernel
theorem d_Cel_carryOut_128 : decode b_Cel_carryOut 128 = .ok (.invokevirtual 229, 3) := by decide +kernel
theorem d_Cel_carryOut_131 : decode b_Cel_carryOut 131 = .ok (.goto 51, 3) := by decide +kernel
theorem d_Cel_carryOut_134 : decode b_Cel_carryOut 134 = .ok (.aload_n 0, 1) := by decide +kernel
theorem d_Cel_carryOut_135 : decode b_Cel_carryOut 135 = .ok (.iload_n 3, 1) := by decide +kernel
theorem d_Cel_carryOut_136 : decode b_Cel_carryOut 136 = .ok (.invokevirtual 232, 3) := by decide +kernel
theorem d_Cel_carryOut_139 : decode b_Cel_carryOut 139 = .ok (.goto 43, 3) := by decide +kernel
theorem d_Cel_carryOut_142 : decode b_Cel_carryOut 142 = .ok (.aload_n 0, 1) := by decide +kernel
theorem d_Cel_carryOut_143 : decode b_Cel_carryOut 143 = .ok (.getfield 23, 3) := by decide +kernel
theorem d_Cel_carryOut_146 : decode b_Cel_carryOut 146 = .ok (.iload_n 2, 1) := by decide +kernel
theorem d_Cel_carryOut_147 : decode b_Cel_carryOut 147 = .ok (.aaload, 1) := by decide +kernel
theorem d_Cel_carryOut_148 : decode b_Cel_carryOut 148 = .ok (.dup, 1) := by decide +kernel
theorem d_Cel_carryOut_149 : decode b_Cel_carryOut 149 = .ok (.getfield 117, 3) := by decide +kernel
theorem d_Cel_carryOut_152 : decode b_Cel_carryOut 152 = .ok (.iload_n 3, 1) := by decide +kernel
theorem d_Cel_carryOut_153 : decode b_Cel_carryOut 153 = .ok (.iadd, 1) := by decide +kernel
theorem d_Cel_carryOut_154 : decode b_Cel_carryOut 154 = .ok (.putfield 117, 3) := by decide +kernel
theorem d_Cel_carryOut_157 : decode b_Cel_carryOut 157 = .ok (.goto 25, 3) := by decide +kernel
theorem d_Cel_carryOut_160 : decode b_Cel_carryOut 160 = .ok (.aload_n 0, 1) := by decide +kernel
theorem d_Cel_carryOut_161 : decode b_Cel_carryOut 161 = .ok (.aload_n 0, 1) := by decide +kernel
theorem d_Cel_carryOut_162 : decode b_Cel_carryOut 162 = .ok (.getfield 23, 3) := by decide +kernel
theorem d_Cel_carryOut_165 : decode b_Cel_carryOut 165 = .ok (.iload_n 2, 1) := by decide +kernel
theorem d_Cel_carryOut_166 : decode b_Cel_carryOut 166 = .ok (.aaload, 1) := by decide +kernel
theorem d_Cel_carryOut_167 : decode b_Cel_carryOut 167 = .ok (.aload_n 0, 1) := by decide +kernel
theorem d_Cel_carryOut_168 : decode b_Cel_carryOut 168 = .ok (.getfield 38, 3) := by decide +kernel
theorem d_Cel_carryOut_171 : decode b_Cel_carryOut 171 = .ok (.getfield 217, 3) := by decide +kernel
theorem d_Cel_carryOut_174 : decode b_Cel_carryOut 174 = .ok (.iload_n 1, 1) := by decide +kernel
theorem d_Cel_carryOut_175 : decode b_Cel_carryOut 175 = .ok (.laload, 1) := by decide +kernel
theorem d_Cel_carryOut_176 : decode b_Cel_carryOut 176 = .ok (.invokevirtual 235, 3) := by decide +kernel
theorem d_Cel_carryOut_179 : decode b_Cel_carryOut 179 = .ok (.goto 3, 3) := by decide +kernel
theorem d_Cel_carryOut_182 : decode b_Cel_carryOut 182 = .ok (.return_, 1) := by decide +kernel
theorem d_Cel_passYears_0 : decode b_Cel_passYears 0 = .ok (.iconst 0, 1) := by decide +kernel
theorem d_Cel_passYears_1 : decode b_Cel_passYears 1 = .ok (.istore_n 2, 1) := by decide +kernel
theorem d_Cel_passYears_2 : decode b_Cel_passYears 2 = .ok (.iload_n 2, 1) := by decide +kernel
theorem d_Cel_passYears_3 : decode b_Cel_passYears 3 = .ok (.aload_n 0, 1) := by decide +kernel
theorem d_Cel_passYears_4 : decode b_Cel_passYears 4 = .ok (.getfield 23, 3) := by decide +kernel
theorem d_Cel_passYears_7 : decode b_Cel_passYears 7 = .ok (.arraylength, 1) := by decide +kernel
theorem d_Cel_passYears_8 : decode b_Cel_passYears 8 = .ok (.if_icmp .ge 23, 3) := by decide +kernel
theorem d_Cel_passYears_11 : decode b_Cel_passYears 11 = .ok (.aload_n 0, 1) := by decide +kernel
theorem d_Cel_passYears_12 : decode b_Cel_passYears 12 = .ok (.getfield 23, 3) := by decide +kernel
theorem d_Cel_passYears_15 : decode b_Cel_passYears 15 = .ok (.iload_n 2, 1) := by decide +kernel
theorem d_Cel_passYears_16 : decode b_Cel_passYears 16 = .ok (.aaload, 1) := by decide +kernel
theorem d_Cel_passYears_17 : decode b_Cel_passYears 17 = .ok (.iload_n 1, 1) := by decide +kernel
theorem d_Cel_passYears_18 : decode b_Cel_passYears 18 = .ok (.aload_n 0, 1) := by decide +kernel
theorem d_Cel_passYears_19 : decode b_Cel_passYears 19 = .ok (.getfield 30, 3) := by decide +kernel
theorem d_Cel_passYears_22 : decode b_Cel_passYears 22 = .ok (.invokevirtual 239, 3) := by decide +kernel
theorem d_Cel_passYears_25 : decode b_Cel_passYears 25 = .ok (.iinc 2 1, 3) := by decide +kernel
theorem d_Cel_passYears_28 : decode b_Cel_passYears 28 = .ok (.goto (-26), 3) := by decide +kernel
theorem d_Cel_passYears_31 : decode b_Cel_passYears 31 = .ok (.aload_n 0, 1) := by decide +kernel
theorem d_Cel_passYears_32 : decode b_Cel_passYears 32 = .ok (.dup, 1) := by decide +kernel
theorem d_Cel_passYears_33 : decode b_Cel_passYears 33 = .ok (.getfield 93, 3) := by decide +kernel
theorem d_Cel_passYears_36 : decode b_Cel_passYears 36 = .ok (.iload_n 1, 1) := by decide +kernel
theorem d_Cel_passYears_37 : decode b_Cel_passYears 37 = .ok (.iadd, 1) := by decide +kernel
theorem d_Cel_passYears_38 : decode b_Cel_passYears 38 = .ok (.putfield 93, 3) := by decide +kernel
theorem d_Cel_passYears_41 : decode b_Cel_passYears 41 = .ok (.return_, 1) := by decide +kernel
theorem d_Cel_compare_0 : decode b_Cel_compare 0 = .ok (.aload_n 1, 1) := by decide +kernel
theorem d_Cel_compare_1 : decode b_Cel_compare 1 = .ok (.invokevirtual 105, 3) := by decide +kernel
theorem d_Cel_compare_4 : decode b_Cel_compare 4 = .ok (.ldc2_w 243, 3) := by decide +kernel
theorem d_Cel_compare_7 : decode b_Cel_compare 7 = .ok (.ldiv, 1) := by decide +kernel
theorem d_Cel_compare_8 : decode b_Cel_compare 8 = .ok (.lload_n 2, 1) := by decide +kernel
theorem d_Cel_compare_9 : decode b_Cel_compare 9 = .ok (.lsub, 1) := by decide +kernel
theorem d_Cel_compare_10 : decode b_Cel_compare 10 = .ok (.lstore 4, 2) := by decide +kernel
theorem d_Cel_compare_12 : decode b_Cel_compare 12 = .ok (.ldc2_w 245, 3) := by decide +kernel
theorem d_Cel_compare_15 : decode b_Cel_compare 15 = .ok (.ldc2_w 79, 3) := by decide +kernel
theorem d_Cel_compare_18 : decode b_Cel_compare 18 = .ok (.lload 4, 2) := by decide +kernel
theorem d_Cel_compare_20 : decode b_Cel_compare 20 = .ok (.invokestatic 247, 3) := by decide +kernel
theorem d_Cel_compare_23 : decode b_Cel_compare 23 = .ok (.invokestatic 253, 3) := by decide +kernel
theorem d_Cel_compare_26 : decode b_Cel_compare 26 = .ok (.lstore 6, 2) := by decide +kernel
theorem d_Cel_compare_28 : decode b_Cel_compare 28 = .ok (.aload_n 0, 1) := by decide +kernel
theorem d_Cel_compare_29 : decode b_Cel_compare 29 = .ok (.dup, 1) := by decide +kernel
theorem d_Cel_compare_30 : decode b_Cel_compare 30 = .ok (.getfield 180, 3) := by decide +kernel
theorem d_Cel_compare_33 : decode b_Cel_compare 33 = .ok (.lload 6, 2) := by decide +kernel
theorem d_Cel_compare_35 : decode b_Cel_compare 35 = .ok (.lload 6, 2) := by decide +kernel
theorem d_Cel_compare_37 : decode b_Cel_compare 37 = .ok (.lmul, 1) := by decide +kernel
theorem d_Cel_compare_38 : decode b_Cel_compare 38 = .ok (.ladd, 1) := by decide +kernel
theorem d_Cel_compare_39 : decode b_Cel_compare 39 = .ok (.putfield 180, 3) := by decide +kernel
theorem d_Cel_compare_42 : decode b_Cel_compare 42 = .ok (.aload_n 0, 1) := by decide +kernel
theorem d_Cel_compare_43 : decode b_Cel_compare 43 = .ok (.dup, 1) := by decide +kernel
theorem d_Cel_compare_44 : decode b_Cel_compare 44 = .ok (.getfield 100, 3) := by decide +kernel
theorem d_Cel_compare_47 : decode b_Cel_compare 47 = .ok (.iconst 1, 1) := by decide +kernel
theorem d_Cel_compare_48 : decode b_Cel_compare 48 = .ok (.iadd, 1) := by decide +kernel
theorem d_Cel_compare_49 : decode b_Cel_compare 49 = .ok (.putfield 100, 3) := by decide +kernel
theorem d_Cel_compare_52 : decode b_Cel_compare 52 = .ok (.return_, 1) := by decide +kernel
theorem d_Cel_firstThickness_0 : decode b_Cel_firstThickness 0 = .ok (.lload_n 2, 1) := by decide +kernel
theorem d_Cel_firstThickness_1 : decode b_Cel_firstThickness 1 = .ok (.ldc2_w 79, 3) := by decide +kernel
theorem d_Cel_firstThickness_4 : decode b_Cel_firstThickness 4 = .ok (.lmul, 1) := by decide +kernel
theorem d_Cel_firstThickness_5 : decode b_Cel_firstThickness 5 = .ok (.aload_n 1, 1) := by decide +kernel
theorem d_Cel_firstThickness_6 : decode b_Cel_firstThickness 6 = .ok (.getfield 60, 3) := by decide +kernel
theorem d_Cel_firstThickness_9 : decode b_Cel_firstThickness 9 = .ok (.i2l, 1) := by decide +kernel
theorem d_Cel_firstThickness_10 : decode b_Cel_firstThickness 10 = .ok (.aload_n 0, 1) := by decide +kernel
theorem d_Cel_firstThickness_11 : decode b_Cel_firstThickness 11 = .ok (.getfield 15, 3) := by decide +kernel
theorem d_Cel_firstThickness_14 : decode b_Cel_firstThickness 14 = .ok (.i2l, 1) := by decide +kernel
theorem d_Cel_firstThickness_15 : decode b_Cel_firstThickness 15 = .ok (.lmul, 1) := by decide +kernel
theorem d_Cel_firstThickness_16 : decode b_Cel_firstThickness 16 = .ok (.aload_n 0, 1) := by decide +kernel
theorem d_Cel_firstThickness_17 : decode b_Cel_firstThickness 17 = .ok (.getfield 15, 3) := by decide +kernel
theorem d_Cel_firstThickness_20 : decode b_Cel_firstThickness 20 = .ok (.i2l, 1) := by decide +kernel
theorem d_Cel_firstThickness_21 : decode b_Cel_firstThickness 21 = .ok (.lmul, 1) := by decide +kernel
theorem d_Cel_firstThickness_22 : decode b_Cel_firstThickness 22 = .ok (.ldiv, 1) := by decide +kernel
theorem d_Cel_firstThickness_23 : decode b_Cel_firstThickness 23 = .ok (.lreturn, 1) := by decide +kernel
theorem d_Cel_stepBehind_0 : decode b_Cel_stepBehind 0 = .ok (.aload_n 0, 1) := by decide +kernel
theorem d_Cel_stepBehind_1 : decode b_Cel_stepBehind 1 = .ok (.getfield 23, 3) := by decide +kernel
theorem d_Cel_stepBehind_4 : decode b_Cel_stepBehind 4 = .ok (.iload_n 1, 1) := by decide +kernel
theorem d_Cel_stepBehind_5 : decode b_Cel_stepBehind 5 = .ok (.aaload, 1) := by decide +kernel
theorem d_Cel_stepBehind_6 : decode b_Cel_stepBehind 6 = .ok (.invokevirtual 105, 3) := by decide +kernel
theorem d_Cel_stepBehind_9 : decode b_Cel_stepBehind 9 = .ok (.aload_n 0, 1) := by decide +kernel
theorem d_Cel_stepBehind_10 : decode b_Cel_stepBehind 10 = .ok (.getfield 23, 3) := by decide +kernel
theorem d_Cel_stepBehind_13 : decode b_Cel_stepBehind 13 = .ok (.iload_n 1, 1) := by decide +kernel
theorem d_Cel_stepBehind_14 : decode b_Cel_stepBehind 14 = .ok (.iconst 1, 1) := by decide +kernel
theorem d_Cel_stepBehind_15 : decode b_Cel_stepBehind 15 = .ok (.iadd, 1) := by decide +kernel
theorem d_Cel_stepBehind_16 : decode b_Cel_stepBehind 16 = .ok (.aaload, 1) := by decide +kernel
theorem d_Cel_stepBehind_17 : decode b_Cel_stepBehind 17 = .ok (.invokevirtual 105, 3) := by decide +kernel
theorem d_Cel_stepBehind_20 : decode b_Cel_stepBehind 20 = .ok (.lsub, 1) := by decide +kernel
theorem d_Cel_stepBehind_21 : decode b_Cel_stepBehind 21 = .ok (.invokestatic 256, 3) := by decide +kernel
theorem d_Cel_stepBehind_24 : decode b_Cel_stepBehind 24 = .ok (.lreturn, 1) := by decide +kernel
theorem d_Cel_columnAt_0 : decode b_Cel_columnAt 0 = .ok (.iload_n 1, 1) := by decide +kernel
theorem d_Cel_columnAt_1 : decode b_Cel_columnAt 1 = .ok (.i2l, 1) := by decide +kernel
theorem d_Cel_columnAt_2 : decode b_Cel_columnAt 2 = .ok (.lconst 0, 1) := by decide +kernel
theorem d_Cel_columnAt_3 : decode b_Cel_columnAt 3 = .ok (.aload_n 0, 1) := by decide +kernel
theorem d_Cel_columnAt_4 : decode b_Cel_columnAt 4 = .ok (.getfield 23, 3) := by decide +kernel
theorem d_Cel_columnAt_7 : decode b_Cel_columnAt 7 = .ok (.arraylength, 1) := by decide +kernel
theorem d_Cel_columnAt_8 : decode b_Cel_columnAt 8 = .ok (.iconst 1, 1) := by decide +kernel
theorem d_Cel_columnAt_9 : decode b_Cel_columnAt 9 = .ok (.isub, 1) := by decide +kernel
theorem d_Cel_columnAt_10 : decode b_Cel_columnAt 10 = .ok (.i2l, 1) := by decide +kernel
theorem d_Cel_columnAt_11 : decode b_Cel_columnAt 11 = .ok (.invokestatic 11, 3) := by decide +kernel
theorem d_Cel_columnAt_14 : decode b_Cel_columnAt 14 = .ok (.ifCond .eq 12, 3) := by decide +kernel
theorem d_Cel_columnAt_17 : decode b_Cel_columnAt 17 = .ok (.aload_n 0, 1) := by decide +kernel
theorem d_Cel_columnAt_18 : decode b_Cel_columnAt 18 = .ok (.getfield 23, 3) := by decide +kernel
theorem d_Cel_columnAt_21 : decode b_Cel_columnAt 21 = .ok (.iload_n 1, 1) := by decide +kernel
theorem d_Cel_columnAt_22 : decode b_Cel_columnAt 22 = .ok (.aaload, 1) := by decide +kernel
theorem d_Cel_columnAt_23 : decode b_Cel_columnAt 23 = .ok (.goto 4, 3) := by decide +kernel
theorem d_Cel_columnAt_26 : decode b_Cel_columnAt 26 = .ok (.aconst_null, 1) := by decide +kernel
theorem d_Cel_columnAt_27 : decode b_Cel_columnAt 27 = .ok (.areturn, 1) := by decide +kernel
theorem d_Cel_kindAt_0 : decode b_Cel_kindAt 0 = .ok (.iload_n 1, 1) := by decide +kernel
theorem d_Cel_kindAt_1 : decode b_Cel_kindAt 1 = .ok (.i2l, 1) := by decide +kernel
theorem d_Cel_kindAt_2 : decode b_Cel_kindAt 2 = .ok (.lconst 0, 1) := by decide +kernel
theorem d_Cel_kindAt_3 : decode b_Cel_kindAt 3 = .ok (.ldc2_w 259, 3) := by decide +kernel
theorem d_Cel_kindAt_6 : decode b_Cel_kindAt 6 = .ok (.invokestatic 11, 3) := by decide +kernel
theorem d_Cel_kindAt_9 : decode b_Cel_kindAt 9 = .ok (.ifCond .eq 12, 3) := by decide +kernel
theorem d_Cel_kindAt_12 : decode b_Cel_kindAt 12 = .ok (.aload_n 0, 1) := by decide +kernel
theorem d_Cel_kindAt_13 : decode b_Cel_kindAt 13 = .ok (.getfield 30, 3) := by decide +kernel
theorem d_Cel_kindAt_16 : decode b_Cel_kindAt 16 = .ok (.iload_n 1, 1) := by decide +kernel
theorem d_Cel_kindAt_17 : decode b_Cel_kindAt 17 = .ok (.aaload, 1) := by decide +kernel
theorem d_Cel_kindAt_18 : decode b_Cel_kindAt 18 = .ok (.goto 4, 3) := by decide +kernel
theorem d_Cel_kindAt_21 : decode b_Cel_kindAt 21 = .ok (.aconst_null, 1) := by decide +kernel
theorem d_Cel_kindAt_22 : decode b_Cel_kindAt 22 = .ok (.areturn, 1) := by decide +kernel
theorem d_Cel_surfaceAt_0 : decode b_Cel_surfaceAt 0 = .ok (.iload_n 1, 1) := by decide +kernel
theorem d_Cel_surfaceAt_1 : decode b_Cel_surfaceAt 1 = .ok (.i2l, 1) := by decide +kernel
theorem d_Cel_surfaceAt_2 : decode b_Cel_surfaceAt 2 = .ok (.lconst 0, 1) := by decide +kernel
theorem d_Cel_surfaceAt_3 : decode b_Cel_surfaceAt 3 = .ok (.aload_n 0, 1) := by decide +kernel
theorem d_Cel_surfaceAt_4 : decode b_Cel_surfaceAt 4 = .ok (.getfield 120, 3) := by decide +kernel
theorem d_Cel_surfaceAt_7 : decode b_Cel_surfaceAt 7 = .ok (.iconst 1, 1) := by decide +kernel
theorem d_Cel_surfaceAt_8 : decode b_Cel_surfaceAt 8 = .ok (.isub, 1) := by decide +kernel
theorem d_Cel_surfaceAt_9 : decode b_Cel_surfaceAt 9 = .ok (.i2l, 1) := by decide +kernel
theorem d_Cel_surfaceAt_10 : decode b_Cel_surfaceAt 10 = .ok (.invokestatic 11, 3) := by decide +kernel
theorem d_Cel_surfaceAt_13 : decode b_Cel_surfaceAt 13 = .ok (.ifCond .eq 12, 3) := by decide +kernel
theorem d_Cel_surfaceAt_16 : decode b_Cel_surfaceAt 16 = .ok (.aload_n 0, 1) := by decide +kernel
theorem d_Cel_surfaceAt_17 : decode b_Cel_surfaceAt 17 = .ok (.getfield 44, 3) := by decide +kernel
theorem d_Cel_surfaceAt_20 : decode b_Cel_surfaceAt 20 = .ok (.iload_n 1, 1) := by decide +kernel
theorem d_Cel_surfaceAt_21 : decode b_Cel_surfaceAt 21 = .ok (.aaload, 1) := by decide +kernel
theorem d_Cel_surfaceAt_22 : decode b_Cel_surfaceAt 22 = .ok (.goto 4, 3) := by decide +kernel
theorem d_Cel_surfaceAt_25 : decode b_Cel_surfaceAt 25 = .ok (.aconst_null, 1) := by decide +kernel
theorem d_Cel_surfaceAt_26 : decode b_Cel_surfaceAt 26 = .ok (.areturn, 1) := by decide +kernel
theorem d_Cel_phaseAt_0 : decode b_Cel_phaseAt 0 = .ok (.iload_n 1, 1) := by decide +kernel
theorem d_Cel_phaseAt_1 : decode b_Cel_phaseAt 1 = .ok (.i2l, 1) := by decide +kernel
theorem d_Cel_phaseAt_2 : decode b_Cel_phaseAt 2 = .ok (.lconst 0, 1) := by decide +kernel
theorem d_Cel_phaseAt_3 : decode b_Cel_phaseAt 3 = .ok (.aload_n 0, 1) := by decide +kernel
theorem d_Cel_phaseAt_4 : decode b_Cel_phaseAt 4 = .ok (.getfield 154, 3) := by decide +kernel
theorem d_Cel_phaseAt_7 : decode b_Cel_phaseAt 7 = .ok (.iconst 1, 1) := by decide +kernel
theorem d_Cel_phaseAt_8 : decode b_Cel_phaseAt 8 = .ok (.isub, 1) := by decide +kernel
theorem d_Cel_phaseAt_9 : decode b_Cel_phaseAt 9 = .ok (.i2l, 1) := by decide +kernel
theorem d_Cel_phaseAt_10 : decode b_Cel_phaseAt 10 = .ok (.invokestatic 11, 3) := by decide +kernel
theorem d_Cel_phaseAt_13 : decode b_Cel_phaseAt 13 = .ok (.ifCond .eq 12, 3) := by decide +kernel
theorem d_Cel_phaseAt_16 : decode b_Cel_phaseAt 16 = .ok (.aload_n 0, 1) := by decide +kernel
theorem d_Cel_phaseAt_17 : decode b_Cel_phaseAt 17 = .ok (.getfield 50, 3) := by decide +kernel
theorem d_Cel_phaseAt_20 : decode b_Cel_phaseAt 20 = .ok (.iload_n 1, 1) := by decide +kernel
theorem d_Cel_phaseAt_21 : decode b_Cel_phaseAt 21 = .ok (.aaload, 1) := by decide +kernel
theorem d_Cel_phaseAt_22 : decode b_Cel_phaseAt 22 = .ok (.goto 4, 3) := by decide +kernel
theorem d_Cel_phaseAt_25 : decode b_Cel_phaseAt 25 = .ok (.aconst_null, 1) := by decide +kernel
theorem d_Cel_phaseAt_26 : decode b_Cel_phaseAt 26 = .ok (.areturn, 1) := by decide +kernel
theorem d_Cel_isWithin_0 : decode b_Cel_isWithin 0 = .ok (.lload_n 0, 1) := by decide +kernel
theorem d_Cel_isWithin_1 : decode b_Cel_isWithin 1 = .ok (.lload_n 2, 1) := by decide +kernel
theorem d_Cel_isWithin_2 : decode b_Cel_isWithin 2 = .ok (.lcmp, 1) := by decide +kernel
theorem d_Cel_isWithin_3 : decode b_Cel_isWithin 3 = .ok (.ifCond .lt 14, 3) := by decide +kernel
theorem d_Cel_isWithin_6 : decode b_Cel_isWithin 6 = .ok (.lload_n 0, 1) := by decide +kernel
theorem d_Cel_isWithin_7 : decode b_Cel_isWithin 7 = .ok (.lload 4, 2) := by decide +kernel
theorem d_Cel_isWithin_9 : decode b_Cel_isWithin 9 = .ok (.lcmp, 1) := by decide +kernel
theorem d_Cel_isWithin_10 : decode b_Cel_isWithin 10 = .ok (.ifCond .gt 7, 3) := by decide +kernel
theorem d_Cel_isWithin_13 : decode b_Cel_isWithin 13 = .ok (.iconst 1, 1) := by decide +kernel
theorem d_Cel_isWithin_14 : decode b_Cel_isWithin 14 = .ok (.goto 4, 3) := by decide +kernel
theorem d_Cel_isWithin_17 : decode b_Cel_isWithin 17 = .ok (.iconst 0, 1) := by decide +kernel
theorem d_Cel_isWithin_18 : decode b_Cel_isWithin 18 = .ok (.ireturn, 1) := by decide +kernel
theorem d_Cel_sharedWithSix_0 : decode b_Cel_sharedWithSix 0 = .ok (.lload_n 0, 1) := by decide +kernel
theorem d_Cel_sharedWithSix_1 : decode b_Cel_sharedWithSix 1 = .ok (.ldc2_w 261, 3) := by decide +kernel
theorem d_Cel_sharedWithSix_4 : decode b_Cel_sharedWithSix 4 = .ok (.lrem, 1) := by decide +kernel
theorem d_Cel_sharedWithSix_5 : decode b_Cel_sharedWithSix 5 = .ok (.lconst 0, 1) := by decide +kernel
theorem d_Cel_sharedWithSix_6 : decode b_Cel_sharedWithSix 6 = .ok (.lcmp, 1) := by decide +kernel
theorem d_Cel_sharedWithSix_7 : decode b_Cel_sharedWithSix 7 = .ok (.ifCond .ne 7, 3) := by decide +kernel
theorem d_Cel_sharedWithSix_10 : decode b_Cel_sharedWithSix 10 = .ok (.iconst 2, 1) := by decide +kernel
theorem d_Cel_sharedWithSix_11 : decode b_Cel_sharedWithSix 11 = .ok (.goto 4, 3) := by decide +kernel
theorem d_Cel_sharedWithSix_14 : decode b_Cel_sharedWithSix 14 = .ok (.iconst 1, 1) := by decide +kernel
theorem d_Cel_sharedWithSix_15 : decode b_Cel_sharedWithSix 15 = .ok (.lload_n 0, 1) := by decide +kernel
theorem d_Cel_sharedWithSix_16 : decode b_Cel_sharedWithSix 16 = .ok (.ldc2_w 259, 3) := by decide +kernel
theorem d_Cel_sharedWithSix_19 : decode b_Cel_sharedWithSix 19 = .ok (.lrem, 1) := by decide +kernel
theorem d_Cel_sharedWithSix_20 : decode b_Cel_sharedWithSix 20 = .ok (.lconst 0, 1) := by decide +kernel
theorem d_Cel_sharedWithSix_21 : decode b_Cel_sharedWithSix 21 = .ok (.lcmp, 1) := by decide +kernel
theorem d_Cel_sharedWithSix_22 : decode b_Cel_sharedWithSix 22 = .ok (.ifCond .ne 7, 3) := by decide +kernel
theorem d_Cel_sharedWithSix_25 : decode b_Cel_sharedWithSix 25 = .ok (.iconst 3, 1) := by decide +kernel
theorem d_Cel_sharedWithSix_26 : decode b_Cel_sharedWithSix 26 = .ok (.goto 4, 3) := by decide +kernel
theorem d_Cel_sharedWithSix_29 : decode b_Cel_sharedWithSix 29 = .ok (.iconst 1, 1) := by decide +kernel
theorem d_Cel_sharedWithSix_30 : decode b_Cel_sharedWithSix 30 = .ok (.imul, 1) := by decide +kernel
theorem d_Cel_sharedWithSix_31 : decode b_Cel_sharedWithSix 31 = .ok (.i2l, 1) := by decide +kernel
theorem d_Cel_sharedWithSix_32 : decode b_Cel_sharedWithSix 32 = .ok (.lreturn, 1) := by decide +kernel
