theorem d_Col_init_0 : decode b_Col_init 0 = .ok (.aload_n 0, 1) := by decide +kernel
theorem d_Col_init_1 : decode b_Col_init 1 = .ok (.invokespecial 3, 3) := by decide +kernel
theorem d_Col_init_4 : decode b_Col_init 4 = .ok (.aload_n 0, 1) := by decide +kernel
theorem d_Col_init_5 : decode b_Col_init 5 = .ok (.bipush 10, 2) := by decide +kernel
theorem d_Col_init_7 : decode b_Col_init 7 = .ok (.newarray .int, 2) := by decide +kernel
theorem d_Col_init_9 : decode b_Col_init 9 = .ok (.putfield 11, 3) := by decide +kernel
theorem d_Col_init_12 : decode b_Col_init 12 = .ok (.aload_n 0, 1) := by decide +kernel
theorem d_Col_init_13 : decode b_Col_init 13 = .ok (.bipush 10, 2) := by decide +kernel
theorem d_Col_init_15 : decode b_Col_init 15 = .ok (.newarray .int, 2) := by decide +kernel
theorem d_Col_init_17 : decode b_Col_init 17 = .ok (.putfield 15, 3) := by decide +kernel
theorem d_Col_init_20 : decode b_Col_init 20 = .ok (.aload_n 0, 1) := by decide +kernel
theorem d_Col_init_21 : decode b_Col_init 21 = .ok (.bipush 10, 2) := by decide +kernel
theorem d_Col_init_23 : decode b_Col_init 23 = .ok (.newarray .long, 2) := by decide +kernel
theorem d_Col_init_25 : decode b_Col_init 25 = .ok (.putfield 18, 3) := by decide +kernel
theorem d_Col_init_28 : decode b_Col_init 28 = .ok (.aload_n 0, 1) := by decide +kernel
theorem d_Col_init_29 : decode b_Col_init 29 = .ok (.bipush 10, 2) := by decide +kernel
theorem d_Col_init_31 : decode b_Col_init 31 = .ok (.newarray .long, 2) := by decide +kernel
theorem d_Col_init_33 : decode b_Col_init 33 = .ok (.putfield 22, 3) := by decide +kernel
theorem d_Col_init_36 : decode b_Col_init 36 = .ok (.return_, 1) := by decide +kernel
theorem d_Col_isFull_0 : decode b_Col_isFull 0 = .ok (.aload_n 0, 1) := by decide +kernel
theorem d_Col_isFull_1 : decode b_Col_isFull 1 = .ok (.getfield 25, 3) := by decide +kernel
theorem d_Col_isFull_4 : decode b_Col_isFull 4 = .ok (.bipush 10, 2) := by decide +kernel
theorem d_Col_isFull_6 : decode b_Col_isFull 6 = .ok (.if_icmp .lt 7, 3) := by decide +kernel
theorem d_Col_isFull_9 : decode b_Col_isFull 9 = .ok (.iconst 1, 1) := by decide +kernel
theorem d_Col_isFull_10 : decode b_Col_isFull 10 = .ok (.goto 4, 3) := by decide +kernel
theorem d_Col_isFull_13 : decode b_Col_isFull 13 = .ok (.iconst 0, 1) := by decide +kernel
theorem d_Col_isFull_14 : decode b_Col_isFull 14 = .ok (.ireturn, 1) := by decide +kernel
theorem d_Col_empty_0 : decode b_Col_empty 0 = .ok (.aload_n 0, 1) := by decide +kernel
theorem d_Col_empty_1 : decode b_Col_empty 1 = .ok (.iconst 0, 1) := by decide +kernel
theorem d_Col_empty_2 : decode b_Col_empty 2 = .ok (.putfield 25, 3) := by decide +kernel
theorem d_Col_empty_5 : decode b_Col_empty 5 = .ok (.aload_n 0, 1) := by decide +kernel
theorem d_Col_empty_6 : decode b_Col_empty 6 = .ok (.iconst 0, 1) := by decide +kernel
theorem d_Col_empty_7 : decode b_Col_empty 7 = .ok (.putfield 29, 3) := by decide +kernel
theorem d_Col_empty_10 : decode b_Col_empty 10 = .ok (.return_, 1) := by decide +kernel
theorem d_Col_lay_0 : decode b_Col_lay 0 = .ok (.aload_n 0, 1) := by decide +kernel
theorem d_Col_lay_1 : decode b_Col_lay 1 = .ok (.invokevirtual 32, 3) := by decide +kernel
theorem d_Col_lay_4 : decode b_Col_lay 4 = .ok (.ifCond .eq 4, 3) := by decide +kernel
theorem d_Col_lay_7 : decode b_Col_lay 7 = .ok (.return_, 1) := by decide +kernel
theorem d_Col_lay_8 : decode b_Col_lay 8 = .ok (.aload_n 0, 1) := by decide +kernel
theorem d_Col_lay_9 : decode b_Col_lay 9 = .ok (.getfield 11, 3) := by decide +kernel
theorem d_Col_lay_12 : decode b_Col_lay 12 = .ok (.aload_n 0, 1) := by decide +kernel
theorem d_Col_lay_13 : decode b_Col_lay 13 = .ok (.getfield 25, 3) := by decide +kernel
theorem d_Col_lay_16 : decode b_Col_lay 16 = .ok (.iload_n 1, 1) := by decide +kernel
theorem d_Col_lay_17 : decode b_Col_lay 17 = .ok (.iastore, 1) := by decide +kernel
theorem d_Col_lay_18 : decode b_Col_lay 18 = .ok (.aload_n 0, 1) := by decide +kernel
theorem d_Col_lay_19 : decode b_Col_lay 19 = .ok (.getfield 15, 3) := by decide +kernel
theorem d_Col_lay_22 : decode b_Col_lay 22 = .ok (.aload_n 0, 1) := by decide +kernel
theorem d_Col_lay_23 : decode b_Col_lay 23 = .ok (.getfield 25, 3) := by decide +kernel
theorem d_Col_lay_26 : decode b_Col_lay 26 = .ok (.iconst 0, 1) := by decide +kernel
theorem d_Col_lay_27 : decode b_Col_lay 27 = .ok (.iastore, 1) := by decide +kernel
theorem d_Col_lay_28 : decode b_Col_lay 28 = .ok (.aload_n 0, 1) := by decide +kernel
theorem d_Col_lay_29 : decode b_Col_lay 29 = .ok (.getfield 18, 3) := by decide +kernel
theorem d_Col_lay_32 : decode b_Col_lay 32 = .ok (.aload_n 0, 1) := by decide +kernel
theorem d_Col_lay_33 : decode b_Col_lay 33 = .ok (.getfield 25, 3) := by decide +kernel
theorem d_Col_lay_36 : decode b_Col_lay 36 = .ok (.lload_n 2, 1) := by decide +kernel
theorem d_Col_lay_37 : decode b_Col_lay 37 = .ok (.lastore, 1) := by decide +kernel
theorem d_Col_lay_38 : decode b_Col_lay 38 = .ok (.aload_n 0, 1) := by decide +kernel
theorem d_Col_lay_39 : decode b_Col_lay 39 = .ok (.getfield 22, 3) := by decide +kernel
theorem d_Col_lay_42 : decode b_Col_lay 42 = .ok (.aload_n 0, 1) := by decide +kernel
theorem d_Col_lay_43 : decode b_Col_lay 43 = .ok (.getfield 25, 3) := by decide +kernel
theorem d_Col_lay_46 : decode b_Col_lay 46 = .ok (.lload 4, 2) := by decide +kernel
theorem d_Col_lay_48 : decode b_Col_lay 48 = .ok (.lastore, 1) := by decide +kernel
theorem d_Col_lay_49 : decode b_Col_lay 49 = .ok (.aload_n 0, 1) := by decide +kernel
theorem d_Col_lay_50 : decode b_Col_lay 50 = .ok (.dup, 1) := by decide +kernel
theorem d_Col_lay_51 : decode b_Col_lay 51 = .ok (.getfield 25, 3) := by decide +kernel
theorem d_Col_lay_54 : decode b_Col_lay 54 = .ok (.iconst 1, 1) := by decide +kernel
theorem d_Col_lay_55 : decode b_Col_lay 55 = .ok (.iadd, 1) := by decide +kernel
theorem d_Col_lay_56 : decode b_Col_lay 56 = .ok (.putfield 25, 3) := by decide +kernel
theorem d_Col_lay_59 : decode b_Col_lay 59 = .ok (.return_, 1) := by decide +kernel
theorem d_Col_press_0 : decode b_Col_press 0 = .ok (.aload_n 0, 1) := by decide +kernel
theorem d_Col_press_1 : decode b_Col_press 1 = .ok (.getfield 25, 3) := by decide +kernel
theorem d_Col_press_4 : decode b_Col_press 4 = .ok (.ifCond .ne 4, 3) := by decide +kernel
theorem d_Col_press_7 : decode b_Col_press 7 = .ok (.return_, 1) := by decide +kernel
theorem d_Col_press_8 : decode b_Col_press 8 = .ok (.aload_n 0, 1) := by decide +kernel
theorem d_Col_press_9 : decode b_Col_press 9 = .ok (.getfield 25, 3) := by decide +kernel
theorem d_Col_press_12 : decode b_Col_press 12 = .ok (.iconst 1, 1) := by decide +kernel
theorem d_Col_press_13 : decode b_Col_press 13 = .ok (.isub, 1) := by decide +kernel
theorem d_Col_press_14 : decode b_Col_press 14 = .ok (.istore_n 2, 1) := by decide +kernel
theorem d_Col_press_15 : decode b_Col_press 15 = .ok (.iconst 0, 1) := by decide +kernel
theorem d_Col_press_16 : decode b_Col_press 16 = .ok (.istore_n 3, 1) := by decide +kernel
theorem d_Col_press_17 : decode b_Col_press 17 = .ok (.iload_n 3, 1) := by decide +kernel
theorem d_Col_press_18 : decode b_Col_press 18 = .ok (.iload_n 1, 1) := by decide +kernel
theorem d_Col_press_19 : decode b_Col_press 19 = .ok (.if_icmp .ge 45, 3) := by decide +kernel
theorem d_Col_press_22 : decode b_Col_press 22 = .ok (.aload_n 0, 1) := by decide +kernel
theorem d_Col_press_23 : decode b_Col_press 23 = .ok (.getfield 22, 3) := by decide +kernel
theorem d_Col_press_26 : decode b_Col_press 26 = .ok (.iload_n 2, 1) := by decide +kernel
theorem d_Col_press_27 : decode b_Col_press 27 = .ok (.dup2, 1) := by decide +kernel
theorem d_Col_press_28 : decode b_Col_press 28 = .ok (.laload, 1) := by decide +kernel
theorem d_Col_press_29 : decode b_Col_press 29 = .ok (.aload_n 0, 1) := by decide +kernel
theorem d_Col_press_30 : decode b_Col_press 30 = .ok (.getfield 22, 3) := by decide +kernel
theorem d_Col_press_33 : decode b_Col_press 33 = .ok (.iload_n 2, 1) := by decide +kernel
theorem d_Col_press_34 : decode b_Col_press 34 = .ok (.laload, 1) := by decide +kernel
theorem d_Col_press_35 : decode b_Col_press 35 = .ok (.bipush 8, 2) := by decide +kernel
theorem d_Col_press_37 : decode b_Col_press 37 = .ok (.aload_n 0, 1) := by decide +kernel
theorem d_Col_press_38 : decode b_Col_press 38 = .ok (.getfield 15, 3) := by decide +kernel
theorem d_Col_press_41 : decode b_Col_press 41 = .ok (.iload_n 2, 1) := by decide +kernel
theorem d_Col_press_42 : decode b_Col_press 42 = .ok (.iaload, 1) := by decide +kernel
theorem d_Col_press_43 : decode b_Col_press 43 = .ok (.iadd, 1) := by decide +kernel
theorem d_Col_press_44 : decode b_Col_press 44 = .ok (.i2l, 1) := by decide +kernel
theorem d_Col_press_45 : decode b_Col_press 45 = .ok (.ldiv, 1) := by decide +kernel
theorem d_Col_press_46 : decode b_Col_press 46 = .ok (.lsub, 1) := by decide +kernel
theorem d_Col_press_47 : decode b_Col_press 47 = .ok (.lastore, 1) := by decide +kernel
theorem d_Col_press_48 : decode b_Col_press 48 = .ok (.aload_n 0, 1) := by decide +kernel
theorem d_Col_press_49 : decode b_Col_press 49 = .ok (.getfield 15, 3) := by decide +kernel
theorem d_Col_press_52 : decode b_Col_press 52 = .ok (.iload_n 2, 1) := by decide +kernel
theorem d_Col_press_53 : decode b_Col_press 53 = .ok (.dup2, 1) := by decide +kernel
theorem d_Col_press_54 : decode b_Col_press 54 = .ok (.iaload, 1) := by decide +kernel
theorem d_Col_press_55 : decode b_Col_press 55 = .ok (.iconst 1, 1) := by decide +kernel
theorem d_Col_press_56 : decode b_Col_press 56 = .ok (.iadd, 1) := by decide +kernel
theorem d_Col_press_57 : decode b_Col_press 57 = .ok (.iastore, 1) := by decide +kernel
theorem d_Col_press_58 : decode b_Col_press 58 = .ok (.iinc 3 1, 3) := by decide +kernel
theorem d_Col_press_61 : decode b_Col_press 61 = .ok (.goto (-44), 3) := by decide +kernel
theorem d_Col_press_64 : decode b_Col_press 64 = .ok (.return_, 1) := by decide +kernel
theorem d_Col_settle_0 : decode b_Col_settle 0 = .ok (.lconst 0, 1) := by decide +kernel
theorem d_Col_settle_1 : decode b_Col_settle 1 = .ok (.lstore_n 3, 1) := by decide +kernel
theorem d_Col_settle_2 : decode b_Col_settle 2 = .ok (.aload_n 0, 1) := by decide +kernel
theorem d_Col_settle_3 : decode b_Col_settle 3 = .ok (.getfield 25, 3) := by decide +kernel
theorem d_Col_settle_6 : decode b_Col_settle 6 = .ok (.iconst 1, 1) := by decide +kernel
theorem d_Col_settle_7 : decode b_Col_settle 7 = .ok (.isub, 1) := by decide +kernel
theorem d_Col_settle_8 : decode b_Col_settle 8 = .ok (.istore 5, 2) := by decide +kernel
theorem d_Col_settle_10 : decode b_Col_settle 10 = .ok (.iload 5, 2) := by decide +kernel
theorem d_Col_settle_12 : decode b_Col_settle 12 = .ok (.ifCond .lt 54, 3) := by decide +kernel
theorem d_Col_settle_15 : decode b_Col_settle 15 = .ok (.aload_n 2, 1) := by decide +kernel
theorem d_Col_settle_16 : decode b_Col_settle 16 = .ok (.aload_n 0, 1) := by decide +kernel
theorem d_Col_settle_17 : decode b_Col_settle 17 = .ok (.getfield 11, 3) := by decide +kernel
theorem d_Col_settle_20 : decode b_Col_settle 20 = .ok (.iload 5, 2) := by decide +kernel
theorem d_Col_settle_22 : decode b_Col_settle 22 = .ok (.iaload, 1) := by decide +kernel
theorem d_Col_settle_23 : decode b_Col_settle 23 = .ok (.aaload, 1) := by decide +kernel
theorem d_Col_settle_24 : decode b_Col_settle 24 = .ok (.lload_n 3, 1) := by decide +kernel
theorem d_Col_settle_25 : decode b_Col_settle 25 = .ok (.invokevirtual 36, 3) := by decide +kernel
theorem d_Col_settle_28 : decode b_Col_settle 28 = .ok (.lstore 6, 2) := by decide +kernel
theorem d_Col_settle_30 : decode b_Col_settle 30 = .ok (.aload_n 0, 1) := by decide +kernel
theorem d_Col_settle_31 : decode b_Col_settle 31 = .ok (.getfield 22, 3) := by decide +kernel
theorem d_Col_settle_34 : decode b_Col_settle 34 = .ok (.iload 5, 2) := by decide +kernel
theorem d_Col_settle_36 : decode b_Col_settle 36 = .ok (.aload_n 0, 1) := by decide +kernel
theorem d_Col_settle_37 : decode b_Col_settle 37 = .ok (.getfield 22, 3) := by decide +kernel
theorem d_Col_settle_40 : decode b_Col_settle 40 = .ok (.iload 5, 2) := by decide +kernel
theorem d_Col_settle_42 : decode b_Col_settle 42 = .ok (.laload, 1) := by decide +kernel
theorem d_Col_settle_43 : decode b_Col_settle 43 = .ok (.lload 6, 2) := by decide +kernel
theorem d_Col_settle_45 : decode b_Col_settle 45 = .ok (.iload_n 1, 1) := by decide +kernel
theorem d_Col_settle_46 : decode b_Col_settle 46 = .ok (.invokestatic 42, 3) := by decide +kernel
theorem d_Col_settle_49 : decode b_Col_settle 49 = .ok (.lastore, 1) := by decide +kernel
theorem d_Col_settle_50 : decode b_Col_settle 50 = .ok (.lload_n 3, 1) := by decide +kernel
theorem d_Col_settle_51 : decode b_Col_settle 51 = .ok (.aload_n 0, 1) := by decide +kernel
theorem d_Col_settle_52 : decode b_Col_settle 52 = .ok (.getfield 18, 3) := by decide +kernel
theorem d_Col_settle_55 : decode b_Col_settle 55 = .ok (.iload 5, 2) := by decide +kernel
theorem d_Col_settle_57 : decode b_Col_settle 57 = .ok (.laload, 1) := by decide +kernel
theorem d_Col_settle_58 : decode b_Col_settle 58 = .ok (.ladd, 1) := by decide +kernel
theorem d_Col_settle_59 : decode b_Col_settle 59 = .ok (.lstore_n 3, 1) := by decide +kernel
theorem d_Col_settle_60 : decode b_Col_settle 60 = .ok (.iinc 5 (-1), 3) := by decide +kernel
theorem d_Col_settle_63 : decode b_Col_settle 63 = .ok (.goto (-53), 3) := by decide +kernel
theorem d_Col_settle_66 : decode b_Col_settle 66 = .ok (.return_, 1) := by decide +kernel
theorem d_Col_settled_0 : decode b_Col_settled 0 = .ok (.lload_n 0, 1) := by decide +kernel
theorem d_Col_settled_1 : decode b_Col_settled 1 = .ok (.lstore 5, 2) := by decide +kernel
theorem d_Col_settled_3 : decode b_Col_settled 3 = .ok (.iconst 0, 1) := by decide +kernel
theorem d_Col_settled_4 : decode b_Col_settled 4 = .ok (.istore 7, 2) := by decide +kernel
theorem d_Col_settled_6 : decode b_Col_settled 6 = .ok (.iload 7, 2) := by decide +kernel
theorem d_Col_settled_8 : decode b_Col_settled 8 = .ok (.iload 4, 2) := by decide +kernel
theorem d_Col_settled_10 : decode b_Col_settled 10 = .ok (.if_icmp .ge 36, 3) := by decide +kernel
theorem d_Col_settled_13 : decode b_Col_settled 13 = .ok (.lload 5, 2) := by decide +kernel
theorem d_Col_settled_15 : decode b_Col_settled 15 = .ok (.lload_n 2, 1) := by decide +kernel
theorem d_Col_settled_16 : decode b_Col_settled 16 = .ok (.lmul, 1) := by decide +kernel
theorem d_Col_settled_17 : decode b_Col_settled 17 = .ok (.ldc2_w 46, 3) := by decide +kernel
theorem d_Col_settled_20 : decode b_Col_settled 20 = .ok (.ldiv, 1) := by decide +kernel
theorem d_Col_settled_21 : decode b_Col_settled 21 = .ok (.lstore 8, 2) := by decide +kernel
theorem d_Col_settled_23 : decode b_Col_settled 23 = .ok (.lload 8, 2) := by decide +kernel
theorem d_Col_settled_25 : decode b_Col_settled 25 = .ok (.lconst 0, 1) := by decide +kernel
theorem d_Col_settled_26 : decode b_Col_settled 26 = .ok (.lcmp, 1) := by decide +kernel
theorem d_Col_settled_27 : decode b_Col_settled 27 = .ok (.ifCond .ne 6, 3) := by decide +kernel
theorem d_Col_settled_30 : decode b_Col_settled 30 = .ok (.goto 16, 3) := by decide +kernel
theorem d_Col_settled_33 : decode b_Col_settled 33 = .ok (.lload 5, 2) := by decide +kernel
theorem d_Col_settled_35 : decode b_Col_settled 35 = .ok (.lload 8, 2) := by decide +kernel
theorem d_Col_settled_37 : decode b_Col_settled 37 = .ok (.lsub, 1) := by decide +kernel
theorem d_Col_settled_38 : decode b_Col_settled 38 = .ok (.lstore 5, 2) := by decide +kernel
theorem d_Col_settled_40 : decode b_Col_settled 40 = .ok (.iinc 7 1, 3) := by decide +kernel
theorem d_Col_settled_43 : decode b_Col_settled 43 = .ok (.goto (-37), 3) := by decide +kernel
theorem d_Col_settled_46 : decode b_Col_settled 46 = .ok (.lload 5, 2) := by decide +kernel
theorem d_Col_settled_48 : decode b_Col_settled 48 = .ok (.lreturn, 1) := by decide +kernel
theorem d_Col_top_0 : decode b_Col_top 0 = .ok (.aload_n 0, 1) := by decide +kernel
theorem d_Col_top_1 : decode b_Col_top 1 = .ok (.getfield 29, 3) := by decide +kernel
theorem d_Col_top_4 : decode b_Col_top 4 = .ok (.i2l, 1) := by decide +kernel
theorem d_Col_top_5 : decode b_Col_top 5 = .ok (.ldc2_w 48, 3) := by decide +kernel
theorem d_Col_top_8 : decode b_Col_top 8 = .ok (.lmul, 1) := by decide +kernel
theorem d_Col_top_9 : decode b_Col_top 9 = .ok (.lstore_n 1, 1) := by decide +kernel
theorem d_Col_top_10 : decode b_Col_top 10 = .ok (.iconst 0, 1) := by decide +kernel
theorem d_Col_top_11 : decode b_Col_top 11 = .ok (.istore_n 3, 1) := by decide +kernel
theorem d_Col_top_12 : decode b_Col_top 12 = .ok (.iload_n 3, 1) := by decide +kernel
theorem d_Col_top_13 : decode b_Col_top 13 = .ok (.aload_n 0, 1) := by decide +kernel
theorem d_Col_top_14 : decode b_Col_top 14 = .ok (.getfield 25, 3) := by decide +kernel
theorem d_Col_top_17 : decode b_Col_top 17 = .ok (.if_icmp .ge 18, 3) := by decide +kernel
theorem d_Col_top_20 : decode b_Col_top 20 = .ok (.lload_n 1, 1) := by decide +kernel
theorem d_Col_top_21 : decode b_Col_top 21 = .ok (.aload_n 0, 1) := by decide +kernel
theorem d_Col_top_22 : decode b_Col_top 22 = .ok (.getfield 22, 3) := by decide +kernel
theorem d_Col_top_25 : decode b_Col_top 25 = .ok (.iload_n 3, 1) := by decide +kernel
theorem d_Col_top_26 : decode b_Col_top 26 = .ok (.laload, 1) := by decide +kernel
theorem d_Col_top_27 : decode b_Col_top 27 = .ok (.ladd, 1) := by decide +kernel
theorem d_Col_top_28 : decode b_Col_top 28 = .ok (.lstore_n 1, 1) := by decide +kernel
theorem d_Col_top_29 : decode b_Col_top 29 = .ok (.iinc 3 1, 3) := by decide +kernel
theorem d_Col_top_32 : decode b_Col_top 32 = .ok (.goto (-20), 3) := by decide +kernel
theorem d_Col_top_35 : decode b_Col_top 35 = .ok (.lload_n 1, 1) := by decide +kernel
theorem d_Col_top_36 : decode b_Col_top 36 = .ok (.lreturn, 1) := by decide +kernel
theorem d_Col_kilogramsOf_0 : decode b_Col_kilogramsOf 0 = .ok (.lconst 0, 1) := by decide +kernel
theorem d_Col_kilogramsOf_1 : decode b_Col_kilogramsOf 1 = .ok (.lstore_n 2, 1) := by decide +kernel
theorem d_Col_kilogramsOf_2 : decode b_Col_kilogramsOf 2 = .ok (.iconst 0, 1) := by decide +kernel
theorem d_Col_kilogramsOf_3 : decode b_Col_kilogramsOf 3 = .ok (.istore 4, 2) := by decide +kernel
theorem d_Col_kilogramsOf_5 : decode b_Col_kilogramsOf 5 = .ok (.iload 4, 2) := by decide +kernel
theorem d_Col_kilogramsOf_7 : decode b_Col_kilogramsOf 7 = .ok (.aload_n 0, 1) := by decide +kernel
theorem d_Col_kilogramsOf_8 : decode b_Col_kilogramsOf 8 = .ok (.getfield 25, 3) := by decide +kernel
theorem d_Col_kilogramsOf_11 : decode b_Col_kilogramsOf 11 = .ok (.if_icmp .ge 30, 3) := by decide +kernel
theorem d_Col_kilogramsOf_14 : decode b_Col_kilogramsOf 14 = .ok (.aload_n 0, 1) := by decide +kernel
theorem d_Col_kilogramsOf_15 : decode b_Col_kilogramsOf 15 = .ok (.getfield 11, 3) := by decide +kernel
theorem d_Col_kilogramsOf_18 : decode b_Col_kilogramsOf 18 = .ok (.iload 4, 2) := by decide +kernel
theorem d_Col_kilogramsOf_20 : decode b_Col_kilogramsOf 20 = .ok (.iaload, 1) := by decide +kernel
theorem d_Col_kilogramsOf_21 : decode b_Col_kilogramsOf 21 = .ok (.iload_n 1, 1) := by decide +kernel
theorem d_Col_kilogramsOf_22 : decode b_Col_kilogramsOf 22 = .ok (.if_icmp .ne 13, 3) := by decide +kernel
theorem d_Col_kilogramsOf_25 : decode b_Col_kilogramsOf 25 = .ok (.lload_n 2, 1) := by decide +kernel
theorem d_Col_kilogramsOf_26 : decode b_Col_kilogramsOf 26 = .ok (.aload_n 0, 1) := by decide +kernel
theorem d_Col_kilogramsOf_27 : decode b_Col_kilogramsOf 27 = .ok (.getfield 18, 3) := by decide +kernel
theorem d_Col_kilogramsOf_30 : decode b_Col_kilogramsOf 30 = .ok (.iload 4, 2) := by decide +kernel
theorem d_Col_kilogramsOf_32 : decode b_Col_kilogramsOf 32 = .ok (.laload, 1) := by decide +kernel
theorem d_Col_kilogramsOf_33 : decode b_Col_kilogramsOf 33 = .ok (.ladd, 1) := by decide +kernel
theorem d_Col_kilogramsOf_34 : decode b_Col_kilogramsOf 34 = .ok (.lstore_n 2, 1) := by decide +kernel
theorem d_Col_kilogramsOf_35 : decode b_Col_kilogramsOf 35 = .ok (.iinc 4 1, 3) := by decide +kernel
theorem d_Col_kilogramsOf_38 : decode b_Col_kilogramsOf 38 = .ok (.goto (-33), 3) := by decide +kernel
theorem d_Col_kilogramsOf_41 : decode b_Col_kilogramsOf 41 = .ok (.lload_n 2, 1) := by decide +kernel
theorem d_Col_kilogramsOf_42 : decode b_Col_kilogramsOf 42 = .ok (.lreturn, 1) := by decide +kernel
theorem d_Kin_init_0 : decode b_Kin_init 0 = .ok (.aload_n 0, 1) := by decide +kernel
theorem d_Kin_init_1 : decode b_Kin_init 1 = .ok (.invokespecial 1, 3) := by decide +kernel
theorem d_Kin_init_4 : decode b_Kin_init 4 = .ok (.aload_n 0, 1) := by decide +kernel
theorem d_Kin_init_5 : decode b_Kin_init 5 = .ok (.iconst 4, 1) := by decide +kernel
theorem d_Kin_init_6 : decode b_Kin_init 6 = .ok (.newarray .long, 2) := by decide +kernel
theorem d_Kin_init_8 : decode b_Kin_init 8 = .ok (.putfield 9, 3) := by decide +kernel
theorem d_Kin_init_11 : decode b_Kin_init 11 = .ok (.aload_n 0, 1) := by decide +kernel
theorem d_Kin_init_12 : decode b_Kin_init 12 = .ok (.iconst 4, 1) := by decide +kernel
theorem d_Kin_init_13 : decode b_Kin_init 13 = .ok (.newarray .int, 2) := by decide +kernel
theorem d_Kin_init_15 : decode b_Kin_init 15 = .ok (.putfield 13, 3) := by decide +kernel
theorem d_Kin_init_18 : decode b_Kin_init 18 = .ok (.aload_n 0, 1) := by decide +kernel
theorem d_Kin_init_19 : decode b_Kin_init 19 = .ok (.sipush 500, 3) := by decide +kernel
theorem d_Kin_init_22 : decode b_Kin_init 22 = .ok (.putfield 17, 3) := by decide +kernel
theorem d_Kin_init_25 : decode b_Kin_init 25 = .ok (.aload_n 0, 1) := by decide +kernel
theorem d_Kin_init_26 : decode b_Kin_init 26 = .ok (.sipush 1000, 3) := by decide +kernel
theorem d_Kin_init_29 : decode b_Kin_init 29 = .ok (.putfield 21, 3) := by decide +kernel
theorem d_Kin_init_32 : decode b_Kin_init 32 = .ok (.return_, 1) := by decide +kernel
theorem d_Kin_takesRow_0 : decode b_Kin_takesRow 0 = .ok (.aload_n 0, 1) := by decide +kernel
theorem d_Kin_takesRow_1 : decode b_Kin_takesRow 1 = .ok (.getfield 24, 3) := by decide +kernel
theorem d_Kin_takesRow_4 : decode b_Kin_takesRow 4 = .ok (.iconst 4, 1) := by decide +kernel
theorem d_Kin_takesRow_5 : decode b_Kin_takesRow 5 = .ok (.if_icmp .lt 5, 3) := by decide +kernel
theorem d_Kin_takesRow_8 : decode b_Kin_takesRow 8 = .ok (.iconst 0, 1) := by decide +kernel
theorem d_Kin_takesRow_9 : decode b_Kin_takesRow 9 = .ok (.ireturn, 1) := by decide +kernel
theorem d_Kin_takesRow_10 : decode b_Kin_takesRow 10 = .ok (.lload_n 1, 1) := by decide +kernel
theorem d_Kin_takesRow_11 : decode b_Kin_takesRow 11 = .ok (.lconst 0, 1) := by decide +kernel
theorem d_Kin_takesRow_12 : decode b_Kin_takesRow 12 = .ok (.ldc2_w 27, 3) := by decide +kernel
theorem d_Kin_takesRow_15 : decode b_Kin_takesRow 15 = .ok (.invokestatic 29, 3) := by decide +kernel
theorem d_Kin_takesRow_18 : decode b_Kin_takesRow 18 = .ok (.ifCond .eq 15, 3) := by decide +kernel
theorem d_Kin_takesRow_21 : decode b_Kin_takesRow 21 = .ok (.iload_n 3, 1) := by decide +kernel
theorem d_Kin_takesRow_22 : decode b_Kin_takesRow 22 = .ok (.i2l, 1) := by decide +kernel
theorem d_Kin_takesRow_23 : decode b_Kin_takesRow 23 = .ok (.lconst 0, 1) := by decide +kernel
theorem d_Kin_takesRow_24 : decode b_Kin_takesRow 24 = .ok (.ldc2_w 35, 3) := by decide +kernel
theorem d_Kin_takesRow_27 : decode b_Kin_takesRow 27 = .ok (.invokestatic 29, 3) := by decide +kernel
theorem d_Kin_takesRow_30 : decode b_Kin_takesRow 30 = .ok (.ifCond .ne 5, 3) := by decide +kernel
theorem d_Kin_takesRow_33 : decode b_Kin_takesRow 33 = .ok (.iconst 0, 1) := by decide +kernel
theorem d_Kin_takesRow_34 : decode b_Kin_takesRow 34 = .ok (.ireturn, 1) := by decide +kernel
theorem d_Kin_takesRow_35 : decode b_Kin_takesRow 35 = .ok (.aload_n 0, 1) := by decide +kernel
theorem d_Kin_takesRow_36 : decode b_Kin_takesRow 36 = .ok (.getfield 24, 3) := by decide +kernel
theorem d_Kin_takesRow_39 : decode b_Kin_takesRow 39 = .ok (.ifCond .eq 19, 3) := by decide +kernel
theorem d_Kin_takesRow_42 : decode b_Kin_takesRow 42 = .ok (.lload_n 1, 1) := by decide +kernel
theorem d_Kin_takesRow_43 : decode b_Kin_takesRow 43 = .ok (.aload_n 0, 1) := by decide +kernel
theorem d_Kin_takesRow_44 : decode b_Kin_takesRow 44 = .ok (.getfield 9, 3) := by decide +kernel
theorem d_Kin_takesRow_47 : decode b_Kin_takesRow 47 = .ok (.aload_n 0, 1) := by decide +kernel
theorem d_Kin_takesRow_48 : decode b_Kin_takesRow 48 = .ok (.getfield 24, 3) := by decide +kernel
theorem d_Kin_takesRow_51 : decode b_Kin_takesRow 51 = .ok (.iconst 1, 1) := by decide +kernel
theorem d_Kin_takesRow_52 : decode b_Kin_takesRow 52 = .ok (.isub, 1) := by decide +kernel
theorem d_Kin_takesRow_53 : decode b_Kin_takesRow 53 = .ok (.laload, 1) := by decide +kernel
theorem d_Kin_takesRow_54 : decode b_Kin_takesRow 54 = .ok (.lcmp, 1) := by decide +kernel
theorem d_Kin_takesRow_55 : decode b_Kin_takesRow 55 = .ok (.ifCond .le 7, 3) := by decide +kernel
theorem d_Kin_takesRow_58 : decode b_Kin_takesRow 58 = .ok (.iconst 1, 1) := by decide +kernel
theorem d_Kin_takesRow_59 : decode b_Kin_takesRow 59 = .ok (.goto 4, 3) := by decide +kernel
theorem d_Kin_takesRow_62 : decode b_Kin_takesRow 62 = .ok (.iconst 0, 1) := by decide +kernel
theorem d_Kin_takesRow_63 : decode b_Kin_takesRow 63 = .ok (.ireturn, 1) := by decide +kernel
theorem d_Kin_addRow_0 : decode b_Kin_addRow 0 = .ok (.aload_n 0, 1) := by decide +kernel
theorem d_Kin_addRow_1 : decode b_Kin_addRow 1 = .ok (.getfield 24, 3) := by decide +kernel
theorem d_Kin_addRow_4 : decode b_Kin_addRow 4 = .ok (.iconst 4, 1) := by decide +kernel
theorem d_Kin_addRow_5 : decode b_Kin_addRow 5 = .ok (.if_icmp .lt 4, 3) := by decide +kernel
theorem d_Kin_addRow_8 : decode b_Kin_addRow 8 = .ok (.return_, 1) := by decide +kernel
theorem d_Kin_addRow_9 : decode b_Kin_addRow 9 = .ok (.aload_n 0, 1) := by decide +kernel
theorem d_Kin_addRow_10 : decode b_Kin_addRow 10 = .ok (.getfield 9, 3) := by decide +kernel
theorem d_Kin_addRow_13 : decode b_Kin_addRow 13 = .ok (.aload_n 0, 1) := by decide +kernel
theorem d_Kin_addRow_14 : decode b_Kin_addRow 14 = .ok (.getfield 24, 3) := by decide +kernel
theorem d_Kin_addRow_17 : decode b_Kin_addRow 17 = .ok (.lload_n 1, 1) := by decide +kernel
theorem d_Kin_addRow_18 : decode b_Kin_addRow 18 = .ok (.lastore, 1) := by decide +kernel
theorem d_Kin_addRow_19 : decode b_Kin_addRow 19 = .ok (.aload_n 0, 1) := by decide +kernel
theorem d_Kin_addRow_20 : decode b_Kin_addRow 20 = .ok (.getfield 13, 3) := by decide +kernel
theorem d_Kin_addRow_23 : decode b_Kin_addRow 23 = .ok (.aload_n 0, 1) := by decide +kernel
theorem d_Kin_addRow_24 : decode b_Kin_addRow 24 = .ok (.getfield 24, 3) := by decide +kernel
theorem d_Kin_addRow_27 : decode b_Kin_addRow 27 = .ok (.iload_n 3, 1) := by decide +kernel
theorem d_Kin_addRow_28 : decode b_Kin_addRow 28 = .ok (.iastore, 1) := by decide +kernel
theorem d_Kin_addRow_29 : decode b_Kin_addRow 29 = .ok (.aload_n 0, 1) := by decide +kernel
theorem d_Kin_addRow_30 : decode b_Kin_addRow 30 = .ok (.dup, 1) := by decide +kernel
theorem d_Kin_addRow_31 : decode b_Kin_addRow 31 = .ok (.getfield 24, 3) := by decide +kernel
theorem d_Kin_addRow_34 : decode b_Kin_addRow 34 = .ok (.iconst 1, 1) := by decide +kernel
theorem d_Kin_addRow_35 : decode b_Kin_addRow 35 = .ok (.iadd, 1) := by decide +kernel
theorem d_Kin_addRow_36 : decode b_Kin_addRow 36 = .ok (.putfield 24, 3) := by decide +kernel
theorem d_Kin_addRow_39 : decode b_Kin_addRow 39 = .ok (.return_, 1) := by decide +kernel
theorem d_Kin_forgetRows_0 : decode b_Kin_forgetRows 0 = .ok (.aload_n 0, 1) := by decide +kernel
theorem d_Kin_forgetRows_1 : decode b_Kin_forgetRows 1 = .ok (.iconst 0, 1) := by decide +kernel
theorem d_Kin_forgetRows_2 : decode b_Kin_forgetRows 2 = .ok (.putfield 24, 3) := by decide +kernel
theorem d_Kin_forgetRows_5 : decode b_Kin_forgetRows 5 = .ok (.return_, 1) := by decide +kernel
theorem d_Kin_yearlyMillionths_0 : decode b_Kin_yearlyMillionths 0 = .ok (.aload_n 0, 1) := by decide +kernel
theorem d_Kin_yearlyMillionths_1 : decode b_Kin_yearlyMillionths 1 = .ok (.getfield 24, 3) := by decide +kernel
theorem d_Kin_yearlyMillionths_4 : decode b_Kin_yearlyMillionths 4 = .ok (.iconst 1, 1) := by decide +kernel
theorem d_Kin_yearlyMillionths_5 : decode b_Kin_yearlyMillionths 5 = .ok (.isub, 1) := by decide +kernel
theorem d_Kin_yearlyMillionths_6 : decode b_Kin_yearlyMillionths 6 = .ok (.istore_n 3, 1) := by decide +kernel
theorem d_Kin_yearlyMillionths_7 : decode b_Kin_yearlyMillionths 7 = .ok (.iload_n 3, 1) := by decide +kernel
theorem d_Kin_yearlyMillionths_8 : decode b_Kin_yearlyMillionths 8 = .ok (.ifCond .lt 34, 3) := by decide +kernel
theorem d_Kin_yearlyMillionths_11 : decode b_Kin_yearlyMillionths 11 = .ok (.aload_n 0, 1) := by decide +kernel
theorem d_Kin_yearlyMillionths_12 : decode b_Kin_yearlyMillionths 12 = .ok (.getfield 9, 3) := by decide +kernel
theorem d_Kin_yearlyMillionths_15 : decode b_Kin_yearlyMillionths 15 = .ok (.iload_n 3, 1) := by decide +kernel
theorem d_Kin_yearlyMillionths_16 : decode b_Kin_yearlyMillionths 16 = .ok (.laload, 1) := by decide +kernel
theorem d_Kin_yearlyMillionths_17 : decode b_Kin_yearlyMillionths 17 = .ok (.lload_n 1, 1) := by decide +kernel
theorem d_Kin_yearlyMillionths_18 : decode b_Kin_yearlyMillionths 18 = .ok (.lcmp, 1) := by decide +kernel
theorem d_Kin_yearlyMillionths_19 : decode b_Kin_yearlyMillionths 19 = .ok (.ifCond .gt 17, 3) := by decide +kernel
theorem d_Kin_yearlyMillionths_22 : decode b_Kin_yearlyMillionths 22 = .ok (.aload_n 0, 1) := by decide +kernel
theorem d_Kin_yearlyMillionths_23 : decode b_Kin_yearlyMillionths 23 = .ok (.getfield 13, 3) := by decide +kernel
theorem d_Kin_yearlyMillionths_26 : decode b_Kin_yearlyMillionths 26 = .ok (.iload_n 3, 1) := by decide +kernel
theorem d_Kin_yearlyMillionths_27 : decode b_Kin_yearlyMillionths 27 = .ok (.iaload, 1) := by decide +kernel
theorem d_Kin_yearlyMillionths_28 : decode b_Kin_yearlyMillionths 28 = .ok (.i2l, 1) := by decide +kernel
theorem d_Kin_yearlyMillionths_29 : decode b_Kin_yearlyMillionths 29 = .ok (.aload_n 0, 1) := by decide +kernel
theorem d_Kin_yearlyMillionths_30 : decode b_Kin_yearlyMillionths 30 = .ok (.getfield 21, 3) := by decide +kernel
theorem d_Kin_yearlyMillionths_33 : decode b_Kin_yearlyMillionths 33 = .ok (.i2l, 1) := by decide +kernel
theorem d_Kin_yearlyMillionths_34 : decode b_Kin_yearlyMillionths 34 = .ok (.lmul, 1) := by decide +kernel
theorem d_Kin_yearlyMillionths_35 : decode b_Kin_yearlyMillionths 35 = .ok (.lreturn, 1) := by decide +kernel
theorem d_Kin_yearlyMillionths_36 : decode b_Kin_yearlyMillionths 36 = .ok (.iinc 3 (-1), 3) := by decide +kernel
theorem d_Kin_yearlyMillionths_39 : decode b_Kin_yearlyMillionths 39 = .ok (.goto (-32), 3) := by decide +kernel
theorem d_Kin_yearlyMillionths_42 : decode b_Kin_yearlyMillionths 42 = .ok (.lconst 0, 1) := by decide +kernel
theorem d_Kin_yearlyMillionths_43 : decode b_Kin_yearlyMillionths 43 = .ok (.lreturn, 1) := by decide +kernel
theorem d_Pha_init_0 : decode b_Pha_init 0 = .ok (.aload_n 0, 1) := by decide +kernel
theorem d_Pha_init_1 : decode b_Pha_init 1 = .ok (.invokespecial 1, 3) := by decide +kernel
theorem d_Pha_init_4 : decode b_Pha_init 4 = .ok (.aload_n 0, 1) := by decide +kernel
theorem d_Pha_init_5 : decode b_Pha_init 5 = .ok (.iload_n 1, 1) := by decide +kernel
theorem d_Pha_init_6 : decode b_Pha_init 6 = .ok (.putfield 7, 3) := by decide +kernel
theorem d_Pha_init_9 : decode b_Pha_init 9 = .ok (.aload_n 0, 1) := by decide +kernel
theorem d_Pha_init_10 : decode b_Pha_init 10 = .ok (.iload_n 2, 1) := by decide +kernel
theorem d_Pha_init_11 : decode b_Pha_init 11 = .ok (.putfield 13, 3) := by decide +kernel
theorem d_Pha_init_14 : decode b_Pha_init 14 = .ok (.aload_n 0, 1) := by decide +kernel
theorem d_Pha_init_15 : decode b_Pha_init 15 = .ok (.lload_n 3, 1) := by decide +kernel
theorem d_Pha_init_16 : decode b_Pha_init 16 = .ok (.putfield 16, 3) := by decide +kernel
theorem d_Pha_init_19 : decode b_Pha_init 19 = .ok (.return_, 1) := by decide +kernel
theorem d_Sur_init_0 : decode b_Sur_init 0 = .ok (.aload_n 0, 1) := by decide +kernel
theorem d_Sur_init_1 : decode b_Sur_init 1 = .ok (.invokespecial 1, 3) := by decide +kernel
theorem d_Sur_init_4 : decode b_Sur_init 4 = .ok (.aload_n 0, 1) := by decide +kernel
theorem d_Sur_init_5 : decode b_Sur_init 5 = .ok (.bipush 25, 2) := by decide +kernel
theorem d_Sur_init_7 : decode b_Sur_init 7 = .ok (.newarray .int, 2) := by decide +kernel
theorem d_Sur_init_9 : decode b_Sur_init 9 = .ok (.putfield 9, 3) := by decide +kernel
theorem d_Sur_init_12 : decode b_Sur_init 12 = .ok (.aload_n 0, 1) := by decide +kernel
theorem d_Sur_init_13 : decode b_Sur_init 13 = .ok (.bipush 25, 2) := by decide +kernel
theorem d_Sur_init_15 : decode b_Sur_init 15 = .ok (.newarray .boolean, 2) := by decide +kernel
theorem d_Sur_init_17 : decode b_Sur_init 17 = .ok (.putfield 13, 3) := by decide +kernel
theorem d_Sur_init_20 : decode b_Sur_init 20 = .ok (.return_, 1) := by decide +kernel
theorem d_Sur_isPlace_0 : decode b_Sur_isPlace 0 = .ok (.iload_n 0, 1) := by decide +kernel
theorem d_Sur_isPlace_1 : decode b_Sur_isPlace 1 = .ok (.i2l, 1) := by decide +kernel
theorem d_Sur_isPlace_2 : decode b_Sur_isPlace 2 = .ok (.lconst 0, 1) := by decide +kernel
theorem d_Sur_isPlace_3 : decode b_Sur_isPlace 3 = .ok (.ldc2_w 17, 3) := by decide +kernel
theorem d_Sur_isPlace_6 : decode b_Sur_isPlace 6 = .ok (.invokestatic 19, 3) := by decide +kernel
theorem d_Sur_isPlace_9 : decode b_Sur_isPlace 9 = .ok (.ifCond .eq 19, 3) := by decide +kernel
theorem d_Sur_isPlace_12 : decode b_Sur_isPlace 12 = .ok (.iload_n 1, 1) := by decide +kernel
theorem d_Sur_isPlace_13 : decode b_Sur_isPlace 13 = .ok (.i2l, 1) := by decide +kernel
theorem d_Sur_isPlace_14 : decode b_Sur_isPlace 14 = .ok (.lconst 0, 1) := by decide +kernel
theorem d_Sur_isPlace_15 : decode b_Sur_isPlace 15 = .ok (.ldc2_w 17, 3) := by decide +kernel
theorem d_Sur_isPlace_18 : decode b_Sur_isPlace 18 = .ok (.invokestatic 19, 3) := by decide +kernel
theorem d_Sur_isPlace_21 : decode b_Sur_isPlace 21 = .ok (.ifCond .eq 7, 3) := by decide +kernel
theorem d_Sur_isPlace_24 : decode b_Sur_isPlace 24 = .ok (.iconst 1, 1) := by decide +kernel
theorem d_Sur_isPlace_25 : decode b_Sur_isPlace 25 = .ok (.goto 4, 3) := by decide +kernel
theorem d_Sur_isPlace_28 : decode b_Sur_isPlace 28 = .ok (.iconst 0, 1) := by decide +kernel
theorem d_Sur_isPlace_29 : decode b_Sur_isPlace 29 = .ok (.ireturn, 1) := by decide +kernel
theorem d_Sur_put_0 : decode b_Sur_put 0 = .ok (.iload_n 1, 1) := by decide +kernel
theorem d_Sur_put_1 : decode b_Sur_put 1 = .ok (.iconst 5, 1) := by decide +kernel
theorem d_Sur_put_2 : decode b_Sur_put 2 = .ok (.imul, 1) := by decide +kernel
theorem d_Sur_put_3 : decode b_Sur_put 3 = .ok (.iload_n 2, 1) := by decide +kernel
theorem d_Sur_put_4 : decode b_Sur_put 4 = .ok (.iadd, 1) := by decide +kernel
theorem d_Sur_put_5 : decode b_Sur_put 5 = .ok (.istore 4, 2) := by decide +kernel
theorem d_Sur_put_7 : decode b_Sur_put 7 = .ok (.aload_n 0, 1) := by decide +kernel
theorem d_Sur_put_8 : decode b_Sur_put 8 = .ok (.getfield 9, 3) := by decide +kernel
theorem d_Sur_put_11 : decode b_Sur_put 11 = .ok (.iload 4, 2) := by decide +kernel
theorem d_Sur_put_13 : decode b_Sur_put 13 = .ok (.iload_n 3, 1) := by decide +kernel
theorem d_Sur_put_14 : decode b_Sur_put 14 = .ok (.iastore, 1) := by decide +kernel
theorem d_Sur_put_15 : decode b_Sur_put 15 = .ok (.aload_n 0, 1) := by decide +kernel
theorem d_Sur_put_16 : decode b_Sur_put 16 = .ok (.getfield 13, 3) := by decide +kernel
theorem d_Sur_put_19 : decode b_Sur_put 19 = .ok (.iload 4, 2) := by decide +kernel
theorem d_Sur_put_21 : decode b_Sur_put 21 = .ok (.iconst 1, 1) := by decide +kernel
theorem d_Sur_put_22 : decode b_Sur_put 22 = .ok (.bastore, 1) := by decide +kernel
theorem d_Sur_put_23 : decode b_Sur_put 23 = .ok (.return_, 1) := by decide +kernel
theorem d_Sur_sixfoldTo_0 : decode b_Sur_sixfoldTo 0 = .ok (.lconst 0, 1) := by decide +kernel
theorem d_Sur_sixfoldTo_1 : decode b_Sur_sixfoldTo 1 = .ok (.lstore_n 2, 1) := by decide +kernel
theorem d_Sur_sixfoldTo_2 : decode b_Sur_sixfoldTo 2 = .ok (.iconst 0, 1) := by decide +kernel
theorem d_Sur_sixfoldTo_3 : decode b_Sur_sixfoldTo 3 = .ok (.istore 4, 2) := by decide +kernel
theorem d_Sur_sixfoldTo_5 : decode b_Sur_sixfoldTo 5 = .ok (.iload 4, 2) := by decide +kernel
theorem d_Sur_sixfoldTo_7 : decode b_Sur_sixfoldTo 7 = .ok (.iconst 4, 1) := by decide +kernel
theorem d_Sur_sixfoldTo_8 : decode b_Sur_sixfoldTo 8 = .ok (.if_icmp .ge 39, 3) := by decide +kernel
theorem d_Sur_sixfoldTo_11 : decode b_Sur_sixfoldTo 11 = .ok (.iconst 0, 1) := by decide +kernel
theorem d_Sur_sixfoldTo_12 : decode b_Sur_sixfoldTo 12 = .ok (.istore 5, 2) := by decide +kernel
theorem d_Sur_sixfoldTo_14 : decode b_Sur_sixfoldTo 14 = .ok (.iload 5, 2) := by decide +kernel
theorem d_Sur_sixfoldTo_16 : decode b_Sur_sixfoldTo 16 = .ok (.iconst 4, 1) := by decide +kernel
theorem d_Sur_sixfoldTo_17 : decode b_Sur_sixfoldTo 17 = .ok (.if_icmp .ge 24, 3) := by decide +kernel
theorem d_Sur_sixfoldTo_20 : decode b_Sur_sixfoldTo 20 = .ok (.lload_n 2, 1) := by decide +kernel
theorem d_Sur_sixfoldTo_21 : decode b_Sur_sixfoldTo 21 = .ok (.aload_n 0, 1) := by decide +kernel
theorem d_Sur_sixfoldTo_22 : decode b_Sur_sixfoldTo 22 = .ok (.aload_n 1, 1) := by decide +kernel
theorem d_Sur_sixfoldTo_23 : decode b_Sur_sixfoldTo 23 = .ok (.iload 4, 2) := by decide +kernel
theorem d_Sur_sixfoldTo_25 : decode b_Sur_sixfoldTo 25 = .ok (.iconst 5, 1) := by decide +kernel
theorem d_Sur_sixfoldTo_26 : decode b_Sur_sixfoldTo 26 = .ok (.imul, 1) := by decide +kernel
theorem d_Sur_sixfoldTo_27 : decode b_Sur_sixfoldTo 27 = .ok (.iload 5, 2) := by decide +kernel
theorem d_Sur_sixfoldTo_29 : decode b_Sur_sixfoldTo 29 = .ok (.iadd, 1) := by decide +kernel
theorem d_Sur_sixfoldTo_30 : decode b_Sur_sixfoldTo 30 = .ok (.invokevirtual 25, 3) := by decide +kernel
theorem d_Sur_sixfoldTo_33 : decode b_Sur_sixfoldTo 33 = .ok (.ladd, 1) := by decide +kernel
theorem d_Sur_sixfoldTo_34 : decode b_Sur_sixfoldTo 34 = .ok (.lstore_n 2, 1) := by decide +kernel
theorem d_Sur_sixfoldTo_35 : decode b_Sur_sixfoldTo 35 = .ok (.iinc 5 1, 3) := by decide +kernel
theorem d_Sur_sixfoldTo_38 : decode b_Sur_sixfoldTo 38 = .ok (.goto (-24), 3) := by decide +kernel
theorem d_Sur_sixfoldTo_41 : decode b_Sur_sixfoldTo 41 = .ok (.iinc 4 1, 3) := by decide +kernel
theorem d_Sur_sixfoldTo_44 : decode b_Sur_sixfoldTo 44 = .ok (.goto (-39), 3) := by decide +kernel
theorem d_Sur_sixfoldTo_47 : decode b_Sur_sixfoldTo 47 = .ok (.lload_n 2, 1) := by decide +kernel
theorem d_Sur_sixfoldTo_48 : decode b_Sur_sixfoldTo 48 = .ok (.lreturn, 1) := by decide +kernel
theorem d_Sur_sixfoldOfSquare_0 : decode b_Sur_sixfoldOfSquare 0 = .ok (.iload_n 2, 1) := by decide +kernel
theorem d_Sur_sixfoldOfSquare_1 : decode b_Sur_sixfoldOfSquare 1 = .ok (.iconst 5, 1) := by decide +kernel
theorem d_Sur_sixfoldOfSquare_2 : decode b_Sur_sixfoldOfSquare 2 = .ok (.iadd, 1) := by decide +kernel
theorem d_Sur_sixfoldOfSquare_3 : decode b_Sur_sixfoldOfSquare 3 = .ok (.istore_n 3, 1) := by decide +kernel
theorem d_Sur_sixfoldOfSquare_4 : decode b_Sur_sixfoldOfSquare 4 = .ok (.iload_n 2, 1) := by decide +kernel
theorem d_Sur_sixfoldOfSquare_5 : decode b_Sur_sixfoldOfSquare 5 = .ok (.iconst 1, 1) := by decide +kernel
theorem d_Sur_sixfoldOfSquare_6 : decode b_Sur_sixfoldOfSquare 6 = .ok (.iadd, 1) := by decide +kernel
theorem d_Sur_sixfoldOfSquare_7 : decode b_Sur_sixfoldOfSquare 7 = .ok (.istore 4, 2) := by decide +kernel
theorem d_Sur_sixfoldOfSquare_9 : decode b_Sur_sixfoldOfSquare 9 = .ok (.iload_n 3, 1) := by decide +kernel
theorem d_Sur_sixfoldOfSquare_10 : decode b_Sur_sixfoldOfSquare 10 = .ok (.iconst 1, 1) := by decide +kernel
theorem d_Sur_sixfoldOfSquare_11 : decode b_Sur_sixfoldOfSquare 11 = .ok (.iadd, 1) := by decide +kernel
theorem d_Sur_sixfoldOfSquare_12 : decode b_Sur_sixfoldOfSquare 12 = .ok (.istore 5, 2) := by decide +kernel
theorem d_Sur_sixfoldOfSquare_14 : decode b_Sur_sixfoldOfSquare 14 = .ok (.aload_n 0, 1) := by decide +kernel
theorem d_Sur_sixfoldOfSquare_15 : decode b_Sur_sixfoldOfSquare 15 = .ok (.aload_n 1, 1) := by decide +kernel
theorem d_Sur_sixfoldOfSquare_16 : decode b_Sur_sixfoldOfSquare 16 = .ok (.iload_n 2, 1) := by decide +kernel
theorem d_Sur_sixfoldOfSquare_17 : decode b_Sur_sixfoldOfSquare 17 = .ok (.invokevirtual 29, 3) := by decide +kernel
theorem d_Sur_sixfoldOfSquare_20 : decode b_Sur_sixfoldOfSquare 20 = .ok (.ifCond .eq 32, 3) := by decide +kernel
theorem d_Sur_sixfoldOfSquare_23 : decode b_Sur_sixfoldOfSquare 23 = .ok (.aload_n 0, 1) := by decide +kernel
theorem d_Sur_sixfoldOfSquare_24 : decode b_Sur_sixfoldOfSquare 24 = .ok (.aload_n 1, 1) := by decide +kernel
theorem d_Sur_sixfoldOfSquare_25 : decode b_Sur_sixfoldOfSquare 25 = .ok (.iload_n 3, 1) := by decide +kernel
theorem d_Sur_sixfoldOfSquare_26 : decode b_Sur_sixfoldOfSquare 26 = .ok (.invokevirtual 29, 3) := by decide +kernel
theorem d_Sur_sixfoldOfSquare_29 : decode b_Sur_sixfoldOfSquare 29 = .ok (.ifCond .eq 23, 3) := by decide +kernel
theorem d_Sur_sixfoldOfSquare_32 : decode b_Sur_sixfoldOfSquare 32 = .ok (.aload_n 0, 1) := by decide +kernel
theorem d_Sur_sixfoldOfSquare_33 : decode b_Sur_sixfoldOfSquare 33 = .ok (.aload_n 1, 1) := by decide +kernel
theorem d_Sur_sixfoldOfSquare_34 : decode b_Sur_sixfoldOfSquare 34 = .ok (.iload 4, 2) := by decide +kernel
theorem d_Sur_sixfoldOfSquare_36 : decode b_Sur_sixfoldOfSquare 36 = .ok (.invokevirtual 29, 3) := by decide +kernel
theorem d_Sur_sixfoldOfSquare_39 : decode b_Sur_sixfoldOfSquare 39 = .ok (.ifCond .eq 13, 3) := by decide +kernel
theorem d_Sur_sixfoldOfSquare_42 : decode b_Sur_sixfoldOfSquare 42 = .ok (.aload_n 0, 1) := by decide +kernel
theorem d_Sur_sixfoldOfSquare_43 : decode b_Sur_sixfoldOfSquare 43 = .ok (.aload_n 1, 1) := by decide +kernel
theorem d_Sur_sixfoldOfSquare_44 : decode b_Sur_sixfoldOfSquare 44 = .ok (.iload 5, 2) := by decide +kernel
theorem d_Sur_sixfoldOfSquare_46 : decode b_Sur_sixfoldOfSquare 46 = .ok (.invokevirtual 29, 3) := by decide +kernel
theorem d_Sur_sixfoldOfSquare_49 : decode b_Sur_sixfoldOfSquare 49 = .ok (.ifCond .ne 5, 3) := by decide +kernel
theorem d_Sur_sixfoldOfSquare_52 : decode b_Sur_sixfoldOfSquare 52 = .ok (.lconst 0, 1) := by decide +kernel
theorem d_Sur_sixfoldOfSquare_53 : decode b_Sur_sixfoldOfSquare 53 = .ok (.lreturn, 1) := by decide +kernel
theorem d_Sur_sixfoldOfSquare_54 : decode b_Sur_sixfoldOfSquare 54 = .ok (.ldc2_w 33, 3) := by decide +kernel
theorem d_Sur_sixfoldOfSquare_57 : decode b_Sur_sixfoldOfSquare 57 = .ok (.aload_n 0, 1) := by decide +kernel
theorem d_Sur_sixfoldOfSquare_58 : decode b_Sur_sixfoldOfSquare 58 = .ok (.aload_n 1, 1) := by decide +kernel
theorem d_Sur_sixfoldOfSquare_59 : decode b_Sur_sixfoldOfSquare 59 = .ok (.iload_n 2, 1) := by decide +kernel
theorem d_Sur_sixfoldOfSquare_60 : decode b_Sur_sixfoldOfSquare 60 = .ok (.invokevirtual 35, 3) := by decide +kernel
theorem d_Sur_sixfoldOfSquare_63 : decode b_Sur_sixfoldOfSquare 63 = .ok (.aload_n 0, 1) := by decide +kernel
theorem d_Sur_sixfoldOfSquare_64 : decode b_Sur_sixfoldOfSquare 64 = .ok (.aload_n 1, 1) := by decide +kernel
theorem d_Sur_sixfoldOfSquare_65 : decode b_Sur_sixfoldOfSquare 65 = .ok (.iload 5, 2) := by decide +kernel
theorem d_Sur_sixfoldOfSquare_67 : decode b_Sur_sixfoldOfSquare 67 = .ok (.invokevirtual 35, 3) := by decide +kernel
theorem d_Sur_sixfoldOfSquare_70 : decode b_Sur_sixfoldOfSquare 70 = .ok (.ladd, 1) := by decide +kernel
theorem d_Sur_sixfoldOfSquare_71 : decode b_Sur_sixfoldOfSquare 71 = .ok (.lmul, 1) := by decide +kernel
theorem d_Sur_sixfoldOfSquare_72 : decode b_Sur_sixfoldOfSquare 72 = .ok (.aload_n 0, 1) := by decide +kernel
theorem d_Sur_sixfoldOfSquare_73 : decode b_Sur_sixfoldOfSquare 73 = .ok (.aload_n 1, 1) := by decide +kernel
theorem d_Sur_sixfoldOfSquare_74 : decode b_Sur_sixfoldOfSquare 74 = .ok (.iload_n 3, 1) := by decide +kernel
theorem d_Sur_sixfoldOfSquare_75 : decode b_Sur_sixfoldOfSquare 75 = .ok (.invokevirtual 35, 3) := by decide +kernel
theorem d_Sur_sixfoldOfSquare_78 : decode b_Sur_sixfoldOfSquare 78 = .ok (.ladd, 1) := by decide +kernel
theorem d_Sur_sixfoldOfSquare_79 : decode b_Sur_sixfoldOfSquare 79 = .ok (.aload_n 0, 1) := by decide +kernel
theorem d_Sur_sixfoldOfSquare_80 : decode b_Sur_sixfoldOfSquare 80 = .ok (.aload_n 1, 1) := by decide +kernel
theorem d_Sur_sixfoldOfSquare_81 : decode b_Sur_sixfoldOfSquare 81 = .ok (.iload 4, 2) := by decide +kernel
theorem d_Sur_sixfoldOfSquare_83 : decode b_Sur_sixfoldOfSquare 83 = .ok (.invokevirtual 35, 3) := by decide +kernel
theorem d_Sur_sixfoldOfSquare_86 : decode b_Sur_sixfoldOfSquare 86 = .ok (.ladd, 1) := by decide +kernel
theorem d_Sur_sixfoldOfSquare_87 : decode b_Sur_sixfoldOfSquare 87 = .ok (.lreturn, 1) := by decide +kernel
theorem d_Sur_inBoth_0 : decode b_Sur_inBoth 0 = .ok (.aload_n 0, 1) := by decide +kernel
theorem d_Sur_inBoth_1 : decode b_Sur_inBoth 1 = .ok (.getfield 13, 3) := by decide +kernel
theorem d_Sur_inBoth_4 : decode b_Sur_inBoth 4 = .ok (.iload_n 2, 1) := by decide +kernel
theorem d_Sur_inBoth_5 : decode b_Sur_inBoth 5 = .ok (.baload, 1) := by decide +kernel
theorem d_Sur_inBoth_6 : decode b_Sur_inBoth 6 = .ok (.ifCond .eq 16, 3) := by decide +kernel
theorem d_Sur_inBoth_9 : decode b_Sur_inBoth 9 = .ok (.aload_n 1, 1) := by decide +kernel
theorem d_Sur_inBoth_10 : decode b_Sur_inBoth 10 = .ok (.getfield 13, 3) := by decide +kernel
theorem d_Sur_inBoth_13 : decode b_Sur_inBoth 13 = .ok (.iload_n 2, 1) := by decide +kernel
theorem d_Sur_inBoth_14 : decode b_Sur_inBoth 14 = .ok (.baload, 1) := by decide +kernel
theorem d_Sur_inBoth_15 : decode b_Sur_inBoth 15 = .ok (.ifCond .eq 7, 3) := by decide +kernel
theorem d_Sur_inBoth_18 : decode b_Sur_inBoth 18 = .ok (.iconst 1, 1) := by decide +kernel
theorem d_Sur_inBoth_19 : decode b_Sur_inBoth 19 = .ok (.goto 4, 3) := by decide +kernel
theorem d_Sur_inBoth_22 : decode b_Sur_inBoth 22 = .ok (.iconst 0, 1) := by decide +kernel
theorem d_Sur_inBoth_23 : decode b_Sur_inBoth 23 = .ok (.ireturn, 1) := by decide +kernel
theorem d_Sur_rise_0 : decode b_Sur_rise 0 = .ok (.aload_n 1, 1) := by decide +kernel
theorem d_Sur_rise_1 : decode b_Sur_rise 1 = .ok (.getfield 9, 3) := by decide +kernel
theorem d_Sur_rise_4 : decode b_Sur_rise 4 = .ok (.iload_n 2, 1) := by decide +kernel
theorem d_Sur_rise_5 : decode b_Sur_rise 5 = .ok (.iaload, 1) := by decide +kernel
theorem d_Sur_rise_6 : decode b_Sur_rise 6 = .ok (.i2l, 1) := by decide +kernel
theorem d_Sur_rise_7 : decode b_Sur_rise 7 = .ok (.aload_n 0, 1) := by decide +kernel
theorem d_Sur_rise_8 : decode b_Sur_rise 8 = .ok (.getfield 9, 3) := by decide +kernel
theorem d_Sur_rise_11 : decode b_Sur_rise 11 = .ok (.iload_n 2, 1) := by decide +kernel
theorem d_Sur_rise_12 : decode b_Sur_rise 12 = .ok (.iaload, 1) := by decide +kernel
theorem d_Sur_rise_13 : decode b_Sur_rise 13 = .ok (.i2l, 1) := by decide +kernel
theorem d_Sur_rise_14 : decode b_Sur_rise 14 = .ok (.lsub, 1) := by decide +kernel
theorem d_Sur_rise_15 : decode b_Sur_rise 15 = .ok (.lreturn, 1) := by decide +kernel
theorem d_Tol_init_0 : decode b_Tol_init 0 = .ok (.aload_n 0, 1) := by decide +kernel
theorem d_Tol_init_1 : decode b_Tol_init 1 = .ok (.invokespecial 1, 3) := by decide +kernel
theorem d_Tol_init_4 : decode b_Tol_init 4 = .ok (.aload_n 0, 1) := by decide +kernel
theorem d_Tol_init_5 : decode b_Tol_init 5 = .ok (.sipush 200, 3) := by decide +kernel
theorem d_Tol_init_8 : decode b_Tol_init 8 = .ok (.newarray .int, 2) := by decide +kernel
theorem d_Tol_init_10 : decode b_Tol_init 10 = .ok (.putfield 9, 3) := by decide +kernel
theorem d_Tol_init_13 : decode b_Tol_init 13 = .ok (.aload_n 0, 1) := by decide +kernel
theorem d_Tol_init_14 : decode b_Tol_init 14 = .ok (.sipush 200, 3) := by decide +kernel
theorem d_Tol_init_17 : decode b_Tol_init 17 = .ok (.newarray .int, 2) := by decide +kernel
theorem d_Tol_init_19 : decode b_Tol_init 19 = .ok (.putfield 13, 3) := by decide +kernel
theorem d_Tol_init_22 : decode b_Tol_init 22 = .ok (.aload_n 0, 1) := by decide +kernel
theorem d_Tol_init_23 : decode b_Tol_init 23 = .ok (.sipush 200, 3) := by decide +kernel
theorem d_Tol_init_26 : decode b_Tol_init 26 = .ok (.newarray .int, 2) := by decide +kernel
theorem d_Tol_init_28 : decode b_Tol_init 28 = .ok (.putfield 16, 3) := by decide +kernel
theorem d_Tol_init_31 : decode b_Tol_init 31 = .ok (.aload_n 0, 1) := by decide +kernel
theorem d_Tol_init_32 : decode b_Tol_init 32 = .ok (.sipush 200, 3) := by decide +kernel
theorem d_Tol_init_35 : decode b_Tol_init 35 = .ok (.newarray .long, 2) := by decide +kernel
theorem d_Tol_init_37 : decode b_Tol_init 37 = .ok (.putfield 19, 3) := by decide +kernel
theorem d_Tol_init_40 : decode b_Tol_init 40 = .ok (.aload_n 0, 1) := by decide +kernel
theorem d_Tol_init_41 : decode b_Tol_init 41 = .ok (.sipush 200, 3) := by decide +kernel
theorem d_Tol_init_44 : decode b_Tol_init 44 = .ok (.newarray .long, 2) := by decide +kernel
theorem d_Tol_init_46 : decode b_Tol_init 46 = .ok (.putfield 23, 3) := by decide +kernel
theorem d_Tol_init_49 : decode b_Tol_init 49 = .ok (.return_, 1) := by decide +kernel
theorem d_Tol_isFull_0 : decode b_Tol_isFull 0 = .ok (.aload_n 0, 1) := by decide +kernel
theorem d_Tol_isFull_1 : decode b_Tol_isFull 1 = .ok (.getfield 26, 3) := by decide +kernel
theorem d_Tol_isFull_4 : decode b_Tol_isFull 4 = .ok (.sipush 200, 3) := by decide +kernel
theorem d_Tol_isFull_7 : decode b_Tol_isFull 7 = .ok (.if_icmp .lt 7, 3) := by decide +kernel
theorem d_Tol_isFull_10 : decode b_Tol_isFull 10 = .ok (.iconst 1, 1) := by decide +kernel
theorem d_Tol_isFull_11 : decode b_Tol_isFull 11 = .ok (.goto 4, 3) := by decide +kernel
theorem d_Tol_isFull_14 : decode b_Tol_isFull 14 = .ok (.iconst 0, 1) := by decide +kernel
theorem d_Tol_isFull_15 : decode b_Tol_isFull 15 = .ok (.ireturn, 1) := by decide +kernel
theorem d_Tol_add_0 : decode b_Tol_add 0 = .ok (.aload_n 0, 1) := by decide +kernel
theorem d_Tol_add_1 : decode b_Tol_add 1 = .ok (.invokevirtual 30, 3) := by decide +kernel
theorem d_Tol_add_4 : decode b_Tol_add 4 = .ok (.ifCond .eq 4, 3) := by decide +kernel
theorem d_Tol_add_7 : decode b_Tol_add 7 = .ok (.return_, 1) := by decide +kernel
theorem d_Tol_add_8 : decode b_Tol_add 8 = .ok (.aload_n 0, 1) := by decide +kernel
theorem d_Tol_add_9 : decode b_Tol_add 9 = .ok (.getfield 9, 3) := by decide +kernel
theorem d_Tol_add_12 : decode b_Tol_add 12 = .ok (.aload_n 0, 1) := by decide +kernel
theorem d_Tol_add_13 : decode b_Tol_add 13 = .ok (.getfield 26, 3) := by decide +kernel
theorem d_Tol_add_16 : decode b_Tol_add 16 = .ok (.iload_n 1, 1) := by decide +kernel
theorem d_Tol_add_17 : decode b_Tol_add 17 = .ok (.iastore, 1) := by decide +kernel
theorem d_Tol_add_18 : decode b_Tol_add 18 = .ok (.aload_n 0, 1) := by decide +kernel
theorem d_Tol_add_19 : decode b_Tol_add 19 = .ok (.getfield 13, 3) := by decide +kernel
theorem d_Tol_add_22 : decode b_Tol_add 22 = .ok (.aload_n 0, 1) := by decide +kernel
theorem d_Tol_add_23 : decode b_Tol_add 23 = .ok (.getfield 26, 3) := by decide +kernel
theorem d_Tol_add_26 : decode b_Tol_add 26 = .ok (.iload_n 2, 1) := by decide +kernel
theorem d_Tol_add_27 : decode b_Tol_add 27 = .ok (.iastore, 1) := by decide +kernel
theorem d_Tol_add_28 : decode b_Tol_add 28 = .ok (.aload_n 0, 1) := by decide +kernel
theorem d_Tol_add_29 : decode b_Tol_add 29 = .ok (.getfield 16, 3) := by decide +kernel
theorem d_Tol_add_32 : decode b_Tol_add 32 = .ok (.aload_n 0, 1) := by decide +kernel
theorem d_Tol_add_33 : decode b_Tol_add 33 = .ok (.getfield 26, 3) := by decide +kernel
theorem d_Tol_add_36 : decode b_Tol_add 36 = .ok (.iload_n 3, 1) := by decide +kernel
theorem d_Tol_add_37 : decode b_Tol_add 37 = .ok (.iastore, 1) := by decide +kernel
theorem d_Tol_add_38 : decode b_Tol_add 38 = .ok (.aload_n 0, 1) := by decide +kernel
theorem d_Tol_add_39 : decode b_Tol_add 39 = .ok (.getfield 19, 3) := by decide +kernel
theorem d_Tol_add_42 : decode b_Tol_add 42 = .ok (.aload_n 0, 1) := by decide +kernel
theorem d_Tol_add_43 : decode b_Tol_add 43 = .ok (.getfield 26, 3) := by decide +kernel
theorem d_Tol_add_46 : decode b_Tol_add 46 = .ok (.lload 4, 2) := by decide +kernel
theorem d_Tol_add_48 : decode b_Tol_add 48 = .ok (.lastore, 1) := by decide +kernel
theorem d_Tol_add_49 : decode b_Tol_add 49 = .ok (.aload_n 0, 1) := by decide +kernel
theorem d_Tol_add_50 : decode b_Tol_add 50 = .ok (.getfield 23, 3) := by decide +kernel
theorem d_Tol_add_53 : decode b_Tol_add 53 = .ok (.aload_n 0, 1) := by decide +kernel
theorem d_Tol_add_54 : decode b_Tol_add 54 = .ok (.getfield 26, 3) := by decide +kernel
theorem d_Tol_add_57 : decode b_Tol_add 57 = .ok (.lload 6, 2) := by decide +kernel
theorem d_Tol_add_59 : decode b_Tol_add 59 = .ok (.lastore, 1) := by decide +kernel
theorem d_Tol_add_60 : decode b_Tol_add 60 = .ok (.aload_n 0, 1) := by decide +kernel
theorem d_Tol_add_61 : decode b_Tol_add 61 = .ok (.dup, 1) := by decide +kernel
theorem d_Tol_add_62 : decode b_Tol_add 62 = .ok (.getfield 26, 3) := by decide +kernel
theorem d_Tol_add_65 : decode b_Tol_add 65 = .ok (.iconst 1, 1) := by decide +kernel
theorem d_Tol_add_66 : decode b_Tol_add 66 = .ok (.iadd, 1) := by decide +kernel
theorem d_Tol_add_67 : decode b_Tol_add 67 = .ok (.putfield 26, 3) := by decide +kernel
theorem d_Tol_add_70 : decode b_Tol_add 70 = .ok (.return_, 1) := by decide +kernel
