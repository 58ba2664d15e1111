theorem dX0_init_0 : decode cX0_init 0 = .ok (.aload_n 0, 1) := by decide +kernel
theorem dX0_init_1 : decode cX0_init 1 = .ok (.invokespecial 3, 3) := by decide +kernel
theorem dX0_init_4 : decode cX0_init 4 = .ok (.aload_n 0, 1) := by decide +kernel
theorem dX0_init_5 : decode cX0_init 5 = .ok (.iconst (-1), 1) := by decide +kernel
theorem dX0_init_6 : decode cX0_init 6 = .ok (.putfield 9, 3) := by decide +kernel
theorem dX0_init_9 : decode cX0_init 9 = .ok (.aload_n 0, 1) := by decide +kernel
theorem dX0_init_10 : decode cX0_init 10 = .ok (.new 15, 3) := by decide +kernel
theorem dX0_init_13 : decode cX0_init 13 = .ok (.dup, 1) := by decide +kernel
theorem dX0_init_14 : decode cX0_init 14 = .ok (.invokespecial 17, 3) := by decide +kernel
theorem dX0_init_17 : decode cX0_init 17 = .ok (.putfield 18, 3) := by decide +kernel
theorem dX0_init_20 : decode cX0_init 20 = .ok (.aload_n 0, 1) := by decide +kernel
theorem dX0_init_21 : decode cX0_init 21 = .ok (.bipush 16, 2) := by decide +kernel
theorem dX0_init_23 : decode cX0_init 23 = .ok (.anewarray 15, 3) := by decide +kernel
theorem dX0_init_26 : decode cX0_init 26 = .ok (.putfield 22, 3) := by decide +kernel
theorem dX0_init_29 : decode cX0_init 29 = .ok (.aload_n 0, 1) := by decide +kernel
theorem dX0_init_30 : decode cX0_init 30 = .ok (.iconst 3, 1) := by decide +kernel
theorem dX0_init_31 : decode cX0_init 31 = .ok (.anewarray 15, 3) := by decide +kernel
theorem dX0_init_34 : decode cX0_init 34 = .ok (.putfield 26, 3) := by decide +kernel
theorem dX0_init_37 : decode cX0_init 37 = .ok (.iconst 0, 1) := by decide +kernel
theorem dX0_init_38 : decode cX0_init 38 = .ok (.istore_n 1, 1) := by decide +kernel
theorem dX0_init_39 : decode cX0_init 39 = .ok (.iload_n 1, 1) := by decide +kernel
theorem dX0_init_40 : decode cX0_init 40 = .ok (.aload_n 0, 1) := by decide +kernel
theorem dX0_init_41 : decode cX0_init 41 = .ok (.getfield 22, 3) := by decide +kernel
theorem dX0_init_44 : decode cX0_init 44 = .ok (.arraylength, 1) := by decide +kernel
theorem dX0_init_45 : decode cX0_init 45 = .ok (.if_icmp .ge 22, 3) := by decide +kernel
theorem dX0_init_48 : decode cX0_init 48 = .ok (.aload_n 0, 1) := by decide +kernel
theorem dX0_init_49 : decode cX0_init 49 = .ok (.getfield 22, 3) := by decide +kernel
theorem dX0_init_52 : decode cX0_init 52 = .ok (.iload_n 1, 1) := by decide +kernel
theorem dX0_init_53 : decode cX0_init 53 = .ok (.new 15, 3) := by decide +kernel
theorem dX0_init_56 : decode cX0_init 56 = .ok (.dup, 1) := by decide +kernel
theorem dX0_init_57 : decode cX0_init 57 = .ok (.invokespecial 17, 3) := by decide +kernel
theorem dX0_init_60 : decode cX0_init 60 = .ok (.aastore, 1) := by decide +kernel
theorem dX0_init_61 : decode cX0_init 61 = .ok (.iinc 1 1, 3) := by decide +kernel
theorem dX0_init_64 : decode cX0_init 64 = .ok (.goto (-25), 3) := by decide +kernel
theorem dX0_init_67 : decode cX0_init 67 = .ok (.iconst 0, 1) := by decide +kernel
theorem dX0_init_68 : decode cX0_init 68 = .ok (.istore_n 1, 1) := by decide +kernel
theorem dX0_init_69 : decode cX0_init 69 = .ok (.iload_n 1, 1) := by decide +kernel
theorem dX0_init_70 : decode cX0_init 70 = .ok (.aload_n 0, 1) := by decide +kernel
theorem dX0_init_71 : decode cX0_init 71 = .ok (.getfield 26, 3) := by decide +kernel
theorem dX0_init_74 : decode cX0_init 74 = .ok (.arraylength, 1) := by decide +kernel
theorem dX0_init_75 : decode cX0_init 75 = .ok (.if_icmp .ge 22, 3) := by decide +kernel
theorem dX0_init_78 : decode cX0_init 78 = .ok (.aload_n 0, 1) := by decide +kernel
theorem dX0_init_79 : decode cX0_init 79 = .ok (.getfield 26, 3) := by decide +kernel
theorem dX0_init_82 : decode cX0_init 82 = .ok (.iload_n 1, 1) := by decide +kernel
theorem dX0_init_83 : decode cX0_init 83 = .ok (.new 15, 3) := by decide +kernel
theorem dX0_init_86 : decode cX0_init 86 = .ok (.dup, 1) := by decide +kernel
theorem dX0_init_87 : decode cX0_init 87 = .ok (.invokespecial 17, 3) := by decide +kernel
theorem dX0_init_90 : decode cX0_init 90 = .ok (.aastore, 1) := by decide +kernel
theorem dX0_init_91 : decode cX0_init 91 = .ok (.iinc 1 1, 3) := by decide +kernel
theorem dX0_init_94 : decode cX0_init 94 = .ok (.goto (-25), 3) := by decide +kernel
theorem dX0_init_97 : decode cX0_init 97 = .ok (.return_, 1) := by decide +kernel
theorem dX0_isOn_0 : decode cX0_isOn 0 = .ok (.aload_n 0, 1) := by decide +kernel
theorem dX0_isOn_1 : decode cX0_isOn 1 = .ok (.getfield 9, 3) := by decide +kernel
theorem dX0_isOn_4 : decode cX0_isOn 4 = .ok (.iconst (-1), 1) := by decide +kernel
theorem dX0_isOn_5 : decode cX0_isOn 5 = .ok (.if_icmp .eq 7, 3) := by decide +kernel
theorem dX0_isOn_8 : decode cX0_isOn 8 = .ok (.iconst 1, 1) := by decide +kernel
theorem dX0_isOn_9 : decode cX0_isOn 9 = .ok (.goto 4, 3) := by decide +kernel
theorem dX0_isOn_12 : decode cX0_isOn 12 = .ok (.iconst 0, 1) := by decide +kernel
theorem dX0_isOn_13 : decode cX0_isOn 13 = .ok (.ireturn, 1) := by decide +kernel
theorem dX0_end_0 : decode cX0_end 0 = .ok (.aload_n 0, 1) := by decide +kernel
theorem dX0_end_1 : decode cX0_end 1 = .ok (.iconst (-1), 1) := by decide +kernel
theorem dX0_end_2 : decode cX0_end 2 = .ok (.putfield 9, 3) := by decide +kernel
theorem dX0_end_5 : decode cX0_end 5 = .ok (.aload_n 0, 1) := by decide +kernel
theorem dX0_end_6 : decode cX0_end 6 = .ok (.iconst 0, 1) := by decide +kernel
theorem dX0_end_7 : decode cX0_end 7 = .ok (.putfield 29, 3) := by decide +kernel
theorem dX0_end_10 : decode cX0_end 10 = .ok (.aload_n 0, 1) := by decide +kernel
theorem dX0_end_11 : decode cX0_end 11 = .ok (.iconst 0, 1) := by decide +kernel
theorem dX0_end_12 : decode cX0_end 12 = .ok (.putfield 32, 3) := by decide +kernel
theorem dX0_end_15 : decode cX0_end 15 = .ok (.return_, 1) := by decide +kernel
theorem dX0_begin_0 : decode cX0_begin 0 = .ok (.aload_n 0, 1) := by decide +kernel
theorem dX0_begin_1 : decode cX0_begin 1 = .ok (.invokevirtual 35, 3) := by decide +kernel
theorem dX0_begin_4 : decode cX0_begin 4 = .ok (.aload_n 0, 1) := by decide +kernel
theorem dX0_begin_5 : decode cX0_begin 5 = .ok (.iload_n 1, 1) := by decide +kernel
theorem dX0_begin_6 : decode cX0_begin 6 = .ok (.putfield 9, 3) := by decide +kernel
theorem dX0_begin_9 : decode cX0_begin 9 = .ok (.aload_n 0, 1) := by decide +kernel
theorem dX0_begin_10 : decode cX0_begin 10 = .ok (.getfield 18, 3) := by decide +kernel
theorem dX0_begin_13 : decode cX0_begin 13 = .ok (.iload_n 2, 1) := by decide +kernel
theorem dX0_begin_14 : decode cX0_begin 14 = .ok (.putfield 38, 3) := by decide +kernel
theorem dX0_begin_17 : decode cX0_begin 17 = .ok (.aload_n 0, 1) := by decide +kernel
theorem dX0_begin_18 : decode cX0_begin 18 = .ok (.getfield 18, 3) := by decide +kernel
theorem dX0_begin_21 : decode cX0_begin 21 = .ok (.iload_n 3, 1) := by decide +kernel
theorem dX0_begin_22 : decode cX0_begin 22 = .ok (.putfield 41, 3) := by decide +kernel
theorem dX0_begin_25 : decode cX0_begin 25 = .ok (.iconst 0, 1) := by decide +kernel
theorem dX0_begin_26 : decode cX0_begin 26 = .ok (.istore 4, 2) := by decide +kernel
theorem dX0_begin_28 : decode cX0_begin 28 = .ok (.iload 4, 2) := by decide +kernel
theorem dX0_begin_30 : decode cX0_begin 30 = .ok (.iconst 5, 1) := by decide +kernel
theorem dX0_begin_31 : decode cX0_begin 31 = .ok (.if_icmp .ge 20, 3) := by decide +kernel
theorem dX0_begin_34 : decode cX0_begin 34 = .ok (.aload_n 0, 1) := by decide +kernel
theorem dX0_begin_35 : decode cX0_begin 35 = .ok (.getfield 18, 3) := by decide +kernel
theorem dX0_begin_38 : decode cX0_begin 38 = .ok (.getfield 44, 3) := by decide +kernel
theorem dX0_begin_41 : decode cX0_begin 41 = .ok (.iload 4, 2) := by decide +kernel
theorem dX0_begin_43 : decode cX0_begin 43 = .ok (.lconst 0, 1) := by decide +kernel
theorem dX0_begin_44 : decode cX0_begin 44 = .ok (.lastore, 1) := by decide +kernel
theorem dX0_begin_45 : decode cX0_begin 45 = .ok (.iinc 4 1, 3) := by decide +kernel
theorem dX0_begin_48 : decode cX0_begin 48 = .ok (.goto (-20), 3) := by decide +kernel
theorem dX0_begin_51 : decode cX0_begin 51 = .ok (.return_, 1) := by decide +kernel
theorem dX0_draw_0 : decode cX0_draw 0 = .ok (.iload_n 2, 1) := by decide +kernel
theorem dX0_draw_1 : decode cX0_draw 1 = .ok (.istore_n 3, 1) := by decide +kernel
theorem dX0_draw_2 : decode cX0_draw 2 = .ok (.aload_n 0, 1) := by decide +kernel
theorem dX0_draw_3 : decode cX0_draw 3 = .ok (.iconst 0, 1) := by decide +kernel
theorem dX0_draw_4 : decode cX0_draw 4 = .ok (.putfield 48, 3) := by decide +kernel
theorem dX0_draw_7 : decode cX0_draw 7 = .ok (.iconst 0, 1) := by decide +kernel
theorem dX0_draw_8 : decode cX0_draw 8 = .ok (.istore 4, 2) := by decide +kernel
theorem dX0_draw_10 : decode cX0_draw 10 = .ok (.iload 4, 2) := by decide +kernel
theorem dX0_draw_12 : decode cX0_draw 12 = .ok (.aload_n 1, 1) := by decide +kernel
theorem dX0_draw_13 : decode cX0_draw 13 = .ok (.getfield 51, 3) := by decide +kernel
theorem dX0_draw_16 : decode cX0_draw 16 = .ok (.if_icmp .ge 50, 3) := by decide +kernel
theorem dX0_draw_19 : decode cX0_draw 19 = .ok (.bipush 75, 2) := by decide +kernel
theorem dX0_draw_21 : decode cX0_draw 21 = .ok (.iload_n 3, 1) := by decide +kernel
theorem dX0_draw_22 : decode cX0_draw 22 = .ok (.imul, 1) := by decide +kernel
theorem dX0_draw_23 : decode cX0_draw 23 = .ok (.bipush 74, 2) := by decide +kernel
theorem dX0_draw_25 : decode cX0_draw 25 = .ok (.iadd, 1) := by decide +kernel
theorem dX0_draw_26 : decode cX0_draw 26 = .ok (.ldc 56, 2) := by decide +kernel
theorem dX0_draw_28 : decode cX0_draw 28 = .ok (.irem, 1) := by decide +kernel
theorem dX0_draw_29 : decode cX0_draw 29 = .ok (.istore_n 3, 1) := by decide +kernel
theorem dX0_draw_30 : decode cX0_draw 30 = .ok (.iload_n 3, 1) := by decide +kernel
theorem dX0_draw_31 : decode cX0_draw 31 = .ok (.bipush 100, 2) := by decide +kernel
theorem dX0_draw_33 : decode cX0_draw 33 = .ok (.irem, 1) := by decide +kernel
theorem dX0_draw_34 : decode cX0_draw 34 = .ok (.aload_n 1, 1) := by decide +kernel
theorem dX0_draw_35 : decode cX0_draw 35 = .ok (.getfield 57, 3) := by decide +kernel
theorem dX0_draw_38 : decode cX0_draw 38 = .ok (.iload 4, 2) := by decide +kernel
theorem dX0_draw_40 : decode cX0_draw 40 = .ok (.aaload, 1) := by decide +kernel
theorem dX0_draw_41 : decode cX0_draw 41 = .ok (.getfield 61, 3) := by decide +kernel
theorem dX0_draw_44 : decode cX0_draw 44 = .ok (.if_icmp .ge 16, 3) := by decide +kernel
theorem dX0_draw_47 : decode cX0_draw 47 = .ok (.aload_n 0, 1) := by decide +kernel
theorem dX0_draw_48 : decode cX0_draw 48 = .ok (.dup, 1) := by decide +kernel
theorem dX0_draw_49 : decode cX0_draw 49 = .ok (.getfield 48, 3) := by decide +kernel
theorem dX0_draw_52 : decode cX0_draw 52 = .ok (.iconst 1, 1) := by decide +kernel
theorem dX0_draw_53 : decode cX0_draw 53 = .ok (.iload 4, 2) := by decide +kernel
theorem dX0_draw_55 : decode cX0_draw 55 = .ok (.ishl, 1) := by decide +kernel
theorem dX0_draw_56 : decode cX0_draw 56 = .ok (.ior, 1) := by decide +kernel
theorem dX0_draw_57 : decode cX0_draw 57 = .ok (.putfield 48, 3) := by decide +kernel
theorem dX0_draw_60 : decode cX0_draw 60 = .ok (.iinc 4 1, 3) := by decide +kernel
theorem dX0_draw_63 : decode cX0_draw 63 = .ok (.goto (-53), 3) := by decide +kernel
theorem dX0_draw_66 : decode cX0_draw 66 = .ok (.return_, 1) := by decide +kernel
theorem dX0_rainsIn_0 : decode cX0_rainsIn 0 = .ok (.iload_n 1, 1) := by decide +kernel
theorem dX0_rainsIn_1 : decode cX0_rainsIn 1 = .ok (.ifCond .lt 25, 3) := by decide +kernel
theorem dX0_rainsIn_4 : decode cX0_rainsIn 4 = .ok (.iload_n 1, 1) := by decide +kernel
theorem dX0_rainsIn_5 : decode cX0_rainsIn 5 = .ok (.bipush 6, 2) := by decide +kernel
theorem dX0_rainsIn_7 : decode cX0_rainsIn 7 = .ok (.if_icmp .ge 19, 3) := by decide +kernel
theorem dX0_rainsIn_10 : decode cX0_rainsIn 10 = .ok (.aload_n 0, 1) := by decide +kernel
theorem dX0_rainsIn_11 : decode cX0_rainsIn 11 = .ok (.getfield 48, 3) := by decide +kernel
theorem dX0_rainsIn_14 : decode cX0_rainsIn 14 = .ok (.iload_n 1, 1) := by decide +kernel
theorem dX0_rainsIn_15 : decode cX0_rainsIn 15 = .ok (.ishr, 1) := by decide +kernel
theorem dX0_rainsIn_16 : decode cX0_rainsIn 16 = .ok (.iconst 1, 1) := by decide +kernel
theorem dX0_rainsIn_17 : decode cX0_rainsIn 17 = .ok (.iand, 1) := by decide +kernel
theorem dX0_rainsIn_18 : decode cX0_rainsIn 18 = .ok (.iconst 1, 1) := by decide +kernel
theorem dX0_rainsIn_19 : decode cX0_rainsIn 19 = .ok (.if_icmp .ne 7, 3) := by decide +kernel
theorem dX0_rainsIn_22 : decode cX0_rainsIn 22 = .ok (.iconst 1, 1) := by decide +kernel
theorem dX0_rainsIn_23 : decode cX0_rainsIn 23 = .ok (.goto 4, 3) := by decide +kernel
theorem dX0_rainsIn_26 : decode cX0_rainsIn 26 = .ok (.iconst 0, 1) := by decide +kernel
theorem dX0_rainsIn_27 : decode cX0_rainsIn 27 = .ok (.ireturn, 1) := by decide +kernel
theorem dX0_keepForUndo_0 : decode cX0_keepForUndo 0 = .ok (.aload_n 0, 1) := by decide +kernel
theorem dX0_keepForUndo_1 : decode cX0_keepForUndo 1 = .ok (.getfield 29, 3) := by decide +kernel
theorem dX0_keepForUndo_4 : decode cX0_keepForUndo 4 = .ok (.bipush 16, 2) := by decide +kernel
theorem dX0_keepForUndo_6 : decode cX0_keepForUndo 6 = .ok (.if_icmp .lt 52, 3) := by decide +kernel
theorem dX0_keepForUndo_9 : decode cX0_keepForUndo 9 = .ok (.aload_n 0, 1) := by decide +kernel
theorem dX0_keepForUndo_10 : decode cX0_keepForUndo 10 = .ok (.getfield 22, 3) := by decide +kernel
theorem dX0_keepForUndo_13 : decode cX0_keepForUndo 13 = .ok (.iconst 0, 1) := by decide +kernel
theorem dX0_keepForUndo_14 : decode cX0_keepForUndo 14 = .ok (.aaload, 1) := by decide +kernel
theorem dX0_keepForUndo_15 : decode cX0_keepForUndo 15 = .ok (.astore_n 1, 1) := by decide +kernel
theorem dX0_keepForUndo_16 : decode cX0_keepForUndo 16 = .ok (.iconst 1, 1) := by decide +kernel
theorem dX0_keepForUndo_17 : decode cX0_keepForUndo 17 = .ok (.istore_n 2, 1) := by decide +kernel
theorem dX0_keepForUndo_18 : decode cX0_keepForUndo 18 = .ok (.iload_n 2, 1) := by decide +kernel
theorem dX0_keepForUndo_19 : decode cX0_keepForUndo 19 = .ok (.bipush 16, 2) := by decide +kernel
theorem dX0_keepForUndo_21 : decode cX0_keepForUndo 21 = .ok (.if_icmp .ge 23, 3) := by decide +kernel
theorem dX0_keepForUndo_24 : decode cX0_keepForUndo 24 = .ok (.aload_n 0, 1) := by decide +kernel
theorem dX0_keepForUndo_25 : decode cX0_keepForUndo 25 = .ok (.getfield 22, 3) := by decide +kernel
theorem dX0_keepForUndo_28 : decode cX0_keepForUndo 28 = .ok (.iload_n 2, 1) := by decide +kernel
theorem dX0_keepForUndo_29 : decode cX0_keepForUndo 29 = .ok (.iconst 1, 1) := by decide +kernel
theorem dX0_keepForUndo_30 : decode cX0_keepForUndo 30 = .ok (.isub, 1) := by decide +kernel
theorem dX0_keepForUndo_31 : decode cX0_keepForUndo 31 = .ok (.aload_n 0, 1) := by decide +kernel
theorem dX0_keepForUndo_32 : decode cX0_keepForUndo 32 = .ok (.getfield 22, 3) := by decide +kernel
theorem dX0_keepForUndo_35 : decode cX0_keepForUndo 35 = .ok (.iload_n 2, 1) := by decide +kernel
theorem dX0_keepForUndo_36 : decode cX0_keepForUndo 36 = .ok (.aaload, 1) := by decide +kernel
theorem dX0_keepForUndo_37 : decode cX0_keepForUndo 37 = .ok (.aastore, 1) := by decide +kernel
theorem dX0_keepForUndo_38 : decode cX0_keepForUndo 38 = .ok (.iinc 2 1, 3) := by decide +kernel
theorem dX0_keepForUndo_41 : decode cX0_keepForUndo 41 = .ok (.goto (-23), 3) := by decide +kernel
theorem dX0_keepForUndo_44 : decode cX0_keepForUndo 44 = .ok (.aload_n 0, 1) := by decide +kernel
theorem dX0_keepForUndo_45 : decode cX0_keepForUndo 45 = .ok (.getfield 22, 3) := by decide +kernel
theorem dX0_keepForUndo_48 : decode cX0_keepForUndo 48 = .ok (.bipush 15, 2) := by decide +kernel
theorem dX0_keepForUndo_50 : decode cX0_keepForUndo 50 = .ok (.aload_n 1, 1) := by decide +kernel
theorem dX0_keepForUndo_51 : decode cX0_keepForUndo 51 = .ok (.aastore, 1) := by decide +kernel
theorem dX0_keepForUndo_52 : decode cX0_keepForUndo 52 = .ok (.aload_n 0, 1) := by decide +kernel
theorem dX0_keepForUndo_53 : decode cX0_keepForUndo 53 = .ok (.bipush 15, 2) := by decide +kernel
theorem dX0_keepForUndo_55 : decode cX0_keepForUndo 55 = .ok (.putfield 29, 3) := by decide +kernel
theorem dX0_keepForUndo_58 : decode cX0_keepForUndo 58 = .ok (.aload_n 0, 1) := by decide +kernel
theorem dX0_keepForUndo_59 : decode cX0_keepForUndo 59 = .ok (.getfield 22, 3) := by decide +kernel
theorem dX0_keepForUndo_62 : decode cX0_keepForUndo 62 = .ok (.aload_n 0, 1) := by decide +kernel
theorem dX0_keepForUndo_63 : decode cX0_keepForUndo 63 = .ok (.getfield 29, 3) := by decide +kernel
theorem dX0_keepForUndo_66 : decode cX0_keepForUndo 66 = .ok (.aaload, 1) := by decide +kernel
theorem dX0_keepForUndo_67 : decode cX0_keepForUndo 67 = .ok (.aload_n 0, 1) := by decide +kernel
theorem dX0_keepForUndo_68 : decode cX0_keepForUndo 68 = .ok (.getfield 18, 3) := by decide +kernel
theorem dX0_keepForUndo_71 : decode cX0_keepForUndo 71 = .ok (.invokevirtual 66, 3) := by decide +kernel
theorem dX0_keepForUndo_74 : decode cX0_keepForUndo 74 = .ok (.aload_n 0, 1) := by decide +kernel
theorem dX0_keepForUndo_75 : decode cX0_keepForUndo 75 = .ok (.dup, 1) := by decide +kernel
theorem dX0_keepForUndo_76 : decode cX0_keepForUndo 76 = .ok (.getfield 29, 3) := by decide +kernel
theorem dX0_keepForUndo_79 : decode cX0_keepForUndo 79 = .ok (.iconst 1, 1) := by decide +kernel
theorem dX0_keepForUndo_80 : decode cX0_keepForUndo 80 = .ok (.iadd, 1) := by decide +kernel
theorem dX0_keepForUndo_81 : decode cX0_keepForUndo 81 = .ok (.putfield 29, 3) := by decide +kernel
theorem dX0_keepForUndo_84 : decode cX0_keepForUndo 84 = .ok (.return_, 1) := by decide +kernel
theorem dX0_takeBack_0 : decode cX0_takeBack 0 = .ok (.aload_n 0, 1) := by decide +kernel
theorem dX0_takeBack_1 : decode cX0_takeBack 1 = .ok (.getfield 29, 3) := by decide +kernel
theorem dX0_takeBack_4 : decode cX0_takeBack 4 = .ok (.ifCond .gt 5, 3) := by decide +kernel
theorem dX0_takeBack_7 : decode cX0_takeBack 7 = .ok (.iconst 0, 1) := by decide +kernel
theorem dX0_takeBack_8 : decode cX0_takeBack 8 = .ok (.ireturn, 1) := by decide +kernel
theorem dX0_takeBack_9 : decode cX0_takeBack 9 = .ok (.aload_n 0, 1) := by decide +kernel
theorem dX0_takeBack_10 : decode cX0_takeBack 10 = .ok (.dup, 1) := by decide +kernel
theorem dX0_takeBack_11 : decode cX0_takeBack 11 = .ok (.getfield 29, 3) := by decide +kernel
theorem dX0_takeBack_14 : decode cX0_takeBack 14 = .ok (.iconst 1, 1) := by decide +kernel
theorem dX0_takeBack_15 : decode cX0_takeBack 15 = .ok (.isub, 1) := by decide +kernel
theorem dX0_takeBack_16 : decode cX0_takeBack 16 = .ok (.putfield 29, 3) := by decide +kernel
theorem dX0_takeBack_19 : decode cX0_takeBack 19 = .ok (.aload_n 0, 1) := by decide +kernel
theorem dX0_takeBack_20 : decode cX0_takeBack 20 = .ok (.getfield 18, 3) := by decide +kernel
theorem dX0_takeBack_23 : decode cX0_takeBack 23 = .ok (.aload_n 0, 1) := by decide +kernel
theorem dX0_takeBack_24 : decode cX0_takeBack 24 = .ok (.getfield 22, 3) := by decide +kernel
theorem dX0_takeBack_27 : decode cX0_takeBack 27 = .ok (.aload_n 0, 1) := by decide +kernel
theorem dX0_takeBack_28 : decode cX0_takeBack 28 = .ok (.getfield 29, 3) := by decide +kernel
theorem dX0_takeBack_31 : decode cX0_takeBack 31 = .ok (.aaload, 1) := by decide +kernel
theorem dX0_takeBack_32 : decode cX0_takeBack 32 = .ok (.invokevirtual 66, 3) := by decide +kernel
theorem dX0_takeBack_35 : decode cX0_takeBack 35 = .ok (.iconst 1, 1) := by decide +kernel
theorem dX0_takeBack_36 : decode cX0_takeBack 36 = .ok (.ireturn, 1) := by decide +kernel
theorem dX0_setMark_0 : decode cX0_setMark 0 = .ok (.aload_n 0, 1) := by decide +kernel
theorem dX0_setMark_1 : decode cX0_setMark 1 = .ok (.getfield 32, 3) := by decide +kernel
theorem dX0_setMark_4 : decode cX0_setMark 4 = .ok (.iconst 3, 1) := by decide +kernel
theorem dX0_setMark_5 : decode cX0_setMark 5 = .ok (.if_icmp .lt 5, 3) := by decide +kernel
theorem dX0_setMark_8 : decode cX0_setMark 8 = .ok (.iconst (-1), 1) := by decide +kernel
theorem dX0_setMark_9 : decode cX0_setMark 9 = .ok (.ireturn, 1) := by decide +kernel
theorem dX0_setMark_10 : decode cX0_setMark 10 = .ok (.aload_n 0, 1) := by decide +kernel
theorem dX0_setMark_11 : decode cX0_setMark 11 = .ok (.getfield 26, 3) := by decide +kernel
theorem dX0_setMark_14 : decode cX0_setMark 14 = .ok (.aload_n 0, 1) := by decide +kernel
theorem dX0_setMark_15 : decode cX0_setMark 15 = .ok (.getfield 32, 3) := by decide +kernel
theorem dX0_setMark_18 : decode cX0_setMark 18 = .ok (.aaload, 1) := by decide +kernel
theorem dX0_setMark_19 : decode cX0_setMark 19 = .ok (.aload_n 0, 1) := by decide +kernel
theorem dX0_setMark_20 : decode cX0_setMark 20 = .ok (.getfield 18, 3) := by decide +kernel
theorem dX0_setMark_23 : decode cX0_setMark 23 = .ok (.invokevirtual 66, 3) := by decide +kernel
theorem dX0_setMark_26 : decode cX0_setMark 26 = .ok (.aload_n 0, 1) := by decide +kernel
theorem dX0_setMark_27 : decode cX0_setMark 27 = .ok (.dup, 1) := by decide +kernel
theorem dX0_setMark_28 : decode cX0_setMark 28 = .ok (.getfield 32, 3) := by decide +kernel
theorem dX0_setMark_31 : decode cX0_setMark 31 = .ok (.iconst 1, 1) := by decide +kernel
theorem dX0_setMark_32 : decode cX0_setMark 32 = .ok (.iadd, 1) := by decide +kernel
theorem dX0_setMark_33 : decode cX0_setMark 33 = .ok (.putfield 32, 3) := by decide +kernel
theorem dX0_setMark_36 : decode cX0_setMark 36 = .ok (.aload_n 0, 1) := by decide +kernel
theorem dX0_setMark_37 : decode cX0_setMark 37 = .ok (.getfield 32, 3) := by decide +kernel
theorem dX0_setMark_40 : decode cX0_setMark 40 = .ok (.iconst 1, 1) := by decide +kernel
theorem dX0_setMark_41 : decode cX0_setMark 41 = .ok (.isub, 1) := by decide +kernel
theorem dX0_setMark_42 : decode cX0_setMark 42 = .ok (.ireturn, 1) := by decide +kernel
theorem dX0_returnTo_0 : decode cX0_returnTo 0 = .ok (.iload_n 1, 1) := by decide +kernel
theorem dX0_returnTo_1 : decode cX0_returnTo 1 = .ok (.ifCond .lt 11, 3) := by decide +kernel
theorem dX0_returnTo_4 : decode cX0_returnTo 4 = .ok (.iload_n 1, 1) := by decide +kernel
theorem dX0_returnTo_5 : decode cX0_returnTo 5 = .ok (.aload_n 0, 1) := by decide +kernel
theorem dX0_returnTo_6 : decode cX0_returnTo 6 = .ok (.getfield 32, 3) := by decide +kernel
theorem dX0_returnTo_9 : decode cX0_returnTo 9 = .ok (.if_icmp .lt 5, 3) := by decide +kernel
theorem dX0_returnTo_12 : decode cX0_returnTo 12 = .ok (.iconst 0, 1) := by decide +kernel
theorem dX0_returnTo_13 : decode cX0_returnTo 13 = .ok (.ireturn, 1) := by decide +kernel
theorem dX0_returnTo_14 : decode cX0_returnTo 14 = .ok (.aload_n 0, 1) := by decide +kernel
theorem dX0_returnTo_15 : decode cX0_returnTo 15 = .ok (.getfield 18, 3) := by decide +kernel
theorem dX0_returnTo_18 : decode cX0_returnTo 18 = .ok (.aload_n 0, 1) := by decide +kernel
theorem dX0_returnTo_19 : decode cX0_returnTo 19 = .ok (.getfield 26, 3) := by decide +kernel
theorem dX0_returnTo_22 : decode cX0_returnTo 22 = .ok (.iload_n 1, 1) := by decide +kernel
theorem dX0_returnTo_23 : decode cX0_returnTo 23 = .ok (.aaload, 1) := by decide +kernel
theorem dX0_returnTo_24 : decode cX0_returnTo 24 = .ok (.invokevirtual 66, 3) := by decide +kernel
theorem dX0_returnTo_27 : decode cX0_returnTo 27 = .ok (.aload_n 0, 1) := by decide +kernel
theorem dX0_returnTo_28 : decode cX0_returnTo 28 = .ok (.iconst 0, 1) := by decide +kernel
theorem dX0_returnTo_29 : decode cX0_returnTo 29 = .ok (.putfield 29, 3) := by decide +kernel
theorem dX0_returnTo_32 : decode cX0_returnTo 32 = .ok (.iconst 1, 1) := by decide +kernel
theorem dX0_returnTo_33 : decode cX0_returnTo 33 = .ok (.ireturn, 1) := by decide +kernel
theorem dX1_init_0 : decode cX1_init 0 = .ok (.aload_n 0, 1) := by decide +kernel
theorem dX1_init_1 : decode cX1_init 1 = .ok (.invokespecial 3, 3) := by decide +kernel
theorem dX1_init_4 : decode cX1_init 4 = .ok (.aload_n 0, 1) := by decide +kernel
theorem dX1_init_5 : decode cX1_init 5 = .ok (.iconst 5, 1) := by decide +kernel
theorem dX1_init_6 : decode cX1_init 6 = .ok (.newarray .long, 2) := by decide +kernel
theorem dX1_init_8 : decode cX1_init 8 = .ok (.putfield 9, 3) := by decide +kernel
theorem dX1_init_11 : decode cX1_init 11 = .ok (.aload_n 0, 1) := by decide +kernel
theorem dX1_init_12 : decode cX1_init 12 = .ok (.iconst 5, 1) := by decide +kernel
theorem dX1_init_13 : decode cX1_init 13 = .ok (.newarray .long, 2) := by decide +kernel
theorem dX1_init_15 : decode cX1_init 15 = .ok (.putfield 15, 3) := by decide +kernel
theorem dX1_init_18 : decode cX1_init 18 = .ok (.return_, 1) := by decide +kernel
theorem dX1_lay_0 : decode cX1_lay 0 = .ok (.iload 4, 2) := by decide +kernel
theorem dX1_lay_2 : decode cX1_lay 2 = .ok (.ifCond .le 24, 3) := by decide +kernel
theorem dX1_lay_5 : decode cX1_lay 5 = .ok (.aload_n 1, 1) := by decide +kernel
theorem dX1_lay_6 : decode cX1_lay 6 = .ok (.getfield 18, 3) := by decide +kernel
theorem dX1_lay_9 : decode cX1_lay 9 = .ok (.aload_n 1, 1) := by decide +kernel
theorem dX1_lay_10 : decode cX1_lay 10 = .ok (.getfield 24, 3) := by decide +kernel
theorem dX1_lay_13 : decode cX1_lay 13 = .ok (.isub, 1) := by decide +kernel
theorem dX1_lay_14 : decode cX1_lay 14 = .ok (.i2l, 1) := by decide +kernel
theorem dX1_lay_15 : decode cX1_lay 15 = .ok (.sipush 2520, 3) := by decide +kernel
theorem dX1_lay_18 : decode cX1_lay 18 = .ok (.iload 4, 2) := by decide +kernel
theorem dX1_lay_20 : decode cX1_lay 20 = .ok (.idiv, 1) := by decide +kernel
theorem dX1_lay_21 : decode cX1_lay 21 = .ok (.i2l, 1) := by decide +kernel
theorem dX1_lay_22 : decode cX1_lay 22 = .ok (.lmul, 1) := by decide +kernel
theorem dX1_lay_23 : decode cX1_lay 23 = .ok (.goto 4, 3) := by decide +kernel
theorem dX1_lay_26 : decode cX1_lay 26 = .ok (.lconst 0, 1) := by decide +kernel
theorem dX1_lay_27 : decode cX1_lay 27 = .ok (.lstore 5, 2) := by decide +kernel
theorem dX1_lay_29 : decode cX1_lay 29 = .ok (.aload_n 3, 1) := by decide +kernel
theorem dX1_lay_30 : decode cX1_lay 30 = .ok (.getfield 27, 3) := by decide +kernel
theorem dX1_lay_33 : decode cX1_lay 33 = .ok (.i2l, 1) := by decide +kernel
theorem dX1_lay_34 : decode cX1_lay 34 = .ok (.lload 5, 2) := by decide +kernel
theorem dX1_lay_36 : decode cX1_lay 36 = .ok (.lmul, 1) := by decide +kernel
theorem dX1_lay_37 : decode cX1_lay 37 = .ok (.lstore 7, 2) := by decide +kernel
theorem dX1_lay_39 : decode cX1_lay 39 = .ok (.aload_n 1, 1) := by decide +kernel
theorem dX1_lay_40 : decode cX1_lay 40 = .ok (.iload_n 2, 1) := by decide +kernel
theorem dX1_lay_41 : decode cX1_lay 41 = .ok (.aload_n 3, 1) := by decide +kernel
theorem dX1_lay_42 : decode cX1_lay 42 = .ok (.invokevirtual 32, 3) := by decide +kernel
theorem dX1_lay_45 : decode cX1_lay 45 = .ok (.istore 9, 2) := by decide +kernel
theorem dX1_lay_47 : decode cX1_lay 47 = .ok (.aload_n 1, 1) := by decide +kernel
theorem dX1_lay_48 : decode cX1_lay 48 = .ok (.iload_n 2, 1) := by decide +kernel
theorem dX1_lay_49 : decode cX1_lay 49 = .ok (.aload_n 3, 1) := by decide +kernel
theorem dX1_lay_50 : decode cX1_lay 50 = .ok (.invokevirtual 36, 3) := by decide +kernel
theorem dX1_lay_53 : decode cX1_lay 53 = .ok (.istore 10, 2) := by decide +kernel
theorem dX1_lay_55 : decode cX1_lay 55 = .ok (.aload_n 0, 1) := by decide +kernel
theorem dX1_lay_56 : decode cX1_lay 56 = .ok (.getfield 15, 3) := by decide +kernel
theorem dX1_lay_59 : decode cX1_lay 59 = .ok (.iconst 0, 1) := by decide +kernel
theorem dX1_lay_60 : decode cX1_lay 60 = .ok (.lload 7, 2) := by decide +kernel
theorem dX1_lay_62 : decode cX1_lay 62 = .ok (.aload_n 3, 1) := by decide +kernel
theorem dX1_lay_63 : decode cX1_lay 63 = .ok (.getfield 39, 3) := by decide +kernel
theorem dX1_lay_66 : decode cX1_lay 66 = .ok (.i2l, 1) := by decide +kernel
theorem dX1_lay_67 : decode cX1_lay 67 = .ok (.lmul, 1) := by decide +kernel
theorem dX1_lay_68 : decode cX1_lay 68 = .ok (.lastore, 1) := by decide +kernel
theorem dX1_lay_69 : decode cX1_lay 69 = .ok (.aload_n 0, 1) := by decide +kernel
theorem dX1_lay_70 : decode cX1_lay 70 = .ok (.getfield 15, 3) := by decide +kernel
theorem dX1_lay_73 : decode cX1_lay 73 = .ok (.iconst 1, 1) := by decide +kernel
theorem dX1_lay_74 : decode cX1_lay 74 = .ok (.lload 7, 2) := by decide +kernel
theorem dX1_lay_76 : decode cX1_lay 76 = .ok (.iload 4, 2) := by decide +kernel
theorem dX1_lay_78 : decode cX1_lay 78 = .ok (.iload 10, 2) := by decide +kernel
theorem dX1_lay_80 : decode cX1_lay 80 = .ok (.isub, 1) := by decide +kernel
theorem dX1_lay_81 : decode cX1_lay 81 = .ok (.iconst 0, 1) := by decide +kernel
theorem dX1_lay_82 : decode cX1_lay 82 = .ok (.invokestatic 42, 3) := by decide +kernel
theorem dX1_lay_85 : decode cX1_lay 85 = .ok (.i2l, 1) := by decide +kernel
theorem dX1_lay_86 : decode cX1_lay 86 = .ok (.lmul, 1) := by decide +kernel
theorem dX1_lay_87 : decode cX1_lay 87 = .ok (.lastore, 1) := by decide +kernel
theorem dX1_lay_88 : decode cX1_lay 88 = .ok (.aload_n 0, 1) := by decide +kernel
theorem dX1_lay_89 : decode cX1_lay 89 = .ok (.getfield 15, 3) := by decide +kernel
theorem dX1_lay_92 : decode cX1_lay 92 = .ok (.iconst 2, 1) := by decide +kernel
theorem dX1_lay_93 : decode cX1_lay 93 = .ok (.lload 7, 2) := by decide +kernel
theorem dX1_lay_95 : decode cX1_lay 95 = .ok (.iload 10, 2) := by decide +kernel
theorem dX1_lay_97 : decode cX1_lay 97 = .ok (.iload 4, 2) := by decide +kernel
theorem dX1_lay_99 : decode cX1_lay 99 = .ok (.isub, 1) := by decide +kernel
theorem dX1_lay_100 : decode cX1_lay 100 = .ok (.iconst 0, 1) := by decide +kernel
theorem dX1_lay_101 : decode cX1_lay 101 = .ok (.invokestatic 42, 3) := by decide +kernel
theorem dX1_lay_104 : decode cX1_lay 104 = .ok (.i2l, 1) := by decide +kernel
theorem dX1_lay_105 : decode cX1_lay 105 = .ok (.lmul, 1) := by decide +kernel
theorem dX1_lay_106 : decode cX1_lay 106 = .ok (.lastore, 1) := by decide +kernel
theorem dX1_lay_107 : decode cX1_lay 107 = .ok (.aload_n 0, 1) := by decide +kernel
theorem dX1_lay_108 : decode cX1_lay 108 = .ok (.getfield 15, 3) := by decide +kernel
theorem dX1_lay_111 : decode cX1_lay 111 = .ok (.iconst 3, 1) := by decide +kernel
theorem dX1_lay_112 : decode cX1_lay 112 = .ok (.iload 9, 2) := by decide +kernel
theorem dX1_lay_114 : decode cX1_lay 114 = .ok (.iconst 1, 1) := by decide +kernel
theorem dX1_lay_115 : decode cX1_lay 115 = .ok (.if_icmp .ne 14, 3) := by decide +kernel
theorem dX1_lay_118 : decode cX1_lay 118 = .ok (.lload 7, 2) := by decide +kernel
theorem dX1_lay_120 : decode cX1_lay 120 = .ok (.aload_n 3, 1) := by decide +kernel
theorem dX1_lay_121 : decode cX1_lay 121 = .ok (.getfield 48, 3) := by decide +kernel
theorem dX1_lay_124 : decode cX1_lay 124 = .ok (.i2l, 1) := by decide +kernel
theorem dX1_lay_125 : decode cX1_lay 125 = .ok (.lmul, 1) := by decide +kernel
theorem dX1_lay_126 : decode cX1_lay 126 = .ok (.goto 4, 3) := by decide +kernel
theorem dX1_lay_129 : decode cX1_lay 129 = .ok (.lconst 0, 1) := by decide +kernel
theorem dX1_lay_130 : decode cX1_lay 130 = .ok (.lastore, 1) := by decide +kernel
theorem dX1_lay_131 : decode cX1_lay 131 = .ok (.aload_n 0, 1) := by decide +kernel
theorem dX1_lay_132 : decode cX1_lay 132 = .ok (.getfield 15, 3) := by decide +kernel
theorem dX1_lay_135 : decode cX1_lay 135 = .ok (.iconst 4, 1) := by decide +kernel
theorem dX1_lay_136 : decode cX1_lay 136 = .ok (.iload 9, 2) := by decide +kernel
theorem dX1_lay_138 : decode cX1_lay 138 = .ok (.iconst 3, 1) := by decide +kernel
theorem dX1_lay_139 : decode cX1_lay 139 = .ok (.if_icmp .ne 14, 3) := by decide +kernel
theorem dX1_lay_142 : decode cX1_lay 142 = .ok (.lload 7, 2) := by decide +kernel
theorem dX1_lay_144 : decode cX1_lay 144 = .ok (.aload_n 3, 1) := by decide +kernel
theorem dX1_lay_145 : decode cX1_lay 145 = .ok (.getfield 48, 3) := by decide +kernel
theorem dX1_lay_148 : decode cX1_lay 148 = .ok (.i2l, 1) := by decide +kernel
theorem dX1_lay_149 : decode cX1_lay 149 = .ok (.lmul, 1) := by decide +kernel
theorem dX1_lay_150 : decode cX1_lay 150 = .ok (.goto 4, 3) := by decide +kernel
theorem dX1_lay_153 : decode cX1_lay 153 = .ok (.lconst 0, 1) := by decide +kernel
theorem dX1_lay_154 : decode cX1_lay 154 = .ok (.lastore, 1) := by decide +kernel
theorem dX1_lay_155 : decode cX1_lay 155 = .ok (.return_, 1) := by decide +kernel
theorem dX1_isForward_0 : decode cX1_isForward 0 = .ok (.aload_n 0, 1) := by decide +kernel
theorem dX1_isForward_1 : decode cX1_isForward 1 = .ok (.getfield 15, 3) := by decide +kernel
theorem dX1_isForward_4 : decode cX1_isForward 4 = .ok (.iconst 0, 1) := by decide +kernel
theorem dX1_isForward_5 : decode cX1_isForward 5 = .ok (.laload, 1) := by decide +kernel
theorem dX1_isForward_6 : decode cX1_isForward 6 = .ok (.aload_n 1, 1) := by decide +kernel
theorem dX1_isForward_7 : decode cX1_isForward 7 = .ok (.invokevirtual 51, 3) := by decide +kernel
theorem dX1_isForward_10 : decode cX1_isForward 10 = .ok (.aload_n 1, 1) := by decide +kernel
theorem dX1_isForward_11 : decode cX1_isForward 11 = .ok (.getfield 57, 3) := by decide +kernel
theorem dX1_isForward_14 : decode cX1_isForward 14 = .ok (.invokestatic 60, 3) := by decide +kernel
theorem dX1_isForward_17 : decode cX1_isForward 17 = .ok (.i2l, 1) := by decide +kernel
theorem dX1_isForward_18 : decode cX1_isForward 18 = .ok (.lmul, 1) := by decide +kernel
theorem dX1_isForward_19 : decode cX1_isForward 19 = .ok (.lstore_n 2, 1) := by decide +kernel
theorem dX1_isForward_20 : decode cX1_isForward 20 = .ok (.aload_n 0, 1) := by decide +kernel
theorem dX1_isForward_21 : decode cX1_isForward 21 = .ok (.getfield 15, 3) := by decide +kernel
theorem dX1_isForward_24 : decode cX1_isForward 24 = .ok (.iconst 1, 1) := by decide +kernel
theorem dX1_isForward_25 : decode cX1_isForward 25 = .ok (.laload, 1) := by decide +kernel
theorem dX1_isForward_26 : decode cX1_isForward 26 = .ok (.aload_n 1, 1) := by decide +kernel
theorem dX1_isForward_27 : decode cX1_isForward 27 = .ok (.invokevirtual 51, 3) := by decide +kernel
theorem dX1_isForward_30 : decode cX1_isForward 30 = .ok (.aload_n 1, 1) := by decide +kernel
theorem dX1_isForward_31 : decode cX1_isForward 31 = .ok (.getfield 63, 3) := by decide +kernel
theorem dX1_isForward_34 : decode cX1_isForward 34 = .ok (.invokestatic 60, 3) := by decide +kernel
theorem dX1_isForward_37 : decode cX1_isForward 37 = .ok (.i2l, 1) := by decide +kernel
theorem dX1_isForward_38 : decode cX1_isForward 38 = .ok (.lmul, 1) := by decide +kernel
theorem dX1_isForward_39 : decode cX1_isForward 39 = .ok (.lstore 4, 2) := by decide +kernel
theorem dX1_isForward_41 : decode cX1_isForward 41 = .ok (.lload 4, 2) := by decide +kernel
theorem dX1_isForward_43 : decode cX1_isForward 43 = .ok (.lload_n 2, 1) := by decide +kernel
theorem dX1_isForward_44 : decode cX1_isForward 44 = .ok (.lcmp, 1) := by decide +kernel
theorem dX1_isForward_45 : decode cX1_isForward 45 = .ok (.ifCond .le 7, 3) := by decide +kernel
theorem dX1_isForward_48 : decode cX1_isForward 48 = .ok (.iconst 1, 1) := by decide +kernel
theorem dX1_isForward_49 : decode cX1_isForward 49 = .ok (.goto 4, 3) := by decide +kernel
theorem dX1_isForward_52 : decode cX1_isForward 52 = .ok (.iconst 0, 1) := by decide +kernel
theorem dX1_isForward_53 : decode cX1_isForward 53 = .ok (.ireturn, 1) := by decide +kernel
theorem dX1_wetOf_0 : decode cX1_wetOf 0 = .ok (.aload_n 0, 1) := by decide +kernel
theorem dX1_wetOf_1 : decode cX1_wetOf 1 = .ok (.aload_n 2, 1) := by decide +kernel
theorem dX1_wetOf_2 : decode cX1_wetOf 2 = .ok (.iload_n 3, 1) := by decide +kernel
theorem dX1_wetOf_3 : decode cX1_wetOf 3 = .ok (.aload 4, 2) := by decide +kernel
theorem dX1_wetOf_5 : decode cX1_wetOf 5 = .ok (.iload 5, 2) := by decide +kernel
theorem dX1_wetOf_7 : decode cX1_wetOf 7 = .ok (.invokevirtual 66, 3) := by decide +kernel
theorem dX1_wetOf_10 : decode cX1_wetOf 10 = .ok (.aload_n 0, 1) := by decide +kernel
theorem dX1_wetOf_11 : decode cX1_wetOf 11 = .ok (.aload_n 1, 1) := by decide +kernel
theorem dX1_wetOf_12 : decode cX1_wetOf 12 = .ok (.iconst 0, 1) := by decide +kernel
theorem dX1_wetOf_13 : decode cX1_wetOf 13 = .ok (.iconst 0, 1) := by decide +kernel
theorem dX1_wetOf_14 : decode cX1_wetOf 14 = .ok (.invokevirtual 70, 3) := by decide +kernel
theorem dX1_wetOf_17 : decode cX1_wetOf 17 = .ok (.lreturn, 1) := by decide +kernel
theorem dX1_wetInLee_0 : decode cX1_wetInLee 0 = .ok (.aload_n 0, 1) := by decide +kernel
theorem dX1_wetInLee_1 : decode cX1_wetInLee 1 = .ok (.aload_n 1, 1) := by decide +kernel
theorem dX1_wetInLee_2 : decode cX1_wetInLee 2 = .ok (.iconst 0, 1) := by decide +kernel
theorem dX1_wetInLee_3 : decode cX1_wetInLee 3 = .ok (.aload_n 2, 1) := by decide +kernel
theorem dX1_wetInLee_4 : decode cX1_wetInLee 4 = .ok (.getfield 63, 3) := by decide +kernel
theorem dX1_wetInLee_7 : decode cX1_wetInLee 7 = .ok (.invokevirtual 70, 3) := by decide +kernel
theorem dX1_wetInLee_10 : decode cX1_wetInLee 10 = .ok (.aload_n 0, 1) := by decide +kernel
theorem dX1_wetInLee_11 : decode cX1_wetInLee 11 = .ok (.aload_n 2, 1) := by decide +kernel
theorem dX1_wetInLee_12 : decode cX1_wetInLee 12 = .ok (.aload_n 1, 1) := by decide +kernel
theorem dX1_wetInLee_13 : decode cX1_wetInLee 13 = .ok (.getfield 63, 3) := by decide +kernel
theorem dX1_wetInLee_16 : decode cX1_wetInLee 16 = .ok (.iconst 0, 1) := by decide +kernel
theorem dX1_wetInLee_17 : decode cX1_wetInLee 17 = .ok (.invokevirtual 70, 3) := by decide +kernel
theorem dX1_wetInLee_20 : decode cX1_wetInLee 20 = .ok (.ladd, 1) := by decide +kernel
theorem dX1_wetInLee_21 : decode cX1_wetInLee 21 = .ok (.lreturn, 1) := by decide +kernel
theorem dX1_soak_0 : decode cX1_soak 0 = .ok (.aload_n 0, 1) := by decide +kernel
theorem dX1_soak_1 : decode cX1_soak 1 = .ok (.aload_n 1, 1) := by decide +kernel
theorem dX1_soak_2 : decode cX1_soak 2 = .ok (.invokevirtual 74, 3) := by decide +kernel
theorem dX1_soak_5 : decode cX1_soak 5 = .ok (.istore 4, 2) := by decide +kernel
theorem dX1_soak_7 : decode cX1_soak 7 = .ok (.iload 4, 2) := by decide +kernel
theorem dX1_soak_9 : decode cX1_soak 9 = .ok (.ifCond .eq 7, 3) := by decide +kernel
theorem dX1_soak_12 : decode cX1_soak 12 = .ok (.iconst 0, 1) := by decide +kernel
theorem dX1_soak_13 : decode cX1_soak 13 = .ok (.goto 7, 3) := by decide +kernel
theorem dX1_soak_16 : decode cX1_soak 16 = .ok (.aload_n 1, 1) := by decide +kernel
theorem dX1_soak_17 : decode cX1_soak 17 = .ok (.invokevirtual 51, 3) := by decide +kernel
theorem dX1_soak_20 : decode cX1_soak 20 = .ok (.istore 5, 2) := by decide +kernel
theorem dX1_soak_22 : decode cX1_soak 22 = .ok (.iload 4, 2) := by decide +kernel
theorem dX1_soak_24 : decode cX1_soak 24 = .ok (.ifCond .eq 10, 3) := by decide +kernel
theorem dX1_soak_27 : decode cX1_soak 27 = .ok (.aload_n 1, 1) := by decide +kernel
theorem dX1_soak_28 : decode cX1_soak 28 = .ok (.invokevirtual 51, 3) := by decide +kernel
theorem dX1_soak_31 : decode cX1_soak 31 = .ok (.goto 4, 3) := by decide +kernel
theorem dX1_soak_34 : decode cX1_soak 34 = .ok (.iconst 0, 1) := by decide +kernel
theorem dX1_soak_35 : decode cX1_soak 35 = .ok (.istore 6, 2) := by decide +kernel
theorem dX1_soak_37 : decode cX1_soak 37 = .ok (.aload_n 0, 1) := by decide +kernel
theorem dX1_soak_38 : decode cX1_soak 38 = .ok (.getfield 9, 3) := by decide +kernel
theorem dX1_soak_41 : decode cX1_soak 41 = .ok (.iconst 0, 1) := by decide +kernel
theorem dX1_soak_42 : decode cX1_soak 42 = .ok (.aload_n 0, 1) := by decide +kernel
theorem dX1_soak_43 : decode cX1_soak 43 = .ok (.getfield 15, 3) := by decide +kernel
theorem dX1_soak_46 : decode cX1_soak 46 = .ok (.iconst 0, 1) := by decide +kernel
theorem dX1_soak_47 : decode cX1_soak 47 = .ok (.laload, 1) := by decide +kernel
theorem dX1_soak_48 : decode cX1_soak 48 = .ok (.aload_n 1, 1) := by decide +kernel
theorem dX1_soak_49 : decode cX1_soak 49 = .ok (.getfield 57, 3) := by decide +kernel
theorem dX1_soak_52 : decode cX1_soak 52 = .ok (.iload 5, 2) := by decide +kernel
theorem dX1_soak_54 : decode cX1_soak 54 = .ok (.isub, 1) := by decide +kernel
theorem dX1_soak_55 : decode cX1_soak 55 = .ok (.iconst 0, 1) := by decide +kernel
theorem dX1_soak_56 : decode cX1_soak 56 = .ok (.invokestatic 42, 3) := by decide +kernel
theorem dX1_soak_59 : decode cX1_soak 59 = .ok (.i2l, 1) := by decide +kernel
theorem dX1_soak_60 : decode cX1_soak 60 = .ok (.lmul, 1) := by decide +kernel
theorem dX1_soak_61 : decode cX1_soak 61 = .ok (.lastore, 1) := by decide +kernel
theorem dX1_soak_62 : decode cX1_soak 62 = .ok (.aload_n 0, 1) := by decide +kernel
theorem dX1_soak_63 : decode cX1_soak 63 = .ok (.getfield 9, 3) := by decide +kernel
theorem dX1_soak_66 : decode cX1_soak 66 = .ok (.iconst 1, 1) := by decide +kernel
theorem dX1_soak_67 : decode cX1_soak 67 = .ok (.aload_n 0, 1) := by decide +kernel
theorem dX1_soak_68 : decode cX1_soak 68 = .ok (.getfield 15, 3) := by decide +kernel
theorem dX1_soak_71 : decode cX1_soak 71 = .ok (.iconst 1, 1) := by decide +kernel
theorem dX1_soak_72 : decode cX1_soak 72 = .ok (.laload, 1) := by decide +kernel
theorem dX1_soak_73 : decode cX1_soak 73 = .ok (.aload_n 1, 1) := by decide +kernel
theorem dX1_soak_74 : decode cX1_soak 74 = .ok (.getfield 63, 3) := by decide +kernel
theorem dX1_soak_77 : decode cX1_soak 77 = .ok (.iload 6, 2) := by decide +kernel
theorem dX1_soak_79 : decode cX1_soak 79 = .ok (.isub, 1) := by decide +kernel
theorem dX1_soak_80 : decode cX1_soak 80 = .ok (.iload_n 2, 1) := by decide +kernel
theorem dX1_soak_81 : decode cX1_soak 81 = .ok (.isub, 1) := by decide +kernel
theorem dX1_soak_82 : decode cX1_soak 82 = .ok (.iconst 0, 1) := by decide +kernel
theorem dX1_soak_83 : decode cX1_soak 83 = .ok (.invokestatic 42, 3) := by decide +kernel
theorem dX1_soak_86 : decode cX1_soak 86 = .ok (.i2l, 1) := by decide +kernel
theorem dX1_soak_87 : decode cX1_soak 87 = .ok (.lmul, 1) := by decide +kernel
theorem dX1_soak_88 : decode cX1_soak 88 = .ok (.lastore, 1) := by decide +kernel
theorem dX1_soak_89 : decode cX1_soak 89 = .ok (.aload_n 0, 1) := by decide +kernel
theorem dX1_soak_90 : decode cX1_soak 90 = .ok (.getfield 9, 3) := by decide +kernel
theorem dX1_soak_93 : decode cX1_soak 93 = .ok (.iconst 2, 1) := by decide +kernel
theorem dX1_soak_94 : decode cX1_soak 94 = .ok (.aload_n 0, 1) := by decide +kernel
theorem dX1_soak_95 : decode cX1_soak 95 = .ok (.getfield 15, 3) := by decide +kernel
theorem dX1_soak_98 : decode cX1_soak 98 = .ok (.iconst 2, 1) := by decide +kernel
theorem dX1_soak_99 : decode cX1_soak 99 = .ok (.laload, 1) := by decide +kernel
theorem dX1_soak_100 : decode cX1_soak 100 = .ok (.aload_n 1, 1) := by decide +kernel
theorem dX1_soak_101 : decode cX1_soak 101 = .ok (.getfield 63, 3) := by decide +kernel
theorem dX1_soak_104 : decode cX1_soak 104 = .ok (.iload_n 3, 1) := by decide +kernel
theorem dX1_soak_105 : decode cX1_soak 105 = .ok (.isub, 1) := by decide +kernel
theorem dX1_soak_106 : decode cX1_soak 106 = .ok (.iconst 0, 1) := by decide +kernel
theorem dX1_soak_107 : decode cX1_soak 107 = .ok (.invokestatic 42, 3) := by decide +kernel
theorem dX1_soak_110 : decode cX1_soak 110 = .ok (.i2l, 1) := by decide +kernel
theorem dX1_soak_111 : decode cX1_soak 111 = .ok (.lmul, 1) := by decide +kernel
theorem dX1_soak_112 : decode cX1_soak 112 = .ok (.lastore, 1) := by decide +kernel
theorem dX1_soak_113 : decode cX1_soak 113 = .ok (.aload_n 0, 1) := by decide +kernel
theorem dX1_soak_114 : decode cX1_soak 114 = .ok (.getfield 9, 3) := by decide +kernel
theorem dX1_soak_117 : decode cX1_soak 117 = .ok (.iconst 3, 1) := by decide +kernel
theorem dX1_soak_118 : decode cX1_soak 118 = .ok (.aload_n 0, 1) := by decide +kernel
theorem dX1_soak_119 : decode cX1_soak 119 = .ok (.getfield 15, 3) := by decide +kernel
theorem dX1_soak_122 : decode cX1_soak 122 = .ok (.iconst 3, 1) := by decide +kernel
theorem dX1_soak_123 : decode cX1_soak 123 = .ok (.laload, 1) := by decide +kernel
theorem dX1_soak_124 : decode cX1_soak 124 = .ok (.aload_n 1, 1) := by decide +kernel
theorem dX1_soak_125 : decode cX1_soak 125 = .ok (.getfield 78, 3) := by decide +kernel
theorem dX1_soak_128 : decode cX1_soak 128 = .ok (.i2l, 1) := by decide +kernel
theorem dX1_soak_129 : decode cX1_soak 129 = .ok (.lmul, 1) := by decide +kernel
theorem dX1_soak_130 : decode cX1_soak 130 = .ok (.lastore, 1) := by decide +kernel
theorem dX1_soak_131 : decode cX1_soak 131 = .ok (.aload_n 0, 1) := by decide +kernel
theorem dX1_soak_132 : decode cX1_soak 132 = .ok (.getfield 9, 3) := by decide +kernel
theorem dX1_soak_135 : decode cX1_soak 135 = .ok (.iconst 4, 1) := by decide +kernel
theorem dX1_soak_136 : decode cX1_soak 136 = .ok (.aload_n 0, 1) := by decide +kernel
theorem dX1_soak_137 : decode cX1_soak 137 = .ok (.getfield 15, 3) := by decide +kernel
theorem dX1_soak_140 : decode cX1_soak 140 = .ok (.iconst 4, 1) := by decide +kernel
theorem dX1_soak_141 : decode cX1_soak 141 = .ok (.laload, 1) := by decide +kernel
theorem dX1_soak_142 : decode cX1_soak 142 = .ok (.aload_n 1, 1) := by decide +kernel
theorem dX1_soak_143 : decode cX1_soak 143 = .ok (.getfield 78, 3) := by decide +kernel
theorem dX1_soak_146 : decode cX1_soak 146 = .ok (.i2l, 1) := by decide +kernel
theorem dX1_soak_147 : decode cX1_soak 147 = .ok (.lmul, 1) := by decide +kernel
theorem dX1_soak_148 : decode cX1_soak 148 = .ok (.lastore, 1) := by decide +kernel
theorem dX1_soak_149 : decode cX1_soak 149 = .ok (.aload_n 0, 1) := by decide +kernel
theorem dX1_soak_150 : decode cX1_soak 150 = .ok (.getfield 9, 3) := by decide +kernel
theorem dX1_soak_153 : decode cX1_soak 153 = .ok (.iconst 0, 1) := by decide +kernel
theorem dX1_soak_154 : decode cX1_soak 154 = .ok (.laload, 1) := by decide +kernel
theorem dX1_soak_155 : decode cX1_soak 155 = .ok (.aload_n 0, 1) := by decide +kernel
theorem dX1_soak_156 : decode cX1_soak 156 = .ok (.getfield 9, 3) := by decide +kernel
theorem dX1_soak_159 : decode cX1_soak 159 = .ok (.iconst 1, 1) := by decide +kernel
theorem dX1_soak_160 : decode cX1_soak 160 = .ok (.laload, 1) := by decide +kernel
theorem dX1_soak_161 : decode cX1_soak 161 = .ok (.ladd, 1) := by decide +kernel
theorem dX1_soak_162 : decode cX1_soak 162 = .ok (.aload_n 0, 1) := by decide +kernel
theorem dX1_soak_163 : decode cX1_soak 163 = .ok (.getfield 9, 3) := by decide +kernel
theorem dX1_soak_166 : decode cX1_soak 166 = .ok (.iconst 2, 1) := by decide +kernel
theorem dX1_soak_167 : decode cX1_soak 167 = .ok (.laload, 1) := by decide +kernel
theorem dX1_soak_168 : decode cX1_soak 168 = .ok (.ladd, 1) := by decide +kernel
theorem dX1_soak_169 : decode cX1_soak 169 = .ok (.aload_n 0, 1) := by decide +kernel
theorem dX1_soak_170 : decode cX1_soak 170 = .ok (.getfield 9, 3) := by decide +kernel
theorem dX1_soak_173 : decode cX1_soak 173 = .ok (.iconst 3, 1) := by decide +kernel
theorem dX1_soak_174 : decode cX1_soak 174 = .ok (.laload, 1) := by decide +kernel
theorem dX1_soak_175 : decode cX1_soak 175 = .ok (.ladd, 1) := by decide +kernel
theorem dX1_soak_176 : decode cX1_soak 176 = .ok (.aload_n 0, 1) := by decide +kernel
theorem dX1_soak_177 : decode cX1_soak 177 = .ok (.getfield 9, 3) := by decide +kernel
theorem dX1_soak_180 : decode cX1_soak 180 = .ok (.iconst 4, 1) := by decide +kernel
theorem dX1_soak_181 : decode cX1_soak 181 = .ok (.laload, 1) := by decide +kernel
theorem dX1_soak_182 : decode cX1_soak 182 = .ok (.ladd, 1) := by decide +kernel
theorem dX1_soak_183 : decode cX1_soak 183 = .ok (.lreturn, 1) := by decide +kernel
theorem dX1_bestSpeed_0 : decode cX1_bestSpeed 0 = .ok (.aload_n 1, 1) := by decide +kernel
theorem dX1_bestSpeed_1 : decode cX1_bestSpeed 1 = .ok (.getfield 81, 3) := by decide +kernel
theorem dX1_bestSpeed_4 : decode cX1_bestSpeed 4 = .ok (.istore 5, 2) := by decide +kernel
theorem dX1_bestSpeed_6 : decode cX1_bestSpeed 6 = .ok (.ldc2_w 84, 3) := by decide +kernel
theorem dX1_bestSpeed_9 : decode cX1_bestSpeed 9 = .ok (.lstore 6, 2) := by decide +kernel
theorem dX1_bestSpeed_11 : decode cX1_bestSpeed 11 = .ok (.aload_n 1, 1) := by decide +kernel
theorem dX1_bestSpeed_12 : decode cX1_bestSpeed 12 = .ok (.getfield 81, 3) := by decide +kernel
theorem dX1_bestSpeed_15 : decode cX1_bestSpeed 15 = .ok (.istore 8, 2) := by decide +kernel
theorem dX1_bestSpeed_17 : decode cX1_bestSpeed 17 = .ok (.iload 8, 2) := by decide +kernel
theorem dX1_bestSpeed_19 : decode cX1_bestSpeed 19 = .ok (.aload_n 1, 1) := by decide +kernel
theorem dX1_bestSpeed_20 : decode cX1_bestSpeed 20 = .ok (.getfield 86, 3) := by decide +kernel
theorem dX1_bestSpeed_23 : decode cX1_bestSpeed 23 = .ok (.if_icmp .gt 38, 3) := by decide +kernel
theorem dX1_bestSpeed_26 : decode cX1_bestSpeed 26 = .ok (.aload_n 0, 1) := by decide +kernel
theorem dX1_bestSpeed_27 : decode cX1_bestSpeed 27 = .ok (.aload_n 1, 1) := by decide +kernel
theorem dX1_bestSpeed_28 : decode cX1_bestSpeed 28 = .ok (.aload_n 2, 1) := by decide +kernel
theorem dX1_bestSpeed_29 : decode cX1_bestSpeed 29 = .ok (.iload_n 3, 1) := by decide +kernel
theorem dX1_bestSpeed_30 : decode cX1_bestSpeed 30 = .ok (.aload 4, 2) := by decide +kernel
theorem dX1_bestSpeed_32 : decode cX1_bestSpeed 32 = .ok (.iload 8, 2) := by decide +kernel
theorem dX1_bestSpeed_34 : decode cX1_bestSpeed 34 = .ok (.invokevirtual 89, 3) := by decide +kernel
theorem dX1_bestSpeed_37 : decode cX1_bestSpeed 37 = .ok (.lstore 9, 2) := by decide +kernel
theorem dX1_bestSpeed_39 : decode cX1_bestSpeed 39 = .ok (.lload 9, 2) := by decide +kernel
theorem dX1_bestSpeed_41 : decode cX1_bestSpeed 41 = .ok (.lload 6, 2) := by decide +kernel
theorem dX1_bestSpeed_43 : decode cX1_bestSpeed 43 = .ok (.lcmp, 1) := by decide +kernel
theorem dX1_bestSpeed_44 : decode cX1_bestSpeed 44 = .ok (.ifCond .ge 11, 3) := by decide +kernel
theorem dX1_bestSpeed_47 : decode cX1_bestSpeed 47 = .ok (.lload 9, 2) := by decide +kernel
theorem dX1_bestSpeed_49 : decode cX1_bestSpeed 49 = .ok (.lstore 6, 2) := by decide +kernel
theorem dX1_bestSpeed_51 : decode cX1_bestSpeed 51 = .ok (.iload 8, 2) := by decide +kernel
theorem dX1_bestSpeed_53 : decode cX1_bestSpeed 53 = .ok (.istore 5, 2) := by decide +kernel
theorem dX1_bestSpeed_55 : decode cX1_bestSpeed 55 = .ok (.iinc 8 1, 3) := by decide +kernel
theorem dX1_bestSpeed_58 : decode cX1_bestSpeed 58 = .ok (.goto (-41), 3) := by decide +kernel
theorem dX1_bestSpeed_61 : decode cX1_bestSpeed 61 = .ok (.iload 5, 2) := by decide +kernel
theorem dX1_bestSpeed_63 : decode cX1_bestSpeed 63 = .ok (.ireturn, 1) := by decide +kernel
theorem dX1_worstSpeed_0 : decode cX1_worstSpeed 0 = .ok (.aload_n 1, 1) := by decide +kernel
theorem dX1_worstSpeed_1 : decode cX1_worstSpeed 1 = .ok (.getfield 81, 3) := by decide +kernel
theorem dX1_worstSpeed_4 : decode cX1_worstSpeed 4 = .ok (.istore 5, 2) := by decide +kernel
theorem dX1_worstSpeed_6 : decode cX1_worstSpeed 6 = .ok (.ldc2_w 93, 3) := by decide +kernel
theorem dX1_worstSpeed_9 : decode cX1_worstSpeed 9 = .ok (.lstore 6, 2) := by decide +kernel
theorem dX1_worstSpeed_11 : decode cX1_worstSpeed 11 = .ok (.aload_n 1, 1) := by decide +kernel
theorem dX1_worstSpeed_12 : decode cX1_worstSpeed 12 = .ok (.getfield 81, 3) := by decide +kernel
theorem dX1_worstSpeed_15 : decode cX1_worstSpeed 15 = .ok (.istore 8, 2) := by decide +kernel
theorem dX1_worstSpeed_17 : decode cX1_worstSpeed 17 = .ok (.iload 8, 2) := by decide +kernel
theorem dX1_worstSpeed_19 : decode cX1_worstSpeed 19 = .ok (.aload_n 1, 1) := by decide +kernel
theorem dX1_worstSpeed_20 : decode cX1_worstSpeed 20 = .ok (.getfield 86, 3) := by decide +kernel
theorem dX1_worstSpeed_23 : decode cX1_worstSpeed 23 = .ok (.if_icmp .gt 38, 3) := by decide +kernel
theorem dX1_worstSpeed_26 : decode cX1_worstSpeed 26 = .ok (.aload_n 0, 1) := by decide +kernel
theorem dX1_worstSpeed_27 : decode cX1_worstSpeed 27 = .ok (.aload_n 1, 1) := by decide +kernel
theorem dX1_worstSpeed_28 : decode cX1_worstSpeed 28 = .ok (.aload_n 2, 1) := by decide +kernel
theorem dX1_worstSpeed_29 : decode cX1_worstSpeed 29 = .ok (.iload_n 3, 1) := by decide +kernel
theorem dX1_worstSpeed_30 : decode cX1_worstSpeed 30 = .ok (.aload 4, 2) := by decide +kernel
theorem dX1_worstSpeed_32 : decode cX1_worstSpeed 32 = .ok (.iload 8, 2) := by decide +kernel
theorem dX1_worstSpeed_34 : decode cX1_worstSpeed 34 = .ok (.invokevirtual 89, 3) := by decide +kernel
theorem dX1_worstSpeed_37 : decode cX1_worstSpeed 37 = .ok (.lstore 9, 2) := by decide +kernel
theorem dX1_worstSpeed_39 : decode cX1_worstSpeed 39 = .ok (.lload 9, 2) := by decide +kernel
theorem dX1_worstSpeed_41 : decode cX1_worstSpeed 41 = .ok (.lload 6, 2) := by decide +kernel
theorem dX1_worstSpeed_43 : decode cX1_worstSpeed 43 = .ok (.lcmp, 1) := by decide +kernel
theorem dX1_worstSpeed_44 : decode cX1_worstSpeed 44 = .ok (.ifCond .le 11, 3) := by decide +kernel
theorem dX1_worstSpeed_47 : decode cX1_worstSpeed 47 = .ok (.lload 9, 2) := by decide +kernel
theorem dX1_worstSpeed_49 : decode cX1_worstSpeed 49 = .ok (.lstore 6, 2) := by decide +kernel
theorem dX1_worstSpeed_51 : decode cX1_worstSpeed 51 = .ok (.iload 8, 2) := by decide +kernel
theorem dX1_worstSpeed_53 : decode cX1_worstSpeed 53 = .ok (.istore 5, 2) := by decide +kernel
theorem dX1_worstSpeed_55 : decode cX1_worstSpeed 55 = .ok (.iinc 8 1, 3) := by decide +kernel
theorem dX1_worstSpeed_58 : decode cX1_worstSpeed 58 = .ok (.goto (-41), 3) := by decide +kernel
theorem dX1_worstSpeed_61 : decode cX1_worstSpeed 61 = .ok (.iload 5, 2) := by decide +kernel
theorem dX1_worstSpeed_63 : decode cX1_worstSpeed 63 = .ok (.ireturn, 1) := by decide +kernel
theorem dX1_leastWet_0 : decode cX1_leastWet 0 = .ok (.aload_n 0, 1) := by decide +kernel
theorem dX1_leastWet_1 : decode cX1_leastWet 1 = .ok (.aload_n 1, 1) := by decide +kernel
theorem dX1_leastWet_2 : decode cX1_leastWet 2 = .ok (.aload_n 2, 1) := by decide +kernel
theorem dX1_leastWet_3 : decode cX1_leastWet 3 = .ok (.iload_n 3, 1) := by decide +kernel
theorem dX1_leastWet_4 : decode cX1_leastWet 4 = .ok (.aload 4, 2) := by decide +kernel
theorem dX1_leastWet_6 : decode cX1_leastWet 6 = .ok (.aload_n 0, 1) := by decide +kernel
theorem dX1_leastWet_7 : decode cX1_leastWet 7 = .ok (.aload_n 1, 1) := by decide +kernel
theorem dX1_leastWet_8 : decode cX1_leastWet 8 = .ok (.aload_n 2, 1) := by decide +kernel
theorem dX1_leastWet_9 : decode cX1_leastWet 9 = .ok (.iload_n 3, 1) := by decide +kernel
theorem dX1_leastWet_10 : decode cX1_leastWet 10 = .ok (.aload 4, 2) := by decide +kernel
theorem dX1_leastWet_12 : decode cX1_leastWet 12 = .ok (.invokevirtual 95, 3) := by decide +kernel
theorem dX1_leastWet_15 : decode cX1_leastWet 15 = .ok (.invokevirtual 89, 3) := by decide +kernel
theorem dX1_leastWet_18 : decode cX1_leastWet 18 = .ok (.lreturn, 1) := by decide +kernel
theorem dX1_countFits_0 : decode cX1_countFits 0 = .ok (.iconst 0, 1) := by decide +kernel
theorem dX1_countFits_1 : decode cX1_countFits 1 = .ok (.istore_n 3, 1) := by decide +kernel
theorem dX1_countFits_2 : decode cX1_countFits 2 = .ok (.iconst 0, 1) := by decide +kernel
theorem dX1_countFits_3 : decode cX1_countFits 3 = .ok (.istore 4, 2) := by decide +kernel
theorem dX1_countFits_5 : decode cX1_countFits 5 = .ok (.iload 4, 2) := by decide +kernel
theorem dX1_countFits_7 : decode cX1_countFits 7 = .ok (.aload_n 1, 1) := by decide +kernel
theorem dX1_countFits_8 : decode cX1_countFits 8 = .ok (.invokestatic 99, 3) := by decide +kernel
theorem dX1_countFits_11 : decode cX1_countFits 11 = .ok (.if_icmp .ge 24, 3) := by decide +kernel
theorem dX1_countFits_14 : decode cX1_countFits 14 = .ok (.aload_n 0, 1) := by decide +kernel
theorem dX1_countFits_15 : decode cX1_countFits 15 = .ok (.aload_n 1, 1) := by decide +kernel
theorem dX1_countFits_16 : decode cX1_countFits 16 = .ok (.iload_n 2, 1) := by decide +kernel
theorem dX1_countFits_17 : decode cX1_countFits 17 = .ok (.iload 4, 2) := by decide +kernel
theorem dX1_countFits_19 : decode cX1_countFits 19 = .ok (.invokevirtual 103, 3) := by decide +kernel
theorem dX1_countFits_22 : decode cX1_countFits 22 = .ok (.iconst (-1), 1) := by decide +kernel
theorem dX1_countFits_23 : decode cX1_countFits 23 = .ok (.if_icmp .eq 6, 3) := by decide +kernel
theorem dX1_countFits_26 : decode cX1_countFits 26 = .ok (.iinc 3 1, 3) := by decide +kernel
theorem dX1_countFits_29 : decode cX1_countFits 29 = .ok (.iinc 4 1, 3) := by decide +kernel
theorem dX1_countFits_32 : decode cX1_countFits 32 = .ok (.goto (-27), 3) := by decide +kernel
theorem dX1_countFits_35 : decode cX1_countFits 35 = .ok (.iload_n 3, 1) := by decide +kernel
theorem dX1_countFits_36 : decode cX1_countFits 36 = .ok (.ireturn, 1) := by decide +kernel
theorem dX1_findFit_0 : decode cX1_findFit 0 = .ok (.iload_n 3, 1) := by decide +kernel
theorem dX1_findFit_1 : decode cX1_findFit 1 = .ok (.istore 4, 2) := by decide +kernel
theorem dX1_findFit_3 : decode cX1_findFit 3 = .ok (.iconst 0, 1) := by decide +kernel
theorem dX1_findFit_4 : decode cX1_findFit 4 = .ok (.istore 5, 2) := by decide +kernel
theorem dX1_findFit_6 : decode cX1_findFit 6 = .ok (.iload 5, 2) := by decide +kernel
theorem dX1_findFit_8 : decode cX1_findFit 8 = .ok (.aload_n 1, 1) := by decide +kernel
theorem dX1_findFit_9 : decode cX1_findFit 9 = .ok (.invokestatic 99, 3) := by decide +kernel
theorem dX1_findFit_12 : decode cX1_findFit 12 = .ok (.if_icmp .ge 42, 3) := by decide +kernel
theorem dX1_findFit_15 : decode cX1_findFit 15 = .ok (.aload_n 0, 1) := by decide +kernel
theorem dX1_findFit_16 : decode cX1_findFit 16 = .ok (.aload_n 1, 1) := by decide +kernel
theorem dX1_findFit_17 : decode cX1_findFit 17 = .ok (.iload_n 2, 1) := by decide +kernel
theorem dX1_findFit_18 : decode cX1_findFit 18 = .ok (.iload 5, 2) := by decide +kernel
theorem dX1_findFit_20 : decode cX1_findFit 20 = .ok (.invokevirtual 103, 3) := by decide +kernel
theorem dX1_findFit_23 : decode cX1_findFit 23 = .ok (.istore 6, 2) := by decide +kernel
theorem dX1_findFit_25 : decode cX1_findFit 25 = .ok (.iload 6, 2) := by decide +kernel
theorem dX1_findFit_27 : decode cX1_findFit 27 = .ok (.iconst (-1), 1) := by decide +kernel
theorem dX1_findFit_28 : decode cX1_findFit 28 = .ok (.if_icmp .eq 11, 3) := by decide +kernel
theorem dX1_findFit_31 : decode cX1_findFit 31 = .ok (.iload 4, 2) := by decide +kernel
theorem dX1_findFit_33 : decode cX1_findFit 33 = .ok (.ifCond .ne 6, 3) := by decide +kernel
theorem dX1_findFit_36 : decode cX1_findFit 36 = .ok (.iload 6, 2) := by decide +kernel
theorem dX1_findFit_38 : decode cX1_findFit 38 = .ok (.ireturn, 1) := by decide +kernel
theorem dX1_findFit_39 : decode cX1_findFit 39 = .ok (.iload 6, 2) := by decide +kernel
theorem dX1_findFit_41 : decode cX1_findFit 41 = .ok (.iconst (-1), 1) := by decide +kernel
theorem dX1_findFit_42 : decode cX1_findFit 42 = .ok (.if_icmp .eq 6, 3) := by decide +kernel
theorem dX1_findFit_45 : decode cX1_findFit 45 = .ok (.iinc 4 (-1), 3) := by decide +kernel
theorem dX1_findFit_48 : decode cX1_findFit 48 = .ok (.iinc 5 1, 3) := by decide +kernel
theorem dX1_findFit_51 : decode cX1_findFit 51 = .ok (.goto (-45), 3) := by decide +kernel
theorem dX1_findFit_54 : decode cX1_findFit 54 = .ok (.iconst (-1), 1) := by decide +kernel
theorem dX1_findFit_55 : decode cX1_findFit 55 = .ok (.ireturn, 1) := by decide +kernel
theorem dX1_legsOf_0 : decode cX1_legsOf 0 = .ok (.aload_n 0, 1) := by decide +kernel
theorem dX1_legsOf_1 : decode cX1_legsOf 1 = .ok (.getfield 107, 3) := by decide +kernel
theorem dX1_legsOf_4 : decode cX1_legsOf 4 = .ok (.iconst 2, 1) := by decide +kernel
theorem dX1_legsOf_5 : decode cX1_legsOf 5 = .ok (.imul, 1) := by decide +kernel
theorem dX1_legsOf_6 : decode cX1_legsOf 6 = .ok (.aload_n 0, 1) := by decide +kernel
theorem dX1_legsOf_7 : decode cX1_legsOf 7 = .ok (.getfield 112, 3) := by decide +kernel
theorem dX1_legsOf_10 : decode cX1_legsOf 10 = .ok (.imul, 1) := by decide +kernel
theorem dX1_legsOf_11 : decode cX1_legsOf 11 = .ok (.bipush 9, 2) := by decide +kernel
theorem dX1_legsOf_13 : decode cX1_legsOf 13 = .ok (.imul, 1) := by decide +kernel
theorem dX1_legsOf_14 : decode cX1_legsOf 14 = .ok (.ireturn, 1) := by decide +kernel
theorem dX1_fitCode_0 : decode cX1_fitCode 0 = .ok (.iload_n 3, 1) := by decide +kernel
theorem dX1_fitCode_1 : decode cX1_fitCode 1 = .ok (.ifCond .lt 26, 3) := by decide +kernel
theorem dX1_fitCode_4 : decode cX1_fitCode 4 = .ok (.iload_n 3, 1) := by decide +kernel
theorem dX1_fitCode_5 : decode cX1_fitCode 5 = .ok (.aload_n 1, 1) := by decide +kernel
theorem dX1_fitCode_6 : decode cX1_fitCode 6 = .ok (.invokestatic 99, 3) := by decide +kernel
theorem dX1_fitCode_9 : decode cX1_fitCode 9 = .ok (.if_icmp .ge 18, 3) := by decide +kernel
theorem dX1_fitCode_12 : decode cX1_fitCode 12 = .ok (.aload_n 1, 1) := by decide +kernel
theorem dX1_fitCode_13 : decode cX1_fitCode 13 = .ok (.iload_n 2, 1) := by decide +kernel
theorem dX1_fitCode_14 : decode cX1_fitCode 14 = .ok (.invokevirtual 115, 3) := by decide +kernel
theorem dX1_fitCode_17 : decode cX1_fitCode 17 = .ok (.ifCond .eq 10, 3) := by decide +kernel
theorem dX1_fitCode_20 : decode cX1_fitCode 20 = .ok (.aload_n 1, 1) := by decide +kernel
theorem dX1_fitCode_21 : decode cX1_fitCode 21 = .ok (.getfield 112, 3) := by decide +kernel
theorem dX1_fitCode_24 : decode cX1_fitCode 24 = .ok (.ifCond .gt 5, 3) := by decide +kernel
theorem dX1_fitCode_27 : decode cX1_fitCode 27 = .ok (.iconst (-1), 1) := by decide +kernel
theorem dX1_fitCode_28 : decode cX1_fitCode 28 = .ok (.ireturn, 1) := by decide +kernel
theorem dX1_fitCode_29 : decode cX1_fitCode 29 = .ok (.iload_n 3, 1) := by decide +kernel
theorem dX1_fitCode_30 : decode cX1_fitCode 30 = .ok (.bipush 9, 2) := by decide +kernel
theorem dX1_fitCode_32 : decode cX1_fitCode 32 = .ok (.irem, 1) := by decide +kernel
theorem dX1_fitCode_33 : decode cX1_fitCode 33 = .ok (.iconst 1, 1) := by decide +kernel
theorem dX1_fitCode_34 : decode cX1_fitCode 34 = .ok (.iadd, 1) := by decide +kernel
theorem dX1_fitCode_35 : decode cX1_fitCode 35 = .ok (.istore 4, 2) := by decide +kernel
theorem dX1_fitCode_37 : decode cX1_fitCode 37 = .ok (.iload_n 3, 1) := by decide +kernel
theorem dX1_fitCode_38 : decode cX1_fitCode 38 = .ok (.bipush 9, 2) := by decide +kernel
theorem dX1_fitCode_40 : decode cX1_fitCode 40 = .ok (.idiv, 1) := by decide +kernel
theorem dX1_fitCode_41 : decode cX1_fitCode 41 = .ok (.aload_n 1, 1) := by decide +kernel
theorem dX1_fitCode_42 : decode cX1_fitCode 42 = .ok (.getfield 112, 3) := by decide +kernel
theorem dX1_fitCode_45 : decode cX1_fitCode 45 = .ok (.irem, 1) := by decide +kernel
theorem dX1_fitCode_46 : decode cX1_fitCode 46 = .ok (.istore 5, 2) := by decide +kernel
theorem dX1_fitCode_48 : decode cX1_fitCode 48 = .ok (.iload_n 3, 1) := by decide +kernel
theorem dX1_fitCode_49 : decode cX1_fitCode 49 = .ok (.bipush 9, 2) := by decide +kernel
theorem dX1_fitCode_51 : decode cX1_fitCode 51 = .ok (.idiv, 1) := by decide +kernel
theorem dX1_fitCode_52 : decode cX1_fitCode 52 = .ok (.aload_n 1, 1) := by decide +kernel
theorem dX1_fitCode_53 : decode cX1_fitCode 53 = .ok (.getfield 112, 3) := by decide +kernel
theorem dX1_fitCode_56 : decode cX1_fitCode 56 = .ok (.idiv, 1) := by decide +kernel
theorem dX1_fitCode_57 : decode cX1_fitCode 57 = .ok (.istore 6, 2) := by decide +kernel
theorem dX1_fitCode_59 : decode cX1_fitCode 59 = .ok (.aload_n 1, 1) := by decide +kernel
theorem dX1_fitCode_60 : decode cX1_fitCode 60 = .ok (.getfield 119, 3) := by decide +kernel
theorem dX1_fitCode_63 : decode cX1_fitCode 63 = .ok (.iload_n 2, 1) := by decide +kernel
theorem dX1_fitCode_64 : decode cX1_fitCode 64 = .ok (.iaload, 1) := by decide +kernel
theorem dX1_fitCode_65 : decode cX1_fitCode 65 = .ok (.istore 7, 2) := by decide +kernel
theorem dX1_fitCode_67 : decode cX1_fitCode 67 = .ok (.aload_n 1, 1) := by decide +kernel
theorem dX1_fitCode_68 : decode cX1_fitCode 68 = .ok (.iload 7, 2) := by decide +kernel
theorem dX1_fitCode_70 : decode cX1_fitCode 70 = .ok (.invokevirtual 123, 3) := by decide +kernel
theorem dX1_fitCode_73 : decode cX1_fitCode 73 = .ok (.ifCond .eq 29, 3) := by decide +kernel
theorem dX1_fitCode_76 : decode cX1_fitCode 76 = .ok (.aload_n 1, 1) := by decide +kernel
theorem dX1_fitCode_77 : decode cX1_fitCode 77 = .ok (.iload 6, 2) := by decide +kernel
theorem dX1_fitCode_79 : decode cX1_fitCode 79 = .ok (.iconst 2, 1) := by decide +kernel
theorem dX1_fitCode_80 : decode cX1_fitCode 80 = .ok (.idiv, 1) := by decide +kernel
theorem dX1_fitCode_81 : decode cX1_fitCode 81 = .ok (.invokevirtual 126, 3) := by decide +kernel
theorem dX1_fitCode_84 : decode cX1_fitCode 84 = .ok (.ifCond .eq 18, 3) := by decide +kernel
theorem dX1_fitCode_87 : decode cX1_fitCode 87 = .ok (.aload_n 1, 1) := by decide +kernel
theorem dX1_fitCode_88 : decode cX1_fitCode 88 = .ok (.getfield 129, 3) := by decide +kernel
theorem dX1_fitCode_91 : decode cX1_fitCode 91 = .ok (.iload 7, 2) := by decide +kernel
theorem dX1_fitCode_93 : decode cX1_fitCode 93 = .ok (.aaload, 1) := by decide +kernel
theorem dX1_fitCode_94 : decode cX1_fitCode 94 = .ok (.iload 4, 2) := by decide +kernel
theorem dX1_fitCode_96 : decode cX1_fitCode 96 = .ok (.invokevirtual 133, 3) := by decide +kernel
theorem dX1_fitCode_99 : decode cX1_fitCode 99 = .ok (.ifCond .ne 5, 3) := by decide +kernel
theorem dX1_fitCode_102 : decode cX1_fitCode 102 = .ok (.iconst (-1), 1) := by decide +kernel
theorem dX1_fitCode_103 : decode cX1_fitCode 103 = .ok (.ireturn, 1) := by decide +kernel
theorem dX1_fitCode_104 : decode cX1_fitCode 104 = .ok (.aload_n 0, 1) := by decide +kernel
theorem dX1_fitCode_105 : decode cX1_fitCode 105 = .ok (.aload_n 1, 1) := by decide +kernel
theorem dX1_fitCode_106 : decode cX1_fitCode 106 = .ok (.getfield 129, 3) := by decide +kernel
theorem dX1_fitCode_109 : decode cX1_fitCode 109 = .ok (.iload 7, 2) := by decide +kernel
theorem dX1_fitCode_111 : decode cX1_fitCode 111 = .ok (.aaload, 1) := by decide +kernel
theorem dX1_fitCode_112 : decode cX1_fitCode 112 = .ok (.aload_n 1, 1) := by decide +kernel
theorem dX1_fitCode_113 : decode cX1_fitCode 113 = .ok (.getfield 136, 3) := by decide +kernel
theorem dX1_fitCode_116 : decode cX1_fitCode 116 = .ok (.iload 6, 2) := by decide +kernel
theorem dX1_fitCode_118 : decode cX1_fitCode 118 = .ok (.iconst 2, 1) := by decide +kernel
theorem dX1_fitCode_119 : decode cX1_fitCode 119 = .ok (.idiv, 1) := by decide +kernel
theorem dX1_fitCode_120 : decode cX1_fitCode 120 = .ok (.aaload, 1) := by decide +kernel
theorem dX1_fitCode_121 : decode cX1_fitCode 121 = .ok (.iload 6, 2) := by decide +kernel
theorem dX1_fitCode_123 : decode cX1_fitCode 123 = .ok (.iconst 2, 1) := by decide +kernel
theorem dX1_fitCode_124 : decode cX1_fitCode 124 = .ok (.irem, 1) := by decide +kernel
theorem dX1_fitCode_125 : decode cX1_fitCode 125 = .ok (.aload_n 1, 1) := by decide +kernel
theorem dX1_fitCode_126 : decode cX1_fitCode 126 = .ok (.getfield 140, 3) := by decide +kernel
theorem dX1_fitCode_129 : decode cX1_fitCode 129 = .ok (.iload 5, 2) := by decide +kernel
theorem dX1_fitCode_131 : decode cX1_fitCode 131 = .ok (.aaload, 1) := by decide +kernel
theorem dX1_fitCode_132 : decode cX1_fitCode 132 = .ok (.iload 4, 2) := by decide +kernel
theorem dX1_fitCode_134 : decode cX1_fitCode 134 = .ok (.invokevirtual 89, 3) := by decide +kernel
theorem dX1_fitCode_137 : decode cX1_fitCode 137 = .ok (.pop2, 1) := by decide +kernel
theorem dX1_fitCode_138 : decode cX1_fitCode 138 = .ok (.iconst 0, 1) := by decide +kernel
theorem dX1_fitCode_139 : decode cX1_fitCode 139 = .ok (.istore 8, 2) := by decide +kernel
theorem dX1_fitCode_141 : decode cX1_fitCode 141 = .ok (.iload 8, 2) := by decide +kernel
theorem dX1_fitCode_143 : decode cX1_fitCode 143 = .ok (.iconst 5, 1) := by decide +kernel
theorem dX1_fitCode_144 : decode cX1_fitCode 144 = .ok (.if_icmp .ge 38, 3) := by decide +kernel
theorem dX1_fitCode_147 : decode cX1_fitCode 147 = .ok (.aload_n 0, 1) := by decide +kernel
theorem dX1_fitCode_148 : decode cX1_fitCode 148 = .ok (.getfield 9, 3) := by decide +kernel
theorem dX1_fitCode_151 : decode cX1_fitCode 151 = .ok (.iload 8, 2) := by decide +kernel
theorem dX1_fitCode_153 : decode cX1_fitCode 153 = .ok (.laload, 1) := by decide +kernel
theorem dX1_fitCode_154 : decode cX1_fitCode 154 = .ok (.aload_n 1, 1) := by decide +kernel
theorem dX1_fitCode_155 : decode cX1_fitCode 155 = .ok (.getfield 144, 3) := by decide +kernel
theorem dX1_fitCode_158 : decode cX1_fitCode 158 = .ok (.iload_n 2, 1) := by decide +kernel
theorem dX1_fitCode_159 : decode cX1_fitCode 159 = .ok (.iconst 5, 1) := by decide +kernel
theorem dX1_fitCode_160 : decode cX1_fitCode 160 = .ok (.imul, 1) := by decide +kernel
theorem dX1_fitCode_161 : decode cX1_fitCode 161 = .ok (.iload 8, 2) := by decide +kernel
theorem dX1_fitCode_163 : decode cX1_fitCode 163 = .ok (.iadd, 1) := by decide +kernel
theorem dX1_fitCode_164 : decode cX1_fitCode 164 = .ok (.iaload, 1) := by decide +kernel
theorem dX1_fitCode_165 : decode cX1_fitCode 165 = .ok (.i2l, 1) := by decide +kernel
theorem dX1_fitCode_166 : decode cX1_fitCode 166 = .ok (.ldc2_w 147, 3) := by decide +kernel
theorem dX1_fitCode_169 : decode cX1_fitCode 169 = .ok (.lmul, 1) := by decide +kernel
theorem dX1_fitCode_170 : decode cX1_fitCode 170 = .ok (.lcmp, 1) := by decide +kernel
theorem dX1_fitCode_171 : decode cX1_fitCode 171 = .ok (.ifCond .eq 5, 3) := by decide +kernel
theorem dX1_fitCode_174 : decode cX1_fitCode 174 = .ok (.iconst (-1), 1) := by decide +kernel
theorem dX1_fitCode_175 : decode cX1_fitCode 175 = .ok (.ireturn, 1) := by decide +kernel
theorem dX1_fitCode_176 : decode cX1_fitCode 176 = .ok (.iinc 8 1, 3) := by decide +kernel
theorem dX1_fitCode_179 : decode cX1_fitCode 179 = .ok (.goto (-38), 3) := by decide +kernel
theorem dX1_fitCode_182 : decode cX1_fitCode 182 = .ok (.sipush 1000, 3) := by decide +kernel
theorem dX1_fitCode_185 : decode cX1_fitCode 185 = .ok (.iload 6, 2) := by decide +kernel
theorem dX1_fitCode_187 : decode cX1_fitCode 187 = .ok (.iconst 2, 1) := by decide +kernel
theorem dX1_fitCode_188 : decode cX1_fitCode 188 = .ok (.idiv, 1) := by decide +kernel
theorem dX1_fitCode_189 : decode cX1_fitCode 189 = .ok (.imul, 1) := by decide +kernel
theorem dX1_fitCode_190 : decode cX1_fitCode 190 = .ok (.bipush 100, 2) := by decide +kernel
theorem dX1_fitCode_192 : decode cX1_fitCode 192 = .ok (.iload 6, 2) := by decide +kernel
theorem dX1_fitCode_194 : decode cX1_fitCode 194 = .ok (.iconst 2, 1) := by decide +kernel
theorem dX1_fitCode_195 : decode cX1_fitCode 195 = .ok (.irem, 1) := by decide +kernel
theorem dX1_fitCode_196 : decode cX1_fitCode 196 = .ok (.imul, 1) := by decide +kernel
theorem dX1_fitCode_197 : decode cX1_fitCode 197 = .ok (.iadd, 1) := by decide +kernel
theorem dX1_fitCode_198 : decode cX1_fitCode 198 = .ok (.bipush 10, 2) := by decide +kernel
theorem dX1_fitCode_200 : decode cX1_fitCode 200 = .ok (.iload 5, 2) := by decide +kernel
theorem dX1_fitCode_202 : decode cX1_fitCode 202 = .ok (.imul, 1) := by decide +kernel
theorem dX1_fitCode_203 : decode cX1_fitCode 203 = .ok (.iadd, 1) := by decide +kernel
theorem dX1_fitCode_204 : decode cX1_fitCode 204 = .ok (.iload 4, 2) := by decide +kernel
theorem dX1_fitCode_206 : decode cX1_fitCode 206 = .ok (.iadd, 1) := by decide +kernel
theorem dX1_fitCode_207 : decode cX1_fitCode 207 = .ok (.ireturn, 1) := by decide +kernel
theorem dX2_init_0 : decode cX2_init 0 = .ok (.aload_n 0, 1) := by decide +kernel
theorem dX2_init_1 : decode cX2_init 1 = .ok (.invokespecial 3, 3) := by decide +kernel
theorem dX2_init_4 : decode cX2_init 4 = .ok (.aload_n 0, 1) := by decide +kernel
theorem dX2_init_5 : decode cX2_init 5 = .ok (.iconst 5, 1) := by decide +kernel
theorem dX2_init_6 : decode cX2_init 6 = .ok (.newarray .long, 2) := by decide +kernel
theorem dX2_init_8 : decode cX2_init 8 = .ok (.putfield 9, 3) := by decide +kernel
theorem dX2_init_11 : decode cX2_init 11 = .ok (.return_, 1) := by decide +kernel
theorem dX2_copy_0 : decode cX2_copy 0 = .ok (.aload_n 0, 1) := by decide +kernel
theorem dX2_copy_1 : decode cX2_copy 1 = .ok (.aload_n 1, 1) := by decide +kernel
theorem dX2_copy_2 : decode cX2_copy 2 = .ok (.getfield 15, 3) := by decide +kernel
theorem dX2_copy_5 : decode cX2_copy 5 = .ok (.putfield 15, 3) := by decide +kernel
theorem dX2_copy_8 : decode cX2_copy 8 = .ok (.aload_n 0, 1) := by decide +kernel
theorem dX2_copy_9 : decode cX2_copy 9 = .ok (.aload_n 1, 1) := by decide +kernel
theorem dX2_copy_10 : decode cX2_copy 10 = .ok (.getfield 19, 3) := by decide +kernel
theorem dX2_copy_13 : decode cX2_copy 13 = .ok (.putfield 19, 3) := by decide +kernel
theorem dX2_copy_16 : decode cX2_copy 16 = .ok (.iconst 0, 1) := by decide +kernel
theorem dX2_copy_17 : decode cX2_copy 17 = .ok (.istore_n 2, 1) := by decide +kernel
theorem dX2_copy_18 : decode cX2_copy 18 = .ok (.iload_n 2, 1) := by decide +kernel
theorem dX2_copy_19 : decode cX2_copy 19 = .ok (.iconst 5, 1) := by decide +kernel
theorem dX2_copy_20 : decode cX2_copy 20 = .ok (.if_icmp .ge 21, 3) := by decide +kernel
theorem dX2_copy_23 : decode cX2_copy 23 = .ok (.aload_n 0, 1) := by decide +kernel
theorem dX2_copy_24 : decode cX2_copy 24 = .ok (.getfield 9, 3) := by decide +kernel
theorem dX2_copy_27 : decode cX2_copy 27 = .ok (.iload_n 2, 1) := by decide +kernel
theorem dX2_copy_28 : decode cX2_copy 28 = .ok (.aload_n 1, 1) := by decide +kernel
theorem dX2_copy_29 : decode cX2_copy 29 = .ok (.getfield 9, 3) := by decide +kernel
theorem dX2_copy_32 : decode cX2_copy 32 = .ok (.iload_n 2, 1) := by decide +kernel
theorem dX2_copy_33 : decode cX2_copy 33 = .ok (.laload, 1) := by decide +kernel
theorem dX2_copy_34 : decode cX2_copy 34 = .ok (.lastore, 1) := by decide +kernel
theorem dX2_copy_35 : decode cX2_copy 35 = .ok (.iinc 2 1, 3) := by decide +kernel
theorem dX2_copy_38 : decode cX2_copy 38 = .ok (.goto (-20), 3) := by decide +kernel
theorem dX2_copy_41 : decode cX2_copy 41 = .ok (.return_, 1) := by decide +kernel
theorem dX2_addFaces_0 : decode cX2_addFaces 0 = .ok (.iconst 0, 1) := by decide +kernel
theorem dX2_addFaces_1 : decode cX2_addFaces 1 = .ok (.istore_n 2, 1) := by decide +kernel
theorem dX2_addFaces_2 : decode cX2_addFaces 2 = .ok (.iload_n 2, 1) := by decide +kernel
theorem dX2_addFaces_3 : decode cX2_addFaces 3 = .ok (.iconst 5, 1) := by decide +kernel
theorem dX2_addFaces_4 : decode cX2_addFaces 4 = .ok (.if_icmp .ge 27, 3) := by decide +kernel
theorem dX2_addFaces_7 : decode cX2_addFaces 7 = .ok (.iload_n 2, 1) := by decide +kernel
theorem dX2_addFaces_8 : decode cX2_addFaces 8 = .ok (.aload_n 1, 1) := by decide +kernel
theorem dX2_addFaces_9 : decode cX2_addFaces 9 = .ok (.arraylength, 1) := by decide +kernel
theorem dX2_addFaces_10 : decode cX2_addFaces 10 = .ok (.if_icmp .ge 21, 3) := by decide +kernel
theorem dX2_addFaces_13 : decode cX2_addFaces 13 = .ok (.aload_n 0, 1) := by decide +kernel
theorem dX2_addFaces_14 : decode cX2_addFaces 14 = .ok (.getfield 9, 3) := by decide +kernel
theorem dX2_addFaces_17 : decode cX2_addFaces 17 = .ok (.iload_n 2, 1) := by decide +kernel
theorem dX2_addFaces_18 : decode cX2_addFaces 18 = .ok (.dup2, 1) := by decide +kernel
theorem dX2_addFaces_19 : decode cX2_addFaces 19 = .ok (.laload, 1) := by decide +kernel
theorem dX2_addFaces_20 : decode cX2_addFaces 20 = .ok (.aload_n 1, 1) := by decide +kernel
theorem dX2_addFaces_21 : decode cX2_addFaces 21 = .ok (.iload_n 2, 1) := by decide +kernel
theorem dX2_addFaces_22 : decode cX2_addFaces 22 = .ok (.laload, 1) := by decide +kernel
theorem dX2_addFaces_23 : decode cX2_addFaces 23 = .ok (.ladd, 1) := by decide +kernel
theorem dX2_addFaces_24 : decode cX2_addFaces 24 = .ok (.lastore, 1) := by decide +kernel
theorem dX2_addFaces_25 : decode cX2_addFaces 25 = .ok (.iinc 2 1, 3) := by decide +kernel
theorem dX2_addFaces_28 : decode cX2_addFaces 28 = .ok (.goto (-26), 3) := by decide +kernel
theorem dX2_addFaces_31 : decode cX2_addFaces 31 = .ok (.return_, 1) := by decide +kernel
theorem dX2_allGot_0 : decode cX2_allGot 0 = .ok (.lconst 0, 1) := by decide +kernel
theorem dX2_allGot_1 : decode cX2_allGot 1 = .ok (.lstore_n 1, 1) := by decide +kernel
theorem dX2_allGot_2 : decode cX2_allGot 2 = .ok (.iconst 0, 1) := by decide +kernel
theorem dX2_allGot_3 : decode cX2_allGot 3 = .ok (.istore_n 3, 1) := by decide +kernel
theorem dX2_allGot_4 : decode cX2_allGot 4 = .ok (.iload_n 3, 1) := by decide +kernel
theorem dX2_allGot_5 : decode cX2_allGot 5 = .ok (.iconst 5, 1) := by decide +kernel
theorem dX2_allGot_6 : decode cX2_allGot 6 = .ok (.if_icmp .ge 18, 3) := by decide +kernel
theorem dX2_allGot_9 : decode cX2_allGot 9 = .ok (.lload_n 1, 1) := by decide +kernel
theorem dX2_allGot_10 : decode cX2_allGot 10 = .ok (.aload_n 0, 1) := by decide +kernel
theorem dX2_allGot_11 : decode cX2_allGot 11 = .ok (.getfield 9, 3) := by decide +kernel
theorem dX2_allGot_14 : decode cX2_allGot 14 = .ok (.iload_n 3, 1) := by decide +kernel
theorem dX2_allGot_15 : decode cX2_allGot 15 = .ok (.laload, 1) := by decide +kernel
theorem dX2_allGot_16 : decode cX2_allGot 16 = .ok (.ladd, 1) := by decide +kernel
theorem dX2_allGot_17 : decode cX2_allGot 17 = .ok (.lstore_n 1, 1) := by decide +kernel
theorem dX2_allGot_18 : decode cX2_allGot 18 = .ok (.iinc 3 1, 3) := by decide +kernel
theorem dX2_allGot_21 : decode cX2_allGot 21 = .ok (.goto (-17), 3) := by decide +kernel
theorem dX2_allGot_24 : decode cX2_allGot 24 = .ok (.lload_n 1, 1) := by decide +kernel
theorem dX2_allGot_25 : decode cX2_allGot 25 = .ok (.lreturn, 1) := by decide +kernel
theorem dX3_init_0 : decode cX3_init 0 = .ok (.aload_n 0, 1) := by decide +kernel
theorem dX3_init_1 : decode cX3_init 1 = .ok (.invokespecial 1, 3) := by decide +kernel
theorem dX3_init_4 : decode cX3_init 4 = .ok (.return_, 1) := by decide +kernel
theorem dX4_init_0 : decode cX4_init 0 = .ok (.aload_n 0, 1) := by decide +kernel
theorem dX4_init_1 : decode cX4_init 1 = .ok (.invokespecial 3, 3) := by decide +kernel
theorem dX4_init_4 : decode cX4_init 4 = .ok (.aload_n 0, 1) := by decide +kernel
theorem dX4_init_5 : decode cX4_init 5 = .ok (.iconst 0, 1) := by decide +kernel
theorem dX4_init_6 : decode cX4_init 6 = .ok (.newarray .byte, 2) := by decide +kernel
theorem dX4_init_8 : decode cX4_init 8 = .ok (.putfield 9, 3) := by decide +kernel
theorem dX4_init_11 : decode cX4_init 11 = .ok (.aload_n 0, 1) := by decide +kernel
theorem dX4_init_12 : decode cX4_init 12 = .ok (.new 15, 3) := by decide +kernel
theorem dX4_init_15 : decode cX4_init 15 = .ok (.dup, 1) := by decide +kernel
theorem dX4_init_16 : decode cX4_init 16 = .ok (.invokespecial 17, 3) := by decide +kernel
theorem dX4_init_19 : decode cX4_init 19 = .ok (.putfield 18, 3) := by decide +kernel
theorem dX4_init_22 : decode cX4_init 22 = .ok (.aload_n 0, 1) := by decide +kernel
theorem dX4_init_23 : decode cX4_init 23 = .ok (.bipush 12, 2) := by decide +kernel
theorem dX4_init_25 : decode cX4_init 25 = .ok (.newarray .long, 2) := by decide +kernel
theorem dX4_init_27 : decode cX4_init 27 = .ok (.putfield 22, 3) := by decide +kernel
theorem dX4_init_30 : decode cX4_init 30 = .ok (.aload_n 0, 1) := by decide +kernel
theorem dX4_init_31 : decode cX4_init 31 = .ok (.bipush 12, 2) := by decide +kernel
theorem dX4_init_33 : decode cX4_init 33 = .ok (.newarray .int, 2) := by decide +kernel
theorem dX4_init_35 : decode cX4_init 35 = .ok (.putfield 26, 3) := by decide +kernel
theorem dX4_init_38 : decode cX4_init 38 = .ok (.return_, 1) := by decide +kernel
theorem dX4_exchange_0 : decode cX4_exchange 0 = .ok (.aload_n 0, 1) := by decide +kernel
theorem dX4_exchange_1 : decode cX4_exchange 1 = .ok (.getfield 18, 3) := by decide +kernel
theorem dX4_exchange_4 : decode cX4_exchange 4 = .ok (.astore_n 2, 1) := by decide +kernel
theorem dX4_exchange_5 : decode cX4_exchange 5 = .ok (.aload_n 0, 1) := by decide +kernel
theorem dX4_exchange_6 : decode cX4_exchange 6 = .ok (.aload_n 1, 1) := by decide +kernel
theorem dX4_exchange_7 : decode cX4_exchange 7 = .ok (.putfield 18, 3) := by decide +kernel
theorem dX4_exchange_10 : decode cX4_exchange 10 = .ok (.aload_n 2, 1) := by decide +kernel
theorem dX4_exchange_11 : decode cX4_exchange 11 = .ok (.areturn, 1) := by decide +kernel
theorem dX4_read_0 : decode cX4_read 0 = .ok (.aload_n 0, 1) := by decide +kernel
theorem dX4_read_1 : decode cX4_read 1 = .ok (.aload_n 1, 1) := by decide +kernel
theorem dX4_read_2 : decode cX4_read 2 = .ok (.iload_n 2, 1) := by decide +kernel
theorem dX4_read_3 : decode cX4_read 3 = .ok (.invokevirtual 30, 3) := by decide +kernel
theorem dX4_read_6 : decode cX4_read 6 = .ok (.iconst 0, 1) := by decide +kernel
theorem dX4_read_7 : decode cX4_read 7 = .ok (.istore_n 3, 1) := by decide +kernel
theorem dX4_read_8 : decode cX4_read 8 = .ok (.iload_n 3, 1) := by decide +kernel
theorem dX4_read_9 : decode cX4_read 9 = .ok (.sipush 900, 3) := by decide +kernel
theorem dX4_read_12 : decode cX4_read 12 = .ok (.if_icmp .gt 304, 3) := by decide +kernel
theorem dX4_read_15 : decode cX4_read 15 = .ok (.aload_n 0, 1) := by decide +kernel
theorem dX4_read_16 : decode cX4_read 16 = .ok (.ldc 34, 2) := by decide +kernel
theorem dX4_read_18 : decode cX4_read 18 = .ok (.invokevirtual 35, 3) := by decide +kernel
theorem dX4_read_21 : decode cX4_read 21 = .ok (.ifCond .eq 12, 3) := by decide +kernel
theorem dX4_read_24 : decode cX4_read 24 = .ok (.aload_n 0, 1) := by decide +kernel
theorem dX4_read_25 : decode cX4_read 25 = .ok (.invokevirtual 39, 3) := by decide +kernel
theorem dX4_read_28 : decode cX4_read 28 = .ok (.istore 4, 2) := by decide +kernel
theorem dX4_read_30 : decode cX4_read 30 = .ok (.goto 218, 3) := by decide +kernel
theorem dX4_read_33 : decode cX4_read 33 = .ok (.aload_n 0, 1) := by decide +kernel
theorem dX4_read_34 : decode cX4_read 34 = .ok (.ldc 43, 2) := by decide +kernel
theorem dX4_read_36 : decode cX4_read 36 = .ok (.invokevirtual 35, 3) := by decide +kernel
theorem dX4_read_39 : decode cX4_read 39 = .ok (.ifCond .eq 36, 3) := by decide +kernel
theorem dX4_read_42 : decode cX4_read 42 = .ok (.aload_n 0, 1) := by decide +kernel
theorem dX4_read_43 : decode cX4_read 43 = .ok (.aload_n 0, 1) := by decide +kernel
theorem dX4_read_44 : decode cX4_read 44 = .ok (.getfield 18, 3) := by decide +kernel
theorem dX4_read_47 : decode cX4_read 47 = .ok (.getfield 45, 3) := by decide +kernel
theorem dX4_read_50 : decode cX4_read 50 = .ok (.bipush 6, 2) := by decide +kernel
theorem dX4_read_52 : decode cX4_read 52 = .ok (.invokevirtual 49, 3) := by decide +kernel
theorem dX4_read_55 : decode cX4_read 55 = .ok (.ifCond .eq 14, 3) := by decide +kernel
theorem dX4_read_58 : decode cX4_read 58 = .ok (.aload_n 0, 1) := by decide +kernel
theorem dX4_read_59 : decode cX4_read 59 = .ok (.invokevirtual 53, 3) := by decide +kernel
theorem dX4_read_62 : decode cX4_read 62 = .ok (.ifCond .eq 7, 3) := by decide +kernel
theorem dX4_read_65 : decode cX4_read 65 = .ok (.iconst 1, 1) := by decide +kernel
theorem dX4_read_66 : decode cX4_read 66 = .ok (.goto 4, 3) := by decide +kernel
theorem dX4_read_69 : decode cX4_read 69 = .ok (.iconst 0, 1) := by decide +kernel
theorem dX4_read_70 : decode cX4_read 70 = .ok (.istore 4, 2) := by decide +kernel
theorem dX4_read_72 : decode cX4_read 72 = .ok (.goto 176, 3) := by decide +kernel
theorem dX4_read_75 : decode cX4_read 75 = .ok (.aload_n 0, 1) := by decide +kernel
theorem dX4_read_76 : decode cX4_read 76 = .ok (.ldc 56, 2) := by decide +kernel
theorem dX4_read_78 : decode cX4_read 78 = .ok (.invokevirtual 35, 3) := by decide +kernel
theorem dX4_read_81 : decode cX4_read 81 = .ok (.ifCond .eq 36, 3) := by decide +kernel
theorem dX4_read_84 : decode cX4_read 84 = .ok (.aload_n 0, 1) := by decide +kernel
theorem dX4_read_85 : decode cX4_read 85 = .ok (.aload_n 0, 1) := by decide +kernel
theorem dX4_read_86 : decode cX4_read 86 = .ok (.getfield 18, 3) := by decide +kernel
theorem dX4_read_89 : decode cX4_read 89 = .ok (.getfield 58, 3) := by decide +kernel
theorem dX4_read_92 : decode cX4_read 92 = .ok (.bipush 8, 2) := by decide +kernel
theorem dX4_read_94 : decode cX4_read 94 = .ok (.invokevirtual 49, 3) := by decide +kernel
theorem dX4_read_97 : decode cX4_read 97 = .ok (.ifCond .eq 14, 3) := by decide +kernel
theorem dX4_read_100 : decode cX4_read 100 = .ok (.aload_n 0, 1) := by decide +kernel
theorem dX4_read_101 : decode cX4_read 101 = .ok (.invokevirtual 61, 3) := by decide +kernel
theorem dX4_read_104 : decode cX4_read 104 = .ok (.ifCond .eq 7, 3) := by decide +kernel
theorem dX4_read_107 : decode cX4_read 107 = .ok (.iconst 1, 1) := by decide +kernel
theorem dX4_read_108 : decode cX4_read 108 = .ok (.goto 4, 3) := by decide +kernel
theorem dX4_read_111 : decode cX4_read 111 = .ok (.iconst 0, 1) := by decide +kernel
theorem dX4_read_112 : decode cX4_read 112 = .ok (.istore 4, 2) := by decide +kernel
theorem dX4_read_114 : decode cX4_read 114 = .ok (.goto 134, 3) := by decide +kernel
theorem dX4_read_117 : decode cX4_read 117 = .ok (.aload_n 0, 1) := by decide +kernel
theorem dX4_read_118 : decode cX4_read 118 = .ok (.ldc 64, 2) := by decide +kernel
theorem dX4_read_120 : decode cX4_read 120 = .ok (.invokevirtual 35, 3) := by decide +kernel
theorem dX4_read_123 : decode cX4_read 123 = .ok (.ifCond .eq 36, 3) := by decide +kernel
theorem dX4_read_126 : decode cX4_read 126 = .ok (.aload_n 0, 1) := by decide +kernel
theorem dX4_read_127 : decode cX4_read 127 = .ok (.aload_n 0, 1) := by decide +kernel
theorem dX4_read_128 : decode cX4_read 128 = .ok (.getfield 18, 3) := by decide +kernel
theorem dX4_read_131 : decode cX4_read 131 = .ok (.getfield 66, 3) := by decide +kernel
theorem dX4_read_134 : decode cX4_read 134 = .ok (.bipush 12, 2) := by decide +kernel
theorem dX4_read_136 : decode cX4_read 136 = .ok (.invokevirtual 49, 3) := by decide +kernel
theorem dX4_read_139 : decode cX4_read 139 = .ok (.ifCond .eq 14, 3) := by decide +kernel
theorem dX4_read_142 : decode cX4_read 142 = .ok (.aload_n 0, 1) := by decide +kernel
theorem dX4_read_143 : decode cX4_read 143 = .ok (.invokevirtual 69, 3) := by decide +kernel
theorem dX4_read_146 : decode cX4_read 146 = .ok (.ifCond .eq 7, 3) := by decide +kernel
theorem dX4_read_149 : decode cX4_read 149 = .ok (.iconst 1, 1) := by decide +kernel
theorem dX4_read_150 : decode cX4_read 150 = .ok (.goto 4, 3) := by decide +kernel
theorem dX4_read_153 : decode cX4_read 153 = .ok (.iconst 0, 1) := by decide +kernel
theorem dX4_read_154 : decode cX4_read 154 = .ok (.istore 4, 2) := by decide +kernel
theorem dX4_read_156 : decode cX4_read 156 = .ok (.goto 92, 3) := by decide +kernel
theorem dX4_read_159 : decode cX4_read 159 = .ok (.aload_n 0, 1) := by decide +kernel
theorem dX4_read_160 : decode cX4_read 160 = .ok (.ldc 72, 2) := by decide +kernel
theorem dX4_read_162 : decode cX4_read 162 = .ok (.invokevirtual 35, 3) := by decide +kernel
theorem dX4_read_165 : decode cX4_read 165 = .ok (.ifCond .eq 35, 3) := by decide +kernel
theorem dX4_read_168 : decode cX4_read 168 = .ok (.aload_n 0, 1) := by decide +kernel
theorem dX4_read_169 : decode cX4_read 169 = .ok (.aload_n 0, 1) := by decide +kernel
theorem dX4_read_170 : decode cX4_read 170 = .ok (.getfield 18, 3) := by decide +kernel
theorem dX4_read_173 : decode cX4_read 173 = .ok (.getfield 74, 3) := by decide +kernel
theorem dX4_read_176 : decode cX4_read 176 = .ok (.iconst 4, 1) := by decide +kernel
theorem dX4_read_177 : decode cX4_read 177 = .ok (.invokevirtual 49, 3) := by decide +kernel
theorem dX4_read_180 : decode cX4_read 180 = .ok (.ifCond .eq 14, 3) := by decide +kernel
theorem dX4_read_183 : decode cX4_read 183 = .ok (.aload_n 0, 1) := by decide +kernel
theorem dX4_read_184 : decode cX4_read 184 = .ok (.invokevirtual 77, 3) := by decide +kernel
theorem dX4_read_187 : decode cX4_read 187 = .ok (.ifCond .eq 7, 3) := by decide +kernel
theorem dX4_read_190 : decode cX4_read 190 = .ok (.iconst 1, 1) := by decide +kernel
theorem dX4_read_191 : decode cX4_read 191 = .ok (.goto 4, 3) := by decide +kernel
theorem dX4_read_194 : decode cX4_read 194 = .ok (.iconst 0, 1) := by decide +kernel
theorem dX4_read_195 : decode cX4_read 195 = .ok (.istore 4, 2) := by decide +kernel
theorem dX4_read_197 : decode cX4_read 197 = .ok (.goto 51, 3) := by decide +kernel
theorem dX4_read_200 : decode cX4_read 200 = .ok (.aload_n 0, 1) := by decide +kernel
theorem dX4_read_201 : decode cX4_read 201 = .ok (.ldc 80, 2) := by decide +kernel
theorem dX4_read_203 : decode cX4_read 203 = .ok (.invokevirtual 35, 3) := by decide +kernel
theorem dX4_read_206 : decode cX4_read 206 = .ok (.ifCond .eq 35, 3) := by decide +kernel
theorem dX4_read_209 : decode cX4_read 209 = .ok (.aload_n 0, 1) := by decide +kernel
theorem dX4_read_210 : decode cX4_read 210 = .ok (.aload_n 0, 1) := by decide +kernel
theorem dX4_read_211 : decode cX4_read 211 = .ok (.getfield 18, 3) := by decide +kernel
theorem dX4_read_214 : decode cX4_read 214 = .ok (.getfield 82, 3) := by decide +kernel
theorem dX4_read_217 : decode cX4_read 217 = .ok (.iconst 4, 1) := by decide +kernel
theorem dX4_read_218 : decode cX4_read 218 = .ok (.invokevirtual 49, 3) := by decide +kernel
theorem dX4_read_221 : decode cX4_read 221 = .ok (.ifCond .eq 14, 3) := by decide +kernel
theorem dX4_read_224 : decode cX4_read 224 = .ok (.aload_n 0, 1) := by decide +kernel
theorem dX4_read_225 : decode cX4_read 225 = .ok (.invokevirtual 85, 3) := by decide +kernel
theorem dX4_read_228 : decode cX4_read 228 = .ok (.ifCond .eq 7, 3) := by decide +kernel
theorem dX4_read_231 : decode cX4_read 231 = .ok (.iconst 1, 1) := by decide +kernel
theorem dX4_read_232 : decode cX4_read 232 = .ok (.goto 4, 3) := by decide +kernel
theorem dX4_read_235 : decode cX4_read 235 = .ok (.iconst 0, 1) := by decide +kernel
theorem dX4_read_236 : decode cX4_read 236 = .ok (.istore 4, 2) := by decide +kernel
theorem dX4_read_238 : decode cX4_read 238 = .ok (.goto 10, 3) := by decide +kernel
theorem dX4_read_241 : decode cX4_read 241 = .ok (.aload_n 0, 1) := by decide +kernel
theorem dX4_read_242 : decode cX4_read 242 = .ok (.iconst 1, 1) := by decide +kernel
theorem dX4_read_243 : decode cX4_read 243 = .ok (.invokevirtual 88, 3) := by decide +kernel
theorem dX4_read_246 : decode cX4_read 246 = .ok (.istore 4, 2) := by decide +kernel
theorem dX4_read_248 : decode cX4_read 248 = .ok (.iload 4, 2) := by decide +kernel
theorem dX4_read_250 : decode cX4_read 250 = .ok (.ifCond .eq 45, 3) := by decide +kernel
theorem dX4_read_253 : decode cX4_read 253 = .ok (.aload_n 0, 1) := by decide +kernel
theorem dX4_read_254 : decode cX4_read 254 = .ok (.getfield 92, 3) := by decide +kernel
theorem dX4_read_257 : decode cX4_read 257 = .ok (.ifCond .ne 38, 3) := by decide +kernel
theorem dX4_read_260 : decode cX4_read 260 = .ok (.aload_n 0, 1) := by decide +kernel
theorem dX4_read_261 : decode cX4_read 261 = .ok (.getfield 18, 3) := by decide +kernel
theorem dX4_read_264 : decode cX4_read 264 = .ok (.getfield 58, 3) := by decide +kernel
theorem dX4_read_267 : decode cX4_read 267 = .ok (.ifCond .le 13, 3) := by decide +kernel
theorem dX4_read_270 : decode cX4_read 270 = .ok (.aload_n 0, 1) := by decide +kernel
theorem dX4_read_271 : decode cX4_read 271 = .ok (.getfield 18, 3) := by decide +kernel
theorem dX4_read_274 : decode cX4_read 274 = .ok (.getfield 74, 3) := by decide +kernel
theorem dX4_read_277 : decode cX4_read 277 = .ok (.ifCond .gt 12, 3) := by decide +kernel
theorem dX4_read_280 : decode cX4_read 280 = .ok (.aload_n 0, 1) := by decide +kernel
theorem dX4_read_281 : decode cX4_read 281 = .ok (.bipush 6, 2) := by decide +kernel
theorem dX4_read_283 : decode cX4_read 283 = .ok (.invokevirtual 88, 3) := by decide +kernel
theorem dX4_read_286 : decode cX4_read 286 = .ok (.ifCond .eq 7, 3) := by decide +kernel
theorem dX4_read_289 : decode cX4_read 289 = .ok (.iconst 1, 1) := by decide +kernel
theorem dX4_read_290 : decode cX4_read 290 = .ok (.goto 4, 3) := by decide +kernel
theorem dX4_read_293 : decode cX4_read 293 = .ok (.iconst 0, 1) := by decide +kernel
theorem dX4_read_294 : decode cX4_read 294 = .ok (.ireturn, 1) := by decide +kernel
theorem dX4_read_295 : decode cX4_read 295 = .ok (.iload 4, 2) := by decide +kernel
theorem dX4_read_297 : decode cX4_read 297 = .ok (.ifCond .eq 11, 3) := by decide +kernel
theorem dX4_read_300 : decode cX4_read 300 = .ok (.aload_n 0, 1) := by decide +kernel
theorem dX4_read_301 : decode cX4_read 301 = .ok (.iconst 3, 1) := by decide +kernel
theorem dX4_read_302 : decode cX4_read 302 = .ok (.invokevirtual 95, 3) := by decide +kernel
theorem dX4_read_305 : decode cX4_read 305 = .ok (.ifCond .ne 5, 3) := by decide +kernel
theorem dX4_read_308 : decode cX4_read 308 = .ok (.iconst 0, 1) := by decide +kernel
theorem dX4_read_309 : decode cX4_read 309 = .ok (.ireturn, 1) := by decide +kernel
theorem dX4_read_310 : decode cX4_read 310 = .ok (.iinc 3 1, 3) := by decide +kernel
theorem dX4_read_313 : decode cX4_read 313 = .ok (.goto (-305), 3) := by decide +kernel
theorem dX4_read_316 : decode cX4_read 316 = .ok (.aload_n 0, 1) := by decide +kernel
theorem dX4_read_317 : decode cX4_read 317 = .ok (.iconst 1, 1) := by decide +kernel
theorem dX4_read_318 : decode cX4_read 318 = .ok (.invokevirtual 88, 3) := by decide +kernel
theorem dX4_read_321 : decode cX4_read 321 = .ok (.ireturn, 1) := by decide +kernel
theorem dX4_open_0 : decode cX4_open 0 = .ok (.aload_n 0, 1) := by decide +kernel
theorem dX4_open_1 : decode cX4_open 1 = .ok (.aload_n 1, 1) := by decide +kernel
theorem dX4_open_2 : decode cX4_open 2 = .ok (.putfield 9, 3) := by decide +kernel
theorem dX4_open_5 : decode cX4_open 5 = .ok (.aload_n 0, 1) := by decide +kernel
theorem dX4_open_6 : decode cX4_open 6 = .ok (.iload_n 2, 1) := by decide +kernel
theorem dX4_open_7 : decode cX4_open 7 = .ok (.aload_n 1, 1) := by decide +kernel
theorem dX4_open_8 : decode cX4_open 8 = .ok (.arraylength, 1) := by decide +kernel
theorem dX4_open_9 : decode cX4_open 9 = .ok (.invokestatic 98, 3) := by decide +kernel
theorem dX4_open_12 : decode cX4_open 12 = .ok (.putfield 104, 3) := by decide +kernel
theorem dX4_open_15 : decode cX4_open 15 = .ok (.aload_n 0, 1) := by decide +kernel
theorem dX4_open_16 : decode cX4_open 16 = .ok (.iconst 0, 1) := by decide +kernel
theorem dX4_open_17 : decode cX4_open 17 = .ok (.putfield 107, 3) := by decide +kernel
theorem dX4_open_20 : decode cX4_open 20 = .ok (.aload_n 0, 1) := by decide +kernel
theorem dX4_open_21 : decode cX4_open 21 = .ok (.iconst 0, 1) := by decide +kernel
theorem dX4_open_22 : decode cX4_open 22 = .ok (.putfield 110, 3) := by decide +kernel
theorem dX4_open_25 : decode cX4_open 25 = .ok (.aload_n 0, 1) := by decide +kernel
theorem dX4_open_26 : decode cX4_open 26 = .ok (.iconst 0, 1) := by decide +kernel
theorem dX4_open_27 : decode cX4_open 27 = .ok (.putfield 113, 3) := by decide +kernel
theorem dX4_open_30 : decode cX4_open 30 = .ok (.aload_n 0, 1) := by decide +kernel
theorem dX4_open_31 : decode cX4_open 31 = .ok (.iconst 0, 1) := by decide +kernel
theorem dX4_open_32 : decode cX4_open 32 = .ok (.putfield 116, 3) := by decide +kernel
theorem dX4_open_35 : decode cX4_open 35 = .ok (.aload_n 0, 1) := by decide +kernel
theorem dX4_open_36 : decode cX4_open 36 = .ok (.getfield 18, 3) := by decide +kernel
theorem dX4_open_39 : decode cX4_open 39 = .ok (.invokevirtual 119, 3) := by decide +kernel
theorem dX4_open_42 : decode cX4_open 42 = .ok (.aload_n 0, 1) := by decide +kernel
theorem dX4_open_43 : decode cX4_open 43 = .ok (.invokevirtual 122, 3) := by decide +kernel
theorem dX4_open_46 : decode cX4_open 46 = .ok (.return_, 1) := by decide +kernel
theorem dX4_fail_0 : decode cX4_fail 0 = .ok (.aload_n 0, 1) := by decide +kernel
theorem dX4_fail_1 : decode cX4_fail 1 = .ok (.iload_n 1, 1) := by decide +kernel
theorem dX4_fail_2 : decode cX4_fail 2 = .ok (.putfield 110, 3) := by decide +kernel
theorem dX4_fail_5 : decode cX4_fail 5 = .ok (.aload_n 0, 1) := by decide +kernel
theorem dX4_fail_6 : decode cX4_fail 6 = .ok (.aload_n 0, 1) := by decide +kernel
theorem dX4_fail_7 : decode cX4_fail 7 = .ok (.getfield 125, 3) := by decide +kernel
theorem dX4_fail_10 : decode cX4_fail 10 = .ok (.putfield 113, 3) := by decide +kernel
theorem dX4_fail_13 : decode cX4_fail 13 = .ok (.iconst 0, 1) := by decide +kernel
theorem dX4_fail_14 : decode cX4_fail 14 = .ok (.ireturn, 1) := by decide +kernel
theorem dX4_next_0 : decode cX4_next 0 = .ok (.iconst 0, 1) := by decide +kernel
theorem dX4_next_1 : decode cX4_next 1 = .ok (.istore_n 1, 1) := by decide +kernel
theorem dX4_next_2 : decode cX4_next 2 = .ok (.iload_n 1, 1) := by decide +kernel
theorem dX4_next_3 : decode cX4_next 3 = .ok (.sipush 900, 3) := by decide +kernel
theorem dX4_next_6 : decode cX4_next 6 = .ok (.if_icmp .ge 31, 3) := by decide +kernel
theorem dX4_next_9 : decode cX4_next 9 = .ok (.aload_n 0, 1) := by decide +kernel
theorem dX4_next_10 : decode cX4_next 10 = .ok (.aload_n 0, 1) := by decide +kernel
theorem dX4_next_11 : decode cX4_next 11 = .ok (.getfield 107, 3) := by decide +kernel
theorem dX4_next_14 : decode cX4_next 14 = .ok (.invokevirtual 128, 3) := by decide +kernel
theorem dX4_next_17 : decode cX4_next 17 = .ok (.iconst 5, 1) := by decide +kernel
theorem dX4_next_18 : decode cX4_next 18 = .ok (.if_icmp .ne 19, 3) := by decide +kernel
theorem dX4_next_21 : decode cX4_next 21 = .ok (.aload_n 0, 1) := by decide +kernel
theorem dX4_next_22 : decode cX4_next 22 = .ok (.dup, 1) := by decide +kernel
theorem dX4_next_23 : decode cX4_next 23 = .ok (.getfield 107, 3) := by decide +kernel
theorem dX4_next_26 : decode cX4_next 26 = .ok (.iconst 1, 1) := by decide +kernel
theorem dX4_next_27 : decode cX4_next 27 = .ok (.iadd, 1) := by decide +kernel
theorem dX4_next_28 : decode cX4_next 28 = .ok (.putfield 107, 3) := by decide +kernel
theorem dX4_next_31 : decode cX4_next 31 = .ok (.iinc 1 1, 3) := by decide +kernel
theorem dX4_next_34 : decode cX4_next 34 = .ok (.goto (-32), 3) := by decide +kernel
theorem dX4_next_37 : decode cX4_next 37 = .ok (.aload_n 0, 1) := by decide +kernel
theorem dX4_next_38 : decode cX4_next 38 = .ok (.aload_n 0, 1) := by decide +kernel
theorem dX4_next_39 : decode cX4_next 39 = .ok (.getfield 107, 3) := by decide +kernel
theorem dX4_next_42 : decode cX4_next 42 = .ok (.putfield 125, 3) := by decide +kernel
theorem dX4_next_45 : decode cX4_next 45 = .ok (.aload_n 0, 1) := by decide +kernel
theorem dX4_next_46 : decode cX4_next 46 = .ok (.aload_n 0, 1) := by decide +kernel
theorem dX4_next_47 : decode cX4_next 47 = .ok (.aload_n 0, 1) := by decide +kernel
theorem dX4_next_48 : decode cX4_next 48 = .ok (.getfield 107, 3) := by decide +kernel
theorem dX4_next_51 : decode cX4_next 51 = .ok (.invokevirtual 128, 3) := by decide +kernel
theorem dX4_next_54 : decode cX4_next 54 = .ok (.putfield 92, 3) := by decide +kernel
theorem dX4_next_57 : decode cX4_next 57 = .ok (.aload_n 0, 1) := by decide +kernel
theorem dX4_next_58 : decode cX4_next 58 = .ok (.lconst 0, 1) := by decide +kernel
theorem dX4_next_59 : decode cX4_next 59 = .ok (.putfield 132, 3) := by decide +kernel
theorem dX4_next_62 : decode cX4_next 62 = .ok (.aload_n 0, 1) := by decide +kernel
theorem dX4_next_63 : decode cX4_next 63 = .ok (.getfield 92, 3) := by decide +kernel
theorem dX4_next_66 : decode cX4_next 66 = .ok (.iconst 1, 1) := by decide +kernel
theorem dX4_next_67 : decode cX4_next 67 = .ok (.if_icmp .eq 11, 3) := by decide +kernel
theorem dX4_next_70 : decode cX4_next 70 = .ok (.aload_n 0, 1) := by decide +kernel
theorem dX4_next_71 : decode cX4_next 71 = .ok (.getfield 92, 3) := by decide +kernel
theorem dX4_next_74 : decode cX4_next 74 = .ok (.iconst 2, 1) := by decide +kernel
theorem dX4_next_75 : decode cX4_next 75 = .ok (.if_icmp .ne 7, 3) := by decide +kernel
theorem dX4_next_78 : decode cX4_next 78 = .ok (.iconst 1, 1) := by decide +kernel
theorem dX4_next_79 : decode cX4_next 79 = .ok (.goto 4, 3) := by decide +kernel
theorem dX4_next_82 : decode cX4_next 82 = .ok (.iconst 0, 1) := by decide +kernel
theorem dX4_next_83 : decode cX4_next 83 = .ok (.istore_n 1, 1) := by decide +kernel
theorem dX4_next_84 : decode cX4_next 84 = .ok (.aload_n 0, 1) := by decide +kernel
theorem dX4_next_85 : decode cX4_next 85 = .ok (.getfield 92, 3) := by decide +kernel
theorem dX4_next_88 : decode cX4_next 88 = .ok (.iconst 1, 1) := by decide +kernel
theorem dX4_next_89 : decode cX4_next 89 = .ok (.if_icmp .ne 8, 3) := by decide +kernel
theorem dX4_next_92 : decode cX4_next 92 = .ok (.bipush 8, 2) := by decide +kernel
theorem dX4_next_94 : decode cX4_next 94 = .ok (.goto 4, 3) := by decide +kernel
theorem dX4_next_97 : decode cX4_next 97 = .ok (.iconst 3, 1) := by decide +kernel
theorem dX4_next_98 : decode cX4_next 98 = .ok (.istore_n 2, 1) := by decide +kernel
theorem dX4_next_99 : decode cX4_next 99 = .ok (.aload_n 0, 1) := by decide +kernel
theorem dX4_next_100 : decode cX4_next 100 = .ok (.getfield 92, 3) := by decide +kernel
theorem dX4_next_103 : decode cX4_next 103 = .ok (.iconst 1, 1) := by decide +kernel
theorem dX4_next_104 : decode cX4_next 104 = .ok (.if_icmp .ne 8, 3) := by decide +kernel
theorem dX4_next_107 : decode cX4_next 107 = .ok (.bipush 32, 2) := by decide +kernel
theorem dX4_next_109 : decode cX4_next 109 = .ok (.goto 5, 3) := by decide +kernel
theorem dX4_next_112 : decode cX4_next 112 = .ok (.bipush 10, 2) := by decide +kernel
theorem dX4_next_114 : decode cX4_next 114 = .ok (.istore_n 3, 1) := by decide +kernel
theorem dX4_next_115 : decode cX4_next 115 = .ok (.iconst 0, 1) := by decide +kernel
theorem dX4_next_116 : decode cX4_next 116 = .ok (.istore 4, 2) := by decide +kernel
theorem dX4_next_118 : decode cX4_next 118 = .ok (.iload_n 1, 1) := by decide +kernel
theorem dX4_next_119 : decode cX4_next 119 = .ok (.ifCond .eq 98, 3) := by decide +kernel
theorem dX4_next_122 : decode cX4_next 122 = .ok (.iload 4, 2) := by decide +kernel
theorem dX4_next_124 : decode cX4_next 124 = .ok (.sipush 900, 3) := by decide +kernel
theorem dX4_next_127 : decode cX4_next 127 = .ok (.if_icmp .ge 90, 3) := by decide +kernel
theorem dX4_next_130 : decode cX4_next 130 = .ok (.aload_n 0, 1) := by decide +kernel
theorem dX4_next_131 : decode cX4_next 131 = .ok (.aload_n 0, 1) := by decide +kernel
theorem dX4_next_132 : decode cX4_next 132 = .ok (.getfield 107, 3) := by decide +kernel
theorem dX4_next_135 : decode cX4_next 135 = .ok (.invokevirtual 128, 3) := by decide +kernel
theorem dX4_next_138 : decode cX4_next 138 = .ok (.aload_n 0, 1) := by decide +kernel
theorem dX4_next_139 : decode cX4_next 139 = .ok (.getfield 92, 3) := by decide +kernel
theorem dX4_next_142 : decode cX4_next 142 = .ok (.if_icmp .ne 75, 3) := by decide +kernel
theorem dX4_next_145 : decode cX4_next 145 = .ok (.iload 4, 2) := by decide +kernel
theorem dX4_next_147 : decode cX4_next 147 = .ok (.iload_n 2, 1) := by decide +kernel
theorem dX4_next_148 : decode cX4_next 148 = .ok (.if_icmp .ge 53, 3) := by decide +kernel
theorem dX4_next_151 : decode cX4_next 151 = .ok (.aload_n 0, 1) := by decide +kernel
theorem dX4_next_152 : decode cX4_next 152 = .ok (.getfield 107, 3) := by decide +kernel
theorem dX4_next_155 : decode cX4_next 155 = .ok (.aload_n 0, 1) := by decide +kernel
theorem dX4_next_156 : decode cX4_next 156 = .ok (.getfield 9, 3) := by decide +kernel
theorem dX4_next_159 : decode cX4_next 159 = .ok (.arraylength, 1) := by decide +kernel
theorem dX4_next_160 : decode cX4_next 160 = .ok (.if_icmp .ge 41, 3) := by decide +kernel
theorem dX4_next_163 : decode cX4_next 163 = .ok (.aload_n 0, 1) := by decide +kernel
theorem dX4_next_164 : decode cX4_next 164 = .ok (.aload_n 0, 1) := by decide +kernel
theorem dX4_next_165 : decode cX4_next 165 = .ok (.getfield 132, 3) := by decide +kernel
theorem dX4_next_168 : decode cX4_next 168 = .ok (.iload_n 3, 1) := by decide +kernel
theorem dX4_next_169 : decode cX4_next 169 = .ok (.i2l, 1) := by decide +kernel
theorem dX4_next_170 : decode cX4_next 170 = .ok (.lmul, 1) := by decide +kernel
theorem dX4_next_171 : decode cX4_next 171 = .ok (.aload_n 0, 1) := by decide +kernel
theorem dX4_next_172 : decode cX4_next 172 = .ok (.getfield 9, 3) := by decide +kernel
theorem dX4_next_175 : decode cX4_next 175 = .ok (.aload_n 0, 1) := by decide +kernel
theorem dX4_next_176 : decode cX4_next 176 = .ok (.getfield 107, 3) := by decide +kernel
theorem dX4_next_179 : decode cX4_next 179 = .ok (.baload, 1) := by decide +kernel
theorem dX4_next_180 : decode cX4_next 180 = .ok (.aload_n 0, 1) := by decide +kernel
theorem dX4_next_181 : decode cX4_next 181 = .ok (.getfield 92, 3) := by decide +kernel
theorem dX4_next_184 : decode cX4_next 184 = .ok (.iconst 1, 1) := by decide +kernel
theorem dX4_next_185 : decode cX4_next 185 = .ok (.if_icmp .ne 8, 3) := by decide +kernel
theorem dX4_next_188 : decode cX4_next 188 = .ok (.bipush 31, 2) := by decide +kernel
theorem dX4_next_190 : decode cX4_next 190 = .ok (.goto 5, 3) := by decide +kernel
theorem dX4_next_193 : decode cX4_next 193 = .ok (.bipush 15, 2) := by decide +kernel
theorem dX4_next_195 : decode cX4_next 195 = .ok (.iand, 1) := by decide +kernel
theorem dX4_next_196 : decode cX4_next 196 = .ok (.i2l, 1) := by decide +kernel
theorem dX4_next_197 : decode cX4_next 197 = .ok (.ladd, 1) := by decide +kernel
theorem dX4_next_198 : decode cX4_next 198 = .ok (.putfield 132, 3) := by decide +kernel
theorem dX4_next_201 : decode cX4_next 201 = .ok (.aload_n 0, 1) := by decide +kernel
theorem dX4_next_202 : decode cX4_next 202 = .ok (.dup, 1) := by decide +kernel
theorem dX4_next_203 : decode cX4_next 203 = .ok (.getfield 107, 3) := by decide +kernel
theorem dX4_next_206 : decode cX4_next 206 = .ok (.iconst 1, 1) := by decide +kernel
theorem dX4_next_207 : decode cX4_next 207 = .ok (.iadd, 1) := by decide +kernel
theorem dX4_next_208 : decode cX4_next 208 = .ok (.putfield 107, 3) := by decide +kernel
theorem dX4_next_211 : decode cX4_next 211 = .ok (.iinc 4 1, 3) := by decide +kernel
theorem dX4_next_214 : decode cX4_next 214 = .ok (.goto (-96), 3) := by decide +kernel
theorem dX4_next_217 : decode cX4_next 217 = .ok (.iload_n 1, 1) := by decide +kernel
theorem dX4_next_218 : decode cX4_next 218 = .ok (.ifCond .eq 22, 3) := by decide +kernel
theorem dX4_next_221 : decode cX4_next 221 = .ok (.aload_n 0, 1) := by decide +kernel
theorem dX4_next_222 : decode cX4_next 222 = .ok (.getfield 107, 3) := by decide +kernel
theorem dX4_next_225 : decode cX4_next 225 = .ok (.aload_n 0, 1) := by decide +kernel
theorem dX4_next_226 : decode cX4_next 226 = .ok (.getfield 125, 3) := by decide +kernel
theorem dX4_next_229 : decode cX4_next 229 = .ok (.isub, 1) := by decide +kernel
theorem dX4_next_230 : decode cX4_next 230 = .ok (.iload_n 2, 1) := by decide +kernel
theorem dX4_next_231 : decode cX4_next 231 = .ok (.if_icmp .le 9, 3) := by decide +kernel
theorem dX4_next_234 : decode cX4_next 234 = .ok (.aload_n 0, 1) := by decide +kernel
theorem dX4_next_235 : decode cX4_next 235 = .ok (.bipush 6, 2) := by decide +kernel
theorem dX4_next_237 : decode cX4_next 237 = .ok (.putfield 92, 3) := by decide +kernel
theorem dX4_next_240 : decode cX4_next 240 = .ok (.iload_n 1, 1) := by decide +kernel
theorem dX4_next_241 : decode cX4_next 241 = .ok (.ifCond .ne 20, 3) := by decide +kernel
theorem dX4_next_244 : decode cX4_next 244 = .ok (.aload_n 0, 1) := by decide +kernel
theorem dX4_next_245 : decode cX4_next 245 = .ok (.getfield 92, 3) := by decide +kernel
theorem dX4_next_248 : decode cX4_next 248 = .ok (.ifCond .eq 13, 3) := by decide +kernel
theorem dX4_next_251 : decode cX4_next 251 = .ok (.aload_n 0, 1) := by decide +kernel
theorem dX4_next_252 : decode cX4_next 252 = .ok (.dup, 1) := by decide +kernel
theorem dX4_next_253 : decode cX4_next 253 = .ok (.getfield 107, 3) := by decide +kernel
theorem dX4_next_256 : decode cX4_next 256 = .ok (.iconst 1, 1) := by decide +kernel
theorem dX4_next_257 : decode cX4_next 257 = .ok (.iadd, 1) := by decide +kernel
theorem dX4_next_258 : decode cX4_next 258 = .ok (.putfield 107, 3) := by decide +kernel
theorem dX4_next_261 : decode cX4_next 261 = .ok (.return_, 1) := by decide +kernel
theorem dX4_sortAt_0 : decode cX4_sortAt 0 = .ok (.iload_n 1, 1) := by decide +kernel
theorem dX4_sortAt_1 : decode cX4_sortAt 1 = .ok (.ifCond .lt 20, 3) := by decide +kernel
theorem dX4_sortAt_4 : decode cX4_sortAt 4 = .ok (.iload_n 1, 1) := by decide +kernel
theorem dX4_sortAt_5 : decode cX4_sortAt 5 = .ok (.aload_n 0, 1) := by decide +kernel
theorem dX4_sortAt_6 : decode cX4_sortAt 6 = .ok (.getfield 104, 3) := by decide +kernel
theorem dX4_sortAt_9 : decode cX4_sortAt 9 = .ok (.if_icmp .ge 12, 3) := by decide +kernel
theorem dX4_sortAt_12 : decode cX4_sortAt 12 = .ok (.iload_n 1, 1) := by decide +kernel
theorem dX4_sortAt_13 : decode cX4_sortAt 13 = .ok (.aload_n 0, 1) := by decide +kernel
theorem dX4_sortAt_14 : decode cX4_sortAt 14 = .ok (.getfield 9, 3) := by decide +kernel
theorem dX4_sortAt_17 : decode cX4_sortAt 17 = .ok (.arraylength, 1) := by decide +kernel
theorem dX4_sortAt_18 : decode cX4_sortAt 18 = .ok (.if_icmp .lt 5, 3) := by decide +kernel
theorem dX4_sortAt_21 : decode cX4_sortAt 21 = .ok (.iconst 0, 1) := by decide +kernel
theorem dX4_sortAt_22 : decode cX4_sortAt 22 = .ok (.ireturn, 1) := by decide +kernel
theorem dX4_sortAt_23 : decode cX4_sortAt 23 = .ok (.aload_n 0, 1) := by decide +kernel
theorem dX4_sortAt_24 : decode cX4_sortAt 24 = .ok (.getfield 9, 3) := by decide +kernel
theorem dX4_sortAt_27 : decode cX4_sortAt 27 = .ok (.iload_n 1, 1) := by decide +kernel
theorem dX4_sortAt_28 : decode cX4_sortAt 28 = .ok (.baload, 1) := by decide +kernel
theorem dX4_sortAt_29 : decode cX4_sortAt 29 = .ok (.istore_n 2, 1) := by decide +kernel
theorem dX4_sortAt_30 : decode cX4_sortAt 30 = .ok (.iload_n 2, 1) := by decide +kernel
theorem dX4_sortAt_31 : decode cX4_sortAt 31 = .ok (.bipush 97, 2) := by decide +kernel
theorem dX4_sortAt_33 : decode cX4_sortAt 33 = .ok (.if_icmp .lt 11, 3) := by decide +kernel
theorem dX4_sortAt_36 : decode cX4_sortAt 36 = .ok (.iload_n 2, 1) := by decide +kernel
theorem dX4_sortAt_37 : decode cX4_sortAt 37 = .ok (.bipush 122, 2) := by decide +kernel
theorem dX4_sortAt_39 : decode cX4_sortAt 39 = .ok (.if_icmp .gt 5, 3) := by decide +kernel
theorem dX4_sortAt_42 : decode cX4_sortAt 42 = .ok (.iconst 1, 1) := by decide +kernel
theorem dX4_sortAt_43 : decode cX4_sortAt 43 = .ok (.ireturn, 1) := by decide +kernel
theorem dX4_sortAt_44 : decode cX4_sortAt 44 = .ok (.iload_n 2, 1) := by decide +kernel
theorem dX4_sortAt_45 : decode cX4_sortAt 45 = .ok (.bipush 48, 2) := by decide +kernel
theorem dX4_sortAt_47 : decode cX4_sortAt 47 = .ok (.if_icmp .lt 11, 3) := by decide +kernel
theorem dX4_sortAt_50 : decode cX4_sortAt 50 = .ok (.iload_n 2, 1) := by decide +kernel
theorem dX4_sortAt_51 : decode cX4_sortAt 51 = .ok (.bipush 57, 2) := by decide +kernel
theorem dX4_sortAt_53 : decode cX4_sortAt 53 = .ok (.if_icmp .gt 5, 3) := by decide +kernel
theorem dX4_sortAt_56 : decode cX4_sortAt 56 = .ok (.iconst 2, 1) := by decide +kernel
theorem dX4_sortAt_57 : decode cX4_sortAt 57 = .ok (.ireturn, 1) := by decide +kernel
theorem dX4_sortAt_58 : decode cX4_sortAt 58 = .ok (.iload_n 2, 1) := by decide +kernel
theorem dX4_sortAt_59 : decode cX4_sortAt 59 = .ok (.lookupswitch 39 #[(32, 33), (44, 37), (59, 35)], 33) := by decide +kernel
theorem dX4_sortAt_92 : decode cX4_sortAt 92 = .ok (.iconst 5, 1) := by decide +kernel
theorem dX4_sortAt_93 : decode cX4_sortAt 93 = .ok (.ireturn, 1) := by decide +kernel
theorem dX4_sortAt_94 : decode cX4_sortAt 94 = .ok (.iconst 3, 1) := by decide +kernel
theorem dX4_sortAt_95 : decode cX4_sortAt 95 = .ok (.ireturn, 1) := by decide +kernel
theorem dX4_sortAt_96 : decode cX4_sortAt 96 = .ok (.iconst 4, 1) := by decide +kernel
theorem dX4_sortAt_97 : decode cX4_sortAt 97 = .ok (.ireturn, 1) := by decide +kernel
theorem dX4_sortAt_98 : decode cX4_sortAt 98 = .ok (.bipush 6, 2) := by decide +kernel
theorem dX4_sortAt_100 : decode cX4_sortAt 100 = .ok (.ireturn, 1) := by decide +kernel
theorem dX4_is_0 : decode cX4_is 0 = .ok (.aload_n 0, 1) := by decide +kernel
theorem dX4_is_1 : decode cX4_is 1 = .ok (.getfield 92, 3) := by decide +kernel
theorem dX4_is_4 : decode cX4_is 4 = .ok (.iconst 1, 1) := by decide +kernel
theorem dX4_is_5 : decode cX4_is 5 = .ok (.if_icmp .eq 5, 3) := by decide +kernel
theorem dX4_is_8 : decode cX4_is 8 = .ok (.iconst 0, 1) := by decide +kernel
theorem dX4_is_9 : decode cX4_is 9 = .ok (.ireturn, 1) := by decide +kernel
theorem dX4_is_10 : decode cX4_is 10 = .ok (.lconst 0, 1) := by decide +kernel
theorem dX4_is_11 : decode cX4_is 11 = .ok (.lstore_n 2, 1) := by decide +kernel
theorem dX4_is_12 : decode cX4_is 12 = .ok (.iconst 0, 1) := by decide +kernel
theorem dX4_is_13 : decode cX4_is 13 = .ok (.istore 4, 2) := by decide +kernel
theorem dX4_is_15 : decode cX4_is 15 = .ok (.iload 4, 2) := by decide +kernel
theorem dX4_is_17 : decode cX4_is 17 = .ok (.aload_n 1, 1) := by decide +kernel
theorem dX4_is_18 : decode cX4_is 18 = .ok (.invokevirtual 136, 3) := by decide +kernel
theorem dX4_is_21 : decode cX4_is 21 = .ok (.if_icmp .ge 26, 3) := by decide +kernel
theorem dX4_is_24 : decode cX4_is 24 = .ok (.lload_n 2, 1) := by decide +kernel
theorem dX4_is_25 : decode cX4_is 25 = .ok (.ldc2_w 141, 3) := by decide +kernel
theorem dX4_is_28 : decode cX4_is 28 = .ok (.lmul, 1) := by decide +kernel
theorem dX4_is_29 : decode cX4_is 29 = .ok (.aload_n 1, 1) := by decide +kernel
theorem dX4_is_30 : decode cX4_is 30 = .ok (.iload 4, 2) := by decide +kernel
theorem dX4_is_32 : decode cX4_is 32 = .ok (.invokevirtual 143, 3) := by decide +kernel
theorem dX4_is_35 : decode cX4_is 35 = .ok (.bipush 31, 2) := by decide +kernel
theorem dX4_is_37 : decode cX4_is 37 = .ok (.iand, 1) := by decide +kernel
theorem dX4_is_38 : decode cX4_is 38 = .ok (.i2l, 1) := by decide +kernel
theorem dX4_is_39 : decode cX4_is 39 = .ok (.ladd, 1) := by decide +kernel
theorem dX4_is_40 : decode cX4_is 40 = .ok (.lstore_n 2, 1) := by decide +kernel
theorem dX4_is_41 : decode cX4_is 41 = .ok (.iinc 4 1, 3) := by decide +kernel
theorem dX4_is_44 : decode cX4_is 44 = .ok (.goto (-29), 3) := by decide +kernel
theorem dX4_is_47 : decode cX4_is 47 = .ok (.aload_n 0, 1) := by decide +kernel
theorem dX4_is_48 : decode cX4_is 48 = .ok (.getfield 132, 3) := by decide +kernel
theorem dX4_is_51 : decode cX4_is 51 = .ok (.lload_n 2, 1) := by decide +kernel
theorem dX4_is_52 : decode cX4_is 52 = .ok (.lcmp, 1) := by decide +kernel
theorem dX4_is_53 : decode cX4_is 53 = .ok (.ifCond .ne 7, 3) := by decide +kernel
theorem dX4_is_56 : decode cX4_is 56 = .ok (.iconst 1, 1) := by decide +kernel
theorem dX4_is_57 : decode cX4_is 57 = .ok (.goto 4, 3) := by decide +kernel
theorem dX4_is_60 : decode cX4_is 60 = .ok (.iconst 0, 1) := by decide +kernel
theorem dX4_is_61 : decode cX4_is 61 = .ok (.ireturn, 1) := by decide +kernel
theorem dX4_word_0 : decode cX4_word 0 = .ok (.aload_n 0, 1) := by decide +kernel
theorem dX4_word_1 : decode cX4_word 1 = .ok (.aload_n 1, 1) := by decide +kernel
theorem dX4_word_2 : decode cX4_word 2 = .ok (.invokevirtual 35, 3) := by decide +kernel
theorem dX4_word_5 : decode cX4_word 5 = .ok (.ifCond .ne 9, 3) := by decide +kernel
theorem dX4_word_8 : decode cX4_word 8 = .ok (.aload_n 0, 1) := by decide +kernel
theorem dX4_word_9 : decode cX4_word 9 = .ok (.iconst 1, 1) := by decide +kernel
theorem dX4_word_10 : decode cX4_word 10 = .ok (.invokevirtual 88, 3) := by decide +kernel
theorem dX4_word_13 : decode cX4_word 13 = .ok (.ireturn, 1) := by decide +kernel
theorem dX4_word_14 : decode cX4_word 14 = .ok (.aload_n 0, 1) := by decide +kernel
theorem dX4_word_15 : decode cX4_word 15 = .ok (.invokevirtual 122, 3) := by decide +kernel
theorem dX4_word_18 : decode cX4_word 18 = .ok (.iconst 1, 1) := by decide +kernel
theorem dX4_word_19 : decode cX4_word 19 = .ok (.ireturn, 1) := by decide +kernel
theorem dX4_sign_0 : decode cX4_sign 0 = .ok (.aload_n 0, 1) := by decide +kernel
theorem dX4_sign_1 : decode cX4_sign 1 = .ok (.getfield 92, 3) := by decide +kernel
theorem dX4_sign_4 : decode cX4_sign 4 = .ok (.iload_n 1, 1) := by decide +kernel
theorem dX4_sign_5 : decode cX4_sign 5 = .ok (.if_icmp .eq 9, 3) := by decide +kernel
theorem dX4_sign_8 : decode cX4_sign 8 = .ok (.aload_n 0, 1) := by decide +kernel
theorem dX4_sign_9 : decode cX4_sign 9 = .ok (.iconst 1, 1) := by decide +kernel
theorem dX4_sign_10 : decode cX4_sign 10 = .ok (.invokevirtual 88, 3) := by decide +kernel
theorem dX4_sign_13 : decode cX4_sign 13 = .ok (.ireturn, 1) := by decide +kernel
theorem dX4_sign_14 : decode cX4_sign 14 = .ok (.aload_n 0, 1) := by decide +kernel
theorem dX4_sign_15 : decode cX4_sign 15 = .ok (.invokevirtual 122, 3) := by decide +kernel
theorem dX4_sign_18 : decode cX4_sign 18 = .ok (.iconst 1, 1) := by decide +kernel
theorem dX4_sign_19 : decode cX4_sign 19 = .ok (.ireturn, 1) := by decide +kernel
theorem dX4_whole_0 : decode cX4_whole 0 = .ok (.aload_n 0, 1) := by decide +kernel
theorem dX4_whole_1 : decode cX4_whole 1 = .ok (.getfield 92, 3) := by decide +kernel
theorem dX4_whole_4 : decode cX4_whole 4 = .ok (.iconst 2, 1) := by decide +kernel
theorem dX4_whole_5 : decode cX4_whole 5 = .ok (.if_icmp .eq 9, 3) := by decide +kernel
theorem dX4_whole_8 : decode cX4_whole 8 = .ok (.aload_n 0, 1) := by decide +kernel
theorem dX4_whole_9 : decode cX4_whole 9 = .ok (.iconst 1, 1) := by decide +kernel
theorem dX4_whole_10 : decode cX4_whole 10 = .ok (.invokevirtual 88, 3) := by decide +kernel
theorem dX4_whole_13 : decode cX4_whole 13 = .ok (.ireturn, 1) := by decide +kernel
theorem dX4_whole_14 : decode cX4_whole 14 = .ok (.aload_n 0, 1) := by decide +kernel
theorem dX4_whole_15 : decode cX4_whole 15 = .ok (.getfield 132, 3) := by decide +kernel
theorem dX4_whole_18 : decode cX4_whole 18 = .ok (.iload_n 1, 1) := by decide +kernel
theorem dX4_whole_19 : decode cX4_whole 19 = .ok (.i2l, 1) := by decide +kernel
theorem dX4_whole_20 : decode cX4_whole 20 = .ok (.lcmp, 1) := by decide +kernel
theorem dX4_whole_21 : decode cX4_whole 21 = .ok (.ifCond .lt 13, 3) := by decide +kernel
theorem dX4_whole_24 : decode cX4_whole 24 = .ok (.aload_n 0, 1) := by decide +kernel
theorem dX4_whole_25 : decode cX4_whole 25 = .ok (.getfield 132, 3) := by decide +kernel
theorem dX4_whole_28 : decode cX4_whole 28 = .ok (.iload_n 2, 1) := by decide +kernel
theorem dX4_whole_29 : decode cX4_whole 29 = .ok (.i2l, 1) := by decide +kernel
theorem dX4_whole_30 : decode cX4_whole 30 = .ok (.lcmp, 1) := by decide +kernel
theorem dX4_whole_31 : decode cX4_whole 31 = .ok (.ifCond .le 9, 3) := by decide +kernel
theorem dX4_whole_34 : decode cX4_whole 34 = .ok (.aload_n 0, 1) := by decide +kernel
theorem dX4_whole_35 : decode cX4_whole 35 = .ok (.iconst 4, 1) := by decide +kernel
theorem dX4_whole_36 : decode cX4_whole 36 = .ok (.invokevirtual 88, 3) := by decide +kernel
theorem dX4_whole_39 : decode cX4_whole 39 = .ok (.ireturn, 1) := by decide +kernel
theorem dX4_whole_40 : decode cX4_whole 40 = .ok (.aload_n 0, 1) := by decide +kernel
theorem dX4_whole_41 : decode cX4_whole 41 = .ok (.aload_n 0, 1) := by decide +kernel
theorem dX4_whole_42 : decode cX4_whole 42 = .ok (.getfield 132, 3) := by decide +kernel
theorem dX4_whole_45 : decode cX4_whole 45 = .ok (.l2i, 1) := by decide +kernel
theorem dX4_whole_46 : decode cX4_whole 46 = .ok (.putfield 147, 3) := by decide +kernel
theorem dX4_whole_49 : decode cX4_whole 49 = .ok (.aload_n 0, 1) := by decide +kernel
theorem dX4_whole_50 : decode cX4_whole 50 = .ok (.invokevirtual 122, 3) := by decide +kernel
theorem dX4_whole_53 : decode cX4_whole 53 = .ok (.iconst 1, 1) := by decide +kernel
theorem dX4_whole_54 : decode cX4_whole 54 = .ok (.ireturn, 1) := by decide +kernel
theorem dX4_wordAndWhole_0 : decode cX4_wordAndWhole 0 = .ok (.aload_n 0, 1) := by decide +kernel
theorem dX4_wordAndWhole_1 : decode cX4_wordAndWhole 1 = .ok (.aload_n 1, 1) := by decide +kernel
theorem dX4_wordAndWhole_2 : decode cX4_wordAndWhole 2 = .ok (.invokevirtual 150, 3) := by decide +kernel
theorem dX4_wordAndWhole_5 : decode cX4_wordAndWhole 5 = .ok (.ifCond .eq 16, 3) := by decide +kernel
theorem dX4_wordAndWhole_8 : decode cX4_wordAndWhole 8 = .ok (.aload_n 0, 1) := by decide +kernel
theorem dX4_wordAndWhole_9 : decode cX4_wordAndWhole 9 = .ok (.iload_n 2, 1) := by decide +kernel
theorem dX4_wordAndWhole_10 : decode cX4_wordAndWhole 10 = .ok (.iload_n 3, 1) := by decide +kernel
theorem dX4_wordAndWhole_11 : decode cX4_wordAndWhole 11 = .ok (.invokevirtual 153, 3) := by decide +kernel
theorem dX4_wordAndWhole_14 : decode cX4_wordAndWhole 14 = .ok (.ifCond .eq 7, 3) := by decide +kernel
theorem dX4_wordAndWhole_17 : decode cX4_wordAndWhole 17 = .ok (.iconst 1, 1) := by decide +kernel
theorem dX4_wordAndWhole_18 : decode cX4_wordAndWhole 18 = .ok (.goto 4, 3) := by decide +kernel
theorem dX4_wordAndWhole_21 : decode cX4_wordAndWhole 21 = .ok (.iconst 0, 1) := by decide +kernel
theorem dX4_wordAndWhole_22 : decode cX4_wordAndWhole 22 = .ok (.ireturn, 1) := by decide +kernel
theorem dX4_side_0 : decode cX4_side 0 = .ok (.aload_n 0, 1) := by decide +kernel
theorem dX4_side_1 : decode cX4_side 1 = .ok (.ldc 156, 2) := by decide +kernel
theorem dX4_side_3 : decode cX4_side 3 = .ok (.invokevirtual 35, 3) := by decide +kernel
theorem dX4_side_6 : decode cX4_side 6 = .ok (.ifCond .eq 11, 3) := by decide +kernel
theorem dX4_side_9 : decode cX4_side 9 = .ok (.aload_n 0, 1) := by decide +kernel
theorem dX4_side_10 : decode cX4_side 10 = .ok (.iconst 0, 1) := by decide +kernel
theorem dX4_side_11 : decode cX4_side 11 = .ok (.putfield 147, 3) := by decide +kernel
theorem dX4_side_14 : decode cX4_side 14 = .ok (.goto 60, 3) := by decide +kernel
theorem dX4_side_17 : decode cX4_side 17 = .ok (.aload_n 0, 1) := by decide +kernel
theorem dX4_side_18 : decode cX4_side 18 = .ok (.ldc 158, 2) := by decide +kernel
theorem dX4_side_20 : decode cX4_side 20 = .ok (.invokevirtual 35, 3) := by decide +kernel
theorem dX4_side_23 : decode cX4_side 23 = .ok (.ifCond .eq 11, 3) := by decide +kernel
theorem dX4_side_26 : decode cX4_side 26 = .ok (.aload_n 0, 1) := by decide +kernel
theorem dX4_side_27 : decode cX4_side 27 = .ok (.iconst 1, 1) := by decide +kernel
theorem dX4_side_28 : decode cX4_side 28 = .ok (.putfield 147, 3) := by decide +kernel
theorem dX4_side_31 : decode cX4_side 31 = .ok (.goto 43, 3) := by decide +kernel
theorem dX4_side_34 : decode cX4_side 34 = .ok (.aload_n 0, 1) := by decide +kernel
theorem dX4_side_35 : decode cX4_side 35 = .ok (.ldc 160, 2) := by decide +kernel
theorem dX4_side_37 : decode cX4_side 37 = .ok (.invokevirtual 35, 3) := by decide +kernel
theorem dX4_side_40 : decode cX4_side 40 = .ok (.ifCond .eq 11, 3) := by decide +kernel
theorem dX4_side_43 : decode cX4_side 43 = .ok (.aload_n 0, 1) := by decide +kernel
theorem dX4_side_44 : decode cX4_side 44 = .ok (.iconst 2, 1) := by decide +kernel
theorem dX4_side_45 : decode cX4_side 45 = .ok (.putfield 147, 3) := by decide +kernel
theorem dX4_side_48 : decode cX4_side 48 = .ok (.goto 26, 3) := by decide +kernel
theorem dX4_side_51 : decode cX4_side 51 = .ok (.aload_n 0, 1) := by decide +kernel
theorem dX4_side_52 : decode cX4_side 52 = .ok (.ldc 162, 2) := by decide +kernel
theorem dX4_side_54 : decode cX4_side 54 = .ok (.invokevirtual 35, 3) := by decide +kernel
theorem dX4_side_57 : decode cX4_side 57 = .ok (.ifCond .eq 11, 3) := by decide +kernel
theorem dX4_side_60 : decode cX4_side 60 = .ok (.aload_n 0, 1) := by decide +kernel
theorem dX4_side_61 : decode cX4_side 61 = .ok (.iconst 3, 1) := by decide +kernel
theorem dX4_side_62 : decode cX4_side 62 = .ok (.putfield 147, 3) := by decide +kernel
theorem dX4_side_65 : decode cX4_side 65 = .ok (.goto 9, 3) := by decide +kernel
theorem dX4_side_68 : decode cX4_side 68 = .ok (.aload_n 0, 1) := by decide +kernel
theorem dX4_side_69 : decode cX4_side 69 = .ok (.iconst 1, 1) := by decide +kernel
theorem dX4_side_70 : decode cX4_side 70 = .ok (.invokevirtual 88, 3) := by decide +kernel
theorem dX4_side_73 : decode cX4_side 73 = .ok (.ireturn, 1) := by decide +kernel
theorem dX4_side_74 : decode cX4_side 74 = .ok (.aload_n 0, 1) := by decide +kernel
theorem dX4_side_75 : decode cX4_side 75 = .ok (.invokevirtual 122, 3) := by decide +kernel
theorem dX4_side_78 : decode cX4_side 78 = .ok (.iconst 1, 1) := by decide +kernel
theorem dX4_side_79 : decode cX4_side 79 = .ok (.ireturn, 1) := by decide +kernel
theorem dX4_canBeName_0 : decode cX4_canBeName 0 = .ok (.aload_n 0, 1) := by decide +kernel
theorem dX4_canBeName_1 : decode cX4_canBeName 1 = .ok (.ldc 34, 2) := by decide +kernel
theorem dX4_canBeName_3 : decode cX4_canBeName 3 = .ok (.invokevirtual 35, 3) := by decide +kernel
theorem dX4_canBeName_6 : decode cX4_canBeName 6 = .ok (.ifCond .ne 75, 3) := by decide +kernel
theorem dX4_canBeName_9 : decode cX4_canBeName 9 = .ok (.aload_n 0, 1) := by decide +kernel
theorem dX4_canBeName_10 : decode cX4_canBeName 10 = .ok (.ldc 43, 2) := by decide +kernel
theorem dX4_canBeName_12 : decode cX4_canBeName 12 = .ok (.invokevirtual 35, 3) := by decide +kernel
theorem dX4_canBeName_15 : decode cX4_canBeName 15 = .ok (.ifCond .ne 66, 3) := by decide +kernel
theorem dX4_canBeName_18 : decode cX4_canBeName 18 = .ok (.aload_n 0, 1) := by decide +kernel
theorem dX4_canBeName_19 : decode cX4_canBeName 19 = .ok (.ldc 56, 2) := by decide +kernel
theorem dX4_canBeName_21 : decode cX4_canBeName 21 = .ok (.invokevirtual 35, 3) := by decide +kernel
theorem dX4_canBeName_24 : decode cX4_canBeName 24 = .ok (.ifCond .ne 57, 3) := by decide +kernel
theorem dX4_canBeName_27 : decode cX4_canBeName 27 = .ok (.aload_n 0, 1) := by decide +kernel
theorem dX4_canBeName_28 : decode cX4_canBeName 28 = .ok (.ldc 64, 2) := by decide +kernel
theorem dX4_canBeName_30 : decode cX4_canBeName 30 = .ok (.invokevirtual 35, 3) := by decide +kernel
theorem dX4_canBeName_33 : decode cX4_canBeName 33 = .ok (.ifCond .ne 48, 3) := by decide +kernel
theorem dX4_canBeName_36 : decode cX4_canBeName 36 = .ok (.aload_n 0, 1) := by decide +kernel
theorem dX4_canBeName_37 : decode cX4_canBeName 37 = .ok (.ldc 72, 2) := by decide +kernel
theorem dX4_canBeName_39 : decode cX4_canBeName 39 = .ok (.invokevirtual 35, 3) := by decide +kernel
theorem dX4_canBeName_42 : decode cX4_canBeName 42 = .ok (.ifCond .ne 39, 3) := by decide +kernel
theorem dX4_canBeName_45 : decode cX4_canBeName 45 = .ok (.aload_n 0, 1) := by decide +kernel
theorem dX4_canBeName_46 : decode cX4_canBeName 46 = .ok (.ldc 80, 2) := by decide +kernel
theorem dX4_canBeName_48 : decode cX4_canBeName 48 = .ok (.invokevirtual 35, 3) := by decide +kernel
theorem dX4_canBeName_51 : decode cX4_canBeName 51 = .ok (.ifCond .ne 30, 3) := by decide +kernel
theorem dX4_canBeName_54 : decode cX4_canBeName 54 = .ok (.aload_n 0, 1) := by decide +kernel
theorem dX4_canBeName_55 : decode cX4_canBeName 55 = .ok (.ldc 164, 2) := by decide +kernel
theorem dX4_canBeName_57 : decode cX4_canBeName 57 = .ok (.invokevirtual 35, 3) := by decide +kernel
theorem dX4_canBeName_60 : decode cX4_canBeName 60 = .ok (.ifCond .ne 21, 3) := by decide +kernel
theorem dX4_canBeName_63 : decode cX4_canBeName 63 = .ok (.aload_n 0, 1) := by decide +kernel
theorem dX4_canBeName_64 : decode cX4_canBeName 64 = .ok (.ldc 166, 2) := by decide +kernel
theorem dX4_canBeName_66 : decode cX4_canBeName 66 = .ok (.invokevirtual 35, 3) := by decide +kernel
theorem dX4_canBeName_69 : decode cX4_canBeName 69 = .ok (.ifCond .ne 12, 3) := by decide +kernel
theorem dX4_canBeName_72 : decode cX4_canBeName 72 = .ok (.aload_n 0, 1) := by decide +kernel
theorem dX4_canBeName_73 : decode cX4_canBeName 73 = .ok (.ldc 168, 2) := by decide +kernel
theorem dX4_canBeName_75 : decode cX4_canBeName 75 = .ok (.invokevirtual 35, 3) := by decide +kernel
theorem dX4_canBeName_78 : decode cX4_canBeName 78 = .ok (.ifCond .eq 7, 3) := by decide +kernel
theorem dX4_canBeName_81 : decode cX4_canBeName 81 = .ok (.iconst 1, 1) := by decide +kernel
theorem dX4_canBeName_82 : decode cX4_canBeName 82 = .ok (.goto 4, 3) := by decide +kernel
theorem dX4_canBeName_85 : decode cX4_canBeName 85 = .ok (.iconst 0, 1) := by decide +kernel
theorem dX4_canBeName_86 : decode cX4_canBeName 86 = .ok (.istore_n 1, 1) := by decide +kernel
theorem dX4_canBeName_87 : decode cX4_canBeName 87 = .ok (.aload_n 0, 1) := by decide +kernel
theorem dX4_canBeName_88 : decode cX4_canBeName 88 = .ok (.getfield 92, 3) := by decide +kernel
theorem dX4_canBeName_91 : decode cX4_canBeName 91 = .ok (.iconst 1, 1) := by decide +kernel
theorem dX4_canBeName_92 : decode cX4_canBeName 92 = .ok (.if_icmp .ne 11, 3) := by decide +kernel
theorem dX4_canBeName_95 : decode cX4_canBeName 95 = .ok (.iload_n 1, 1) := by decide +kernel
theorem dX4_canBeName_96 : decode cX4_canBeName 96 = .ok (.ifCond .ne 7, 3) := by decide +kernel
theorem dX4_canBeName_99 : decode cX4_canBeName 99 = .ok (.iconst 1, 1) := by decide +kernel
theorem dX4_canBeName_100 : decode cX4_canBeName 100 = .ok (.goto 4, 3) := by decide +kernel
theorem dX4_canBeName_103 : decode cX4_canBeName 103 = .ok (.iconst 0, 1) := by decide +kernel
theorem dX4_canBeName_104 : decode cX4_canBeName 104 = .ok (.ireturn, 1) := by decide +kernel
theorem dX4_findName_0 : decode cX4_findName 0 = .ok (.iconst 0, 1) := by decide +kernel
theorem dX4_findName_1 : decode cX4_findName 1 = .ok (.istore_n 1, 1) := by decide +kernel
theorem dX4_findName_2 : decode cX4_findName 2 = .ok (.iload_n 1, 1) := by decide +kernel
theorem dX4_findName_3 : decode cX4_findName 3 = .ok (.aload_n 0, 1) := by decide +kernel
theorem dX4_findName_4 : decode cX4_findName 4 = .ok (.getfield 116, 3) := by decide +kernel
theorem dX4_findName_7 : decode cX4_findName 7 = .ok (.if_icmp .ge 36, 3) := by decide +kernel
theorem dX4_findName_10 : decode cX4_findName 10 = .ok (.iload_n 1, 1) := by decide +kernel
theorem dX4_findName_11 : decode cX4_findName 11 = .ok (.bipush 12, 2) := by decide +kernel
theorem dX4_findName_13 : decode cX4_findName 13 = .ok (.if_icmp .ge 30, 3) := by decide +kernel
theorem dX4_findName_16 : decode cX4_findName 16 = .ok (.aload_n 0, 1) := by decide +kernel
theorem dX4_findName_17 : decode cX4_findName 17 = .ok (.getfield 22, 3) := by decide +kernel
theorem dX4_findName_20 : decode cX4_findName 20 = .ok (.iload_n 1, 1) := by decide +kernel
theorem dX4_findName_21 : decode cX4_findName 21 = .ok (.laload, 1) := by decide +kernel
theorem dX4_findName_22 : decode cX4_findName 22 = .ok (.aload_n 0, 1) := by decide +kernel
theorem dX4_findName_23 : decode cX4_findName 23 = .ok (.getfield 132, 3) := by decide +kernel
theorem dX4_findName_26 : decode cX4_findName 26 = .ok (.lcmp, 1) := by decide +kernel
theorem dX4_findName_27 : decode cX4_findName 27 = .ok (.ifCond .ne 10, 3) := by decide +kernel
theorem dX4_findName_30 : decode cX4_findName 30 = .ok (.aload_n 0, 1) := by decide +kernel
theorem dX4_findName_31 : decode cX4_findName 31 = .ok (.getfield 26, 3) := by decide +kernel
theorem dX4_findName_34 : decode cX4_findName 34 = .ok (.iload_n 1, 1) := by decide +kernel
theorem dX4_findName_35 : decode cX4_findName 35 = .ok (.iaload, 1) := by decide +kernel
theorem dX4_findName_36 : decode cX4_findName 36 = .ok (.ireturn, 1) := by decide +kernel
theorem dX4_findName_37 : decode cX4_findName 37 = .ok (.iinc 1 1, 3) := by decide +kernel
theorem dX4_findName_40 : decode cX4_findName 40 = .ok (.goto (-38), 3) := by decide +kernel
theorem dX4_findName_43 : decode cX4_findName 43 = .ok (.iconst (-1), 1) := by decide +kernel
theorem dX4_findName_44 : decode cX4_findName 44 = .ok (.ireturn, 1) := by decide +kernel
theorem dX4_newName_0 : decode cX4_newName 0 = .ok (.aload_n 0, 1) := by decide +kernel
theorem dX4_newName_1 : decode cX4_newName 1 = .ok (.invokevirtual 170, 3) := by decide +kernel
theorem dX4_newName_4 : decode cX4_newName 4 = .ok (.ifCond .ne 9, 3) := by decide +kernel
theorem dX4_newName_7 : decode cX4_newName 7 = .ok (.aload_n 0, 1) := by decide +kernel
theorem dX4_newName_8 : decode cX4_newName 8 = .ok (.iconst 1, 1) := by decide +kernel
theorem dX4_newName_9 : decode cX4_newName 9 = .ok (.invokevirtual 88, 3) := by decide +kernel
theorem dX4_newName_12 : decode cX4_newName 12 = .ok (.ireturn, 1) := by decide +kernel
theorem dX4_newName_13 : decode cX4_newName 13 = .ok (.aload_n 0, 1) := by decide +kernel
theorem dX4_newName_14 : decode cX4_newName 14 = .ok (.invokevirtual 173, 3) := by decide +kernel
theorem dX4_newName_17 : decode cX4_newName 17 = .ok (.iconst (-1), 1) := by decide +kernel
theorem dX4_newName_18 : decode cX4_newName 18 = .ok (.if_icmp .eq 9, 3) := by decide +kernel
theorem dX4_newName_21 : decode cX4_newName 21 = .ok (.aload_n 0, 1) := by decide +kernel
theorem dX4_newName_22 : decode cX4_newName 22 = .ok (.iconst 3, 1) := by decide +kernel
theorem dX4_newName_23 : decode cX4_newName 23 = .ok (.invokevirtual 88, 3) := by decide +kernel
theorem dX4_newName_26 : decode cX4_newName 26 = .ok (.ireturn, 1) := by decide +kernel
theorem dX4_newName_27 : decode cX4_newName 27 = .ok (.aload_n 0, 1) := by decide +kernel
theorem dX4_newName_28 : decode cX4_newName 28 = .ok (.getfield 116, 3) := by decide +kernel
theorem dX4_newName_31 : decode cX4_newName 31 = .ok (.bipush 12, 2) := by decide +kernel
theorem dX4_newName_33 : decode cX4_newName 33 = .ok (.if_icmp .ge 36, 3) := by decide +kernel
theorem dX4_newName_36 : decode cX4_newName 36 = .ok (.aload_n 0, 1) := by decide +kernel
theorem dX4_newName_37 : decode cX4_newName 37 = .ok (.getfield 22, 3) := by decide +kernel
theorem dX4_newName_40 : decode cX4_newName 40 = .ok (.aload_n 0, 1) := by decide +kernel
theorem dX4_newName_41 : decode cX4_newName 41 = .ok (.getfield 116, 3) := by decide +kernel
theorem dX4_newName_44 : decode cX4_newName 44 = .ok (.aload_n 0, 1) := by decide +kernel
theorem dX4_newName_45 : decode cX4_newName 45 = .ok (.getfield 132, 3) := by decide +kernel
theorem dX4_newName_48 : decode cX4_newName 48 = .ok (.lastore, 1) := by decide +kernel
theorem dX4_newName_49 : decode cX4_newName 49 = .ok (.aload_n 0, 1) := by decide +kernel
theorem dX4_newName_50 : decode cX4_newName 50 = .ok (.getfield 26, 3) := by decide +kernel
theorem dX4_newName_53 : decode cX4_newName 53 = .ok (.aload_n 0, 1) := by decide +kernel
theorem dX4_newName_54 : decode cX4_newName 54 = .ok (.getfield 116, 3) := by decide +kernel
theorem dX4_newName_57 : decode cX4_newName 57 = .ok (.iload_n 1, 1) := by decide +kernel
theorem dX4_newName_58 : decode cX4_newName 58 = .ok (.iastore, 1) := by decide +kernel
theorem dX4_newName_59 : decode cX4_newName 59 = .ok (.aload_n 0, 1) := by decide +kernel
theorem dX4_newName_60 : decode cX4_newName 60 = .ok (.dup, 1) := by decide +kernel
theorem dX4_newName_61 : decode cX4_newName 61 = .ok (.getfield 116, 3) := by decide +kernel
theorem dX4_newName_64 : decode cX4_newName 64 = .ok (.iconst 1, 1) := by decide +kernel
theorem dX4_newName_65 : decode cX4_newName 65 = .ok (.iadd, 1) := by decide +kernel
theorem dX4_newName_66 : decode cX4_newName 66 = .ok (.putfield 116, 3) := by decide +kernel
theorem dX4_newName_69 : decode cX4_newName 69 = .ok (.aload_n 0, 1) := by decide +kernel
theorem dX4_newName_70 : decode cX4_newName 70 = .ok (.invokevirtual 122, 3) := by decide +kernel
theorem dX4_newName_73 : decode cX4_newName 73 = .ok (.iconst 1, 1) := by decide +kernel
theorem dX4_newName_74 : decode cX4_newName 74 = .ok (.ireturn, 1) := by decide +kernel
theorem dX4_placeBut_0 : decode cX4_placeBut 0 = .ok (.aload_n 0, 1) := by decide +kernel
theorem dX4_placeBut_1 : decode cX4_placeBut 1 = .ok (.invokevirtual 170, 3) := by decide +kernel
theorem dX4_placeBut_4 : decode cX4_placeBut 4 = .ok (.ifCond .ne 9, 3) := by decide +kernel
theorem dX4_placeBut_7 : decode cX4_placeBut 7 = .ok (.aload_n 0, 1) := by decide +kernel
theorem dX4_placeBut_8 : decode cX4_placeBut 8 = .ok (.iconst 1, 1) := by decide +kernel
theorem dX4_placeBut_9 : decode cX4_placeBut 9 = .ok (.invokevirtual 88, 3) := by decide +kernel
theorem dX4_placeBut_12 : decode cX4_placeBut 12 = .ok (.ireturn, 1) := by decide +kernel
theorem dX4_placeBut_13 : decode cX4_placeBut 13 = .ok (.aload_n 0, 1) := by decide +kernel
theorem dX4_placeBut_14 : decode cX4_placeBut 14 = .ok (.invokevirtual 173, 3) := by decide +kernel
theorem dX4_placeBut_17 : decode cX4_placeBut 17 = .ok (.istore_n 2, 1) := by decide +kernel
theorem dX4_placeBut_18 : decode cX4_placeBut 18 = .ok (.iload_n 2, 1) := by decide +kernel
theorem dX4_placeBut_19 : decode cX4_placeBut 19 = .ok (.iconst (-1), 1) := by decide +kernel
theorem dX4_placeBut_20 : decode cX4_placeBut 20 = .ok (.if_icmp .eq 9, 3) := by decide +kernel
theorem dX4_placeBut_23 : decode cX4_placeBut 23 = .ok (.iload_n 2, 1) := by decide +kernel
theorem dX4_placeBut_24 : decode cX4_placeBut 24 = .ok (.bipush 8, 2) := by decide +kernel
theorem dX4_placeBut_26 : decode cX4_placeBut 26 = .ok (.if_icmp .lt 9, 3) := by decide +kernel
theorem dX4_placeBut_29 : decode cX4_placeBut 29 = .ok (.aload_n 0, 1) := by decide +kernel
theorem dX4_placeBut_30 : decode cX4_placeBut 30 = .ok (.iconst 2, 1) := by decide +kernel
theorem dX4_placeBut_31 : decode cX4_placeBut 31 = .ok (.invokevirtual 88, 3) := by decide +kernel
theorem dX4_placeBut_34 : decode cX4_placeBut 34 = .ok (.ireturn, 1) := by decide +kernel
theorem dX4_placeBut_35 : decode cX4_placeBut 35 = .ok (.iload_n 2, 1) := by decide +kernel
theorem dX4_placeBut_36 : decode cX4_placeBut 36 = .ok (.iload_n 1, 1) := by decide +kernel
theorem dX4_placeBut_37 : decode cX4_placeBut 37 = .ok (.if_icmp .ne 9, 3) := by decide +kernel
theorem dX4_placeBut_40 : decode cX4_placeBut 40 = .ok (.aload_n 0, 1) := by decide +kernel
theorem dX4_placeBut_41 : decode cX4_placeBut 41 = .ok (.iconst 3, 1) := by decide +kernel
theorem dX4_placeBut_42 : decode cX4_placeBut 42 = .ok (.invokevirtual 88, 3) := by decide +kernel
theorem dX4_placeBut_45 : decode cX4_placeBut 45 = .ok (.ireturn, 1) := by decide +kernel
theorem dX4_placeBut_46 : decode cX4_placeBut 46 = .ok (.aload_n 0, 1) := by decide +kernel
theorem dX4_placeBut_47 : decode cX4_placeBut 47 = .ok (.iload_n 2, 1) := by decide +kernel
theorem dX4_placeBut_48 : decode cX4_placeBut 48 = .ok (.putfield 147, 3) := by decide +kernel
theorem dX4_placeBut_51 : decode cX4_placeBut 51 = .ok (.aload_n 0, 1) := by decide +kernel
theorem dX4_placeBut_52 : decode cX4_placeBut 52 = .ok (.invokevirtual 122, 3) := by decide +kernel
theorem dX4_placeBut_55 : decode cX4_placeBut 55 = .ok (.iconst 1, 1) := by decide +kernel
theorem dX4_placeBut_56 : decode cX4_placeBut 56 = .ok (.ireturn, 1) := by decide +kernel
theorem dX4_someWalker_0 : decode cX4_someWalker 0 = .ok (.aload_n 0, 1) := by decide +kernel
theorem dX4_someWalker_1 : decode cX4_someWalker 1 = .ok (.invokevirtual 170, 3) := by decide +kernel
theorem dX4_someWalker_4 : decode cX4_someWalker 4 = .ok (.ifCond .ne 9, 3) := by decide +kernel
theorem dX4_someWalker_7 : decode cX4_someWalker 7 = .ok (.aload_n 0, 1) := by decide +kernel
theorem dX4_someWalker_8 : decode cX4_someWalker 8 = .ok (.iconst 1, 1) := by decide +kernel
theorem dX4_someWalker_9 : decode cX4_someWalker 9 = .ok (.invokevirtual 88, 3) := by decide +kernel
theorem dX4_someWalker_12 : decode cX4_someWalker 12 = .ok (.ireturn, 1) := by decide +kernel
theorem dX4_someWalker_13 : decode cX4_someWalker 13 = .ok (.aload_n 0, 1) := by decide +kernel
theorem dX4_someWalker_14 : decode cX4_someWalker 14 = .ok (.invokevirtual 173, 3) := by decide +kernel
theorem dX4_someWalker_17 : decode cX4_someWalker 17 = .ok (.istore_n 1, 1) := by decide +kernel
theorem dX4_someWalker_18 : decode cX4_someWalker 18 = .ok (.iload_n 1, 1) := by decide +kernel
theorem dX4_someWalker_19 : decode cX4_someWalker 19 = .ok (.bipush 8, 2) := by decide +kernel
theorem dX4_someWalker_21 : decode cX4_someWalker 21 = .ok (.if_icmp .ge 9, 3) := by decide +kernel
theorem dX4_someWalker_24 : decode cX4_someWalker 24 = .ok (.aload_n 0, 1) := by decide +kernel
theorem dX4_someWalker_25 : decode cX4_someWalker 25 = .ok (.iconst 2, 1) := by decide +kernel
theorem dX4_someWalker_26 : decode cX4_someWalker 26 = .ok (.invokevirtual 88, 3) := by decide +kernel
theorem dX4_someWalker_29 : decode cX4_someWalker 29 = .ok (.ireturn, 1) := by decide +kernel
theorem dX4_someWalker_30 : decode cX4_someWalker 30 = .ok (.aload_n 0, 1) := by decide +kernel
theorem dX4_someWalker_31 : decode cX4_someWalker 31 = .ok (.iload_n 1, 1) := by decide +kernel
theorem dX4_someWalker_32 : decode cX4_someWalker 32 = .ok (.bipush 8, 2) := by decide +kernel
theorem dX4_someWalker_34 : decode cX4_someWalker 34 = .ok (.isub, 1) := by decide +kernel
theorem dX4_someWalker_35 : decode cX4_someWalker 35 = .ok (.putfield 147, 3) := by decide +kernel
theorem dX4_someWalker_38 : decode cX4_someWalker 38 = .ok (.aload_n 0, 1) := by decide +kernel
theorem dX4_someWalker_39 : decode cX4_someWalker 39 = .ok (.invokevirtual 122, 3) := by decide +kernel
theorem dX4_someWalker_42 : decode cX4_someWalker 42 = .ok (.iconst 1, 1) := by decide +kernel
theorem dX4_someWalker_43 : decode cX4_someWalker 43 = .ok (.ireturn, 1) := by decide +kernel
theorem dX4_hasRoom_0 : decode cX4_hasRoom 0 = .ok (.aload_n 0, 1) := by decide +kernel
theorem dX4_hasRoom_1 : decode cX4_hasRoom 1 = .ok (.getfield 18, 3) := by decide +kernel
theorem dX4_hasRoom_4 : decode cX4_hasRoom 4 = .ok (.invokevirtual 176, 3) := by decide +kernel
theorem dX4_hasRoom_7 : decode cX4_hasRoom 7 = .ok (.ifCond .ne 10, 3) := by decide +kernel
theorem dX4_hasRoom_10 : decode cX4_hasRoom 10 = .ok (.aload_n 0, 1) := by decide +kernel
theorem dX4_hasRoom_11 : decode cX4_hasRoom 11 = .ok (.bipush 6, 2) := by decide +kernel
theorem dX4_hasRoom_13 : decode cX4_hasRoom 13 = .ok (.invokevirtual 88, 3) := by decide +kernel
theorem dX4_hasRoom_16 : decode cX4_hasRoom 16 = .ok (.ireturn, 1) := by decide +kernel
theorem dX4_hasRoom_17 : decode cX4_hasRoom 17 = .ok (.iload_n 1, 1) := by decide +kernel
theorem dX4_hasRoom_18 : decode cX4_hasRoom 18 = .ok (.iload_n 2, 1) := by decide +kernel
theorem dX4_hasRoom_19 : decode cX4_hasRoom 19 = .ok (.if_icmp .lt 9, 3) := by decide +kernel
theorem dX4_hasRoom_22 : decode cX4_hasRoom 22 = .ok (.aload_n 0, 1) := by decide +kernel
theorem dX4_hasRoom_23 : decode cX4_hasRoom 23 = .ok (.iconst 5, 1) := by decide +kernel
theorem dX4_hasRoom_24 : decode cX4_hasRoom 24 = .ok (.invokevirtual 88, 3) := by decide +kernel
theorem dX4_hasRoom_27 : decode cX4_hasRoom 27 = .ok (.ireturn, 1) := by decide +kernel
theorem dX4_hasRoom_28 : decode cX4_hasRoom 28 = .ok (.aload_n 0, 1) := by decide +kernel
theorem dX4_hasRoom_29 : decode cX4_hasRoom 29 = .ok (.invokevirtual 122, 3) := by decide +kernel
theorem dX4_hasRoom_32 : decode cX4_hasRoom 32 = .ok (.iconst 1, 1) := by decide +kernel
theorem dX4_hasRoom_33 : decode cX4_hasRoom 33 = .ok (.ireturn, 1) := by decide +kernel
theorem dX4_worldLine_0 : decode cX4_worldLine 0 = .ok (.aload_n 0, 1) := by decide +kernel
theorem dX4_worldLine_1 : decode cX4_worldLine 1 = .ok (.getfield 18, 3) := by decide +kernel
theorem dX4_worldLine_4 : decode cX4_worldLine 4 = .ok (.invokevirtual 176, 3) := by decide +kernel
theorem dX4_worldLine_7 : decode cX4_worldLine 7 = .ok (.ifCond .eq 9, 3) := by decide +kernel
theorem dX4_worldLine_10 : decode cX4_worldLine 10 = .ok (.aload_n 0, 1) := by decide +kernel
theorem dX4_worldLine_11 : decode cX4_worldLine 11 = .ok (.iconst 3, 1) := by decide +kernel
theorem dX4_worldLine_12 : decode cX4_worldLine 12 = .ok (.invokevirtual 88, 3) := by decide +kernel
theorem dX4_worldLine_15 : decode cX4_worldLine 15 = .ok (.ireturn, 1) := by decide +kernel
theorem dX4_worldLine_16 : decode cX4_worldLine 16 = .ok (.aload_n 0, 1) := by decide +kernel
theorem dX4_worldLine_17 : decode cX4_worldLine 17 = .ok (.invokevirtual 122, 3) := by decide +kernel
theorem dX4_worldLine_20 : decode cX4_worldLine 20 = .ok (.aload_n 0, 1) := by decide +kernel
theorem dX4_worldLine_21 : decode cX4_worldLine 21 = .ok (.ldc 179, 2) := by decide +kernel
theorem dX4_worldLine_23 : decode cX4_worldLine 23 = .ok (.iconst 5, 1) := by decide +kernel
theorem dX4_worldLine_24 : decode cX4_worldLine 24 = .ok (.bipush 60, 2) := by decide +kernel
theorem dX4_worldLine_26 : decode cX4_worldLine 26 = .ok (.invokevirtual 181, 3) := by decide +kernel
theorem dX4_worldLine_29 : decode cX4_worldLine 29 = .ok (.ifCond .ne 5, 3) := by decide +kernel
theorem dX4_worldLine_32 : decode cX4_worldLine 32 = .ok (.iconst 0, 1) := by decide +kernel
theorem dX4_worldLine_33 : decode cX4_worldLine 33 = .ok (.ireturn, 1) := by decide +kernel
theorem dX4_worldLine_34 : decode cX4_worldLine 34 = .ok (.aload_n 0, 1) := by decide +kernel
theorem dX4_worldLine_35 : decode cX4_worldLine 35 = .ok (.getfield 18, 3) := by decide +kernel
theorem dX4_worldLine_38 : decode cX4_worldLine 38 = .ok (.aload_n 0, 1) := by decide +kernel
theorem dX4_worldLine_39 : decode cX4_worldLine 39 = .ok (.getfield 147, 3) := by decide +kernel
theorem dX4_worldLine_42 : decode cX4_worldLine 42 = .ok (.putfield 185, 3) := by decide +kernel
theorem dX4_worldLine_45 : decode cX4_worldLine 45 = .ok (.iconst 1, 1) := by decide +kernel
theorem dX4_worldLine_46 : decode cX4_worldLine 46 = .ok (.ireturn, 1) := by decide +kernel
theorem dX4_rainLine_0 : decode cX4_rainLine 0 = .ok (.aload_n 0, 1) := by decide +kernel
theorem dX4_rainLine_1 : decode cX4_rainLine 1 = .ok (.getfield 18, 3) := by decide +kernel
theorem dX4_rainLine_4 : decode cX4_rainLine 4 = .ok (.getfield 188, 3) := by decide +kernel
theorem dX4_rainLine_7 : decode cX4_rainLine 7 = .ok (.aload_n 0, 1) := by decide +kernel
theorem dX4_rainLine_8 : decode cX4_rainLine 8 = .ok (.getfield 18, 3) := by decide +kernel
theorem dX4_rainLine_11 : decode cX4_rainLine 11 = .ok (.getfield 45, 3) := by decide +kernel
theorem dX4_rainLine_14 : decode cX4_rainLine 14 = .ok (.aaload, 1) := by decide +kernel
theorem dX4_rainLine_15 : decode cX4_rainLine 15 = .ok (.astore_n 1, 1) := by decide +kernel
theorem dX4_rainLine_16 : decode cX4_rainLine 16 = .ok (.aload_n 0, 1) := by decide +kernel
theorem dX4_rainLine_17 : decode cX4_rainLine 17 = .ok (.ldc 191, 2) := by decide +kernel
theorem dX4_rainLine_19 : decode cX4_rainLine 19 = .ok (.iconst 0, 1) := by decide +kernel
theorem dX4_rainLine_20 : decode cX4_rainLine 20 = .ok (.bipush 9, 2) := by decide +kernel
theorem dX4_rainLine_22 : decode cX4_rainLine 22 = .ok (.invokevirtual 181, 3) := by decide +kernel
theorem dX4_rainLine_25 : decode cX4_rainLine 25 = .ok (.ifCond .ne 5, 3) := by decide +kernel
theorem dX4_rainLine_28 : decode cX4_rainLine 28 = .ok (.iconst 0, 1) := by decide +kernel
theorem dX4_rainLine_29 : decode cX4_rainLine 29 = .ok (.ireturn, 1) := by decide +kernel
theorem dX4_rainLine_30 : decode cX4_rainLine 30 = .ok (.aload_n 1, 1) := by decide +kernel
theorem dX4_rainLine_31 : decode cX4_rainLine 31 = .ok (.aload_n 0, 1) := by decide +kernel
theorem dX4_rainLine_32 : decode cX4_rainLine 32 = .ok (.getfield 147, 3) := by decide +kernel
theorem dX4_rainLine_35 : decode cX4_rainLine 35 = .ok (.putfield 193, 3) := by decide +kernel
theorem dX4_rainLine_38 : decode cX4_rainLine 38 = .ok (.aload_n 0, 1) := by decide +kernel
theorem dX4_rainLine_39 : decode cX4_rainLine 39 = .ok (.ldc 197, 2) := by decide +kernel
theorem dX4_rainLine_41 : decode cX4_rainLine 41 = .ok (.iconst 1, 1) := by decide +kernel
theorem dX4_rainLine_42 : decode cX4_rainLine 42 = .ok (.bipush 9, 2) := by decide +kernel
theorem dX4_rainLine_44 : decode cX4_rainLine 44 = .ok (.invokevirtual 181, 3) := by decide +kernel
theorem dX4_rainLine_47 : decode cX4_rainLine 47 = .ok (.ifCond .ne 5, 3) := by decide +kernel
theorem dX4_rainLine_50 : decode cX4_rainLine 50 = .ok (.iconst 0, 1) := by decide +kernel
theorem dX4_rainLine_51 : decode cX4_rainLine 51 = .ok (.ireturn, 1) := by decide +kernel
theorem dX4_rainLine_52 : decode cX4_rainLine 52 = .ok (.aload_n 1, 1) := by decide +kernel
theorem dX4_rainLine_53 : decode cX4_rainLine 53 = .ok (.aload_n 0, 1) := by decide +kernel
theorem dX4_rainLine_54 : decode cX4_rainLine 54 = .ok (.getfield 147, 3) := by decide +kernel
theorem dX4_rainLine_57 : decode cX4_rainLine 57 = .ok (.putfield 199, 3) := by decide +kernel
theorem dX4_rainLine_60 : decode cX4_rainLine 60 = .ok (.aload_n 0, 1) := by decide +kernel
theorem dX4_rainLine_61 : decode cX4_rainLine 61 = .ok (.ldc 201, 2) := by decide +kernel
theorem dX4_rainLine_63 : decode cX4_rainLine 63 = .ok (.invokevirtual 150, 3) := by decide +kernel
theorem dX4_rainLine_66 : decode cX4_rainLine 66 = .ok (.ifCond .eq 10, 3) := by decide +kernel
theorem dX4_rainLine_69 : decode cX4_rainLine 69 = .ok (.aload_n 0, 1) := by decide +kernel
theorem dX4_rainLine_70 : decode cX4_rainLine 70 = .ok (.invokevirtual 203, 3) := by decide +kernel
theorem dX4_rainLine_73 : decode cX4_rainLine 73 = .ok (.ifCond .ne 5, 3) := by decide +kernel
theorem dX4_rainLine_76 : decode cX4_rainLine 76 = .ok (.iconst 0, 1) := by decide +kernel
theorem dX4_rainLine_77 : decode cX4_rainLine 77 = .ok (.ireturn, 1) := by decide +kernel
theorem dX4_rainLine_78 : decode cX4_rainLine 78 = .ok (.aload_n 1, 1) := by decide +kernel
theorem dX4_rainLine_79 : decode cX4_rainLine 79 = .ok (.aload_n 0, 1) := by decide +kernel
theorem dX4_rainLine_80 : decode cX4_rainLine 80 = .ok (.getfield 147, 3) := by decide +kernel
theorem dX4_rainLine_83 : decode cX4_rainLine 83 = .ok (.putfield 206, 3) := by decide +kernel
theorem dX4_rainLine_86 : decode cX4_rainLine 86 = .ok (.aload_n 0, 1) := by decide +kernel
theorem dX4_rainLine_87 : decode cX4_rainLine 87 = .ok (.iconst 0, 1) := by decide +kernel
theorem dX4_rainLine_88 : decode cX4_rainLine 88 = .ok (.bipush 9, 2) := by decide +kernel
theorem dX4_rainLine_90 : decode cX4_rainLine 90 = .ok (.invokevirtual 153, 3) := by decide +kernel
theorem dX4_rainLine_93 : decode cX4_rainLine 93 = .ok (.ifCond .ne 5, 3) := by decide +kernel
theorem dX4_rainLine_96 : decode cX4_rainLine 96 = .ok (.iconst 0, 1) := by decide +kernel
theorem dX4_rainLine_97 : decode cX4_rainLine 97 = .ok (.ireturn, 1) := by decide +kernel
theorem dX4_rainLine_98 : decode cX4_rainLine 98 = .ok (.aload_n 1, 1) := by decide +kernel
theorem dX4_rainLine_99 : decode cX4_rainLine 99 = .ok (.aload_n 0, 1) := by decide +kernel
theorem dX4_rainLine_100 : decode cX4_rainLine 100 = .ok (.getfield 147, 3) := by decide +kernel
theorem dX4_rainLine_103 : decode cX4_rainLine 103 = .ok (.putfield 209, 3) := by decide +kernel
theorem dX4_rainLine_106 : decode cX4_rainLine 106 = .ok (.aload_n 0, 1) := by decide +kernel
theorem dX4_rainLine_107 : decode cX4_rainLine 107 = .ok (.ldc 211, 2) := by decide +kernel
theorem dX4_rainLine_109 : decode cX4_rainLine 109 = .ok (.iconst 0, 1) := by decide +kernel
theorem dX4_rainLine_110 : decode cX4_rainLine 110 = .ok (.bipush 100, 2) := by decide +kernel
theorem dX4_rainLine_112 : decode cX4_rainLine 112 = .ok (.invokevirtual 181, 3) := by decide +kernel
theorem dX4_rainLine_115 : decode cX4_rainLine 115 = .ok (.ifCond .ne 5, 3) := by decide +kernel
theorem dX4_rainLine_118 : decode cX4_rainLine 118 = .ok (.iconst 0, 1) := by decide +kernel
theorem dX4_rainLine_119 : decode cX4_rainLine 119 = .ok (.ireturn, 1) := by decide +kernel
theorem dX4_rainLine_120 : decode cX4_rainLine 120 = .ok (.aload_n 1, 1) := by decide +kernel
theorem dX4_rainLine_121 : decode cX4_rainLine 121 = .ok (.aload_n 0, 1) := by decide +kernel
theorem dX4_rainLine_122 : decode cX4_rainLine 122 = .ok (.getfield 147, 3) := by decide +kernel
theorem dX4_rainLine_125 : decode cX4_rainLine 125 = .ok (.putfield 213, 3) := by decide +kernel
theorem dX4_rainLine_128 : decode cX4_rainLine 128 = .ok (.aload_n 0, 1) := by decide +kernel
theorem dX4_rainLine_129 : decode cX4_rainLine 129 = .ok (.getfield 18, 3) := by decide +kernel
theorem dX4_rainLine_132 : decode cX4_rainLine 132 = .ok (.dup, 1) := by decide +kernel
theorem dX4_rainLine_133 : decode cX4_rainLine 133 = .ok (.getfield 45, 3) := by decide +kernel
theorem dX4_rainLine_136 : decode cX4_rainLine 136 = .ok (.iconst 1, 1) := by decide +kernel
theorem dX4_rainLine_137 : decode cX4_rainLine 137 = .ok (.iadd, 1) := by decide +kernel
theorem dX4_rainLine_138 : decode cX4_rainLine 138 = .ok (.putfield 45, 3) := by decide +kernel
theorem dX4_rainLine_141 : decode cX4_rainLine 141 = .ok (.iconst 1, 1) := by decide +kernel
theorem dX4_rainLine_142 : decode cX4_rainLine 142 = .ok (.ireturn, 1) := by decide +kernel
theorem dX4_placeLine_0 : decode cX4_placeLine 0 = .ok (.aload_n 0, 1) := by decide +kernel
theorem dX4_placeLine_1 : decode cX4_placeLine 1 = .ok (.aload_n 0, 1) := by decide +kernel
theorem dX4_placeLine_2 : decode cX4_placeLine 2 = .ok (.getfield 18, 3) := by decide +kernel
theorem dX4_placeLine_5 : decode cX4_placeLine 5 = .ok (.getfield 58, 3) := by decide +kernel
theorem dX4_placeLine_8 : decode cX4_placeLine 8 = .ok (.invokevirtual 215, 3) := by decide +kernel
theorem dX4_placeLine_11 : decode cX4_placeLine 11 = .ok (.ifCond .ne 5, 3) := by decide +kernel
theorem dX4_placeLine_14 : decode cX4_placeLine 14 = .ok (.iconst 0, 1) := by decide +kernel
theorem dX4_placeLine_15 : decode cX4_placeLine 15 = .ok (.ireturn, 1) := by decide +kernel
theorem dX4_placeLine_16 : decode cX4_placeLine 16 = .ok (.iconst (-1), 1) := by decide +kernel
theorem dX4_placeLine_17 : decode cX4_placeLine 17 = .ok (.istore_n 1, 1) := by decide +kernel
theorem dX4_placeLine_18 : decode cX4_placeLine 18 = .ok (.aload_n 0, 1) := by decide +kernel
theorem dX4_placeLine_19 : decode cX4_placeLine 19 = .ok (.ldc 164, 2) := by decide +kernel
theorem dX4_placeLine_21 : decode cX4_placeLine 21 = .ok (.invokevirtual 35, 3) := by decide +kernel
theorem dX4_placeLine_24 : decode cX4_placeLine 24 = .ok (.ifCond .eq 12, 3) := by decide +kernel
theorem dX4_placeLine_27 : decode cX4_placeLine 27 = .ok (.iconst 0, 1) := by decide +kernel
theorem dX4_placeLine_28 : decode cX4_placeLine 28 = .ok (.istore_n 1, 1) := by decide +kernel
theorem dX4_placeLine_29 : decode cX4_placeLine 29 = .ok (.aload_n 0, 1) := by decide +kernel
theorem dX4_placeLine_30 : decode cX4_placeLine 30 = .ok (.invokevirtual 122, 3) := by decide +kernel
theorem dX4_placeLine_33 : decode cX4_placeLine 33 = .ok (.goto 31, 3) := by decide +kernel
theorem dX4_placeLine_36 : decode cX4_placeLine 36 = .ok (.aload_n 0, 1) := by decide +kernel
theorem dX4_placeLine_37 : decode cX4_placeLine 37 = .ok (.ldc 166, 2) := by decide +kernel
theorem dX4_placeLine_39 : decode cX4_placeLine 39 = .ok (.invokevirtual 35, 3) := by decide +kernel
theorem dX4_placeLine_42 : decode cX4_placeLine 42 = .ok (.ifCond .eq 22, 3) := by decide +kernel
theorem dX4_placeLine_45 : decode cX4_placeLine 45 = .ok (.aload_n 0, 1) := by decide +kernel
theorem dX4_placeLine_46 : decode cX4_placeLine 46 = .ok (.ldc 166, 2) := by decide +kernel
theorem dX4_placeLine_48 : decode cX4_placeLine 48 = .ok (.iconst 0, 1) := by decide +kernel
theorem dX4_placeLine_49 : decode cX4_placeLine 49 = .ok (.bipush 9, 2) := by decide +kernel
theorem dX4_placeLine_51 : decode cX4_placeLine 51 = .ok (.invokevirtual 181, 3) := by decide +kernel
theorem dX4_placeLine_54 : decode cX4_placeLine 54 = .ok (.ifCond .ne 5, 3) := by decide +kernel
theorem dX4_placeLine_57 : decode cX4_placeLine 57 = .ok (.iconst 0, 1) := by decide +kernel
theorem dX4_placeLine_58 : decode cX4_placeLine 58 = .ok (.ireturn, 1) := by decide +kernel
theorem dX4_placeLine_59 : decode cX4_placeLine 59 = .ok (.aload_n 0, 1) := by decide +kernel
theorem dX4_placeLine_60 : decode cX4_placeLine 60 = .ok (.getfield 147, 3) := by decide +kernel
theorem dX4_placeLine_63 : decode cX4_placeLine 63 = .ok (.istore_n 1, 1) := by decide +kernel
theorem dX4_placeLine_64 : decode cX4_placeLine 64 = .ok (.aload_n 0, 1) := by decide +kernel
theorem dX4_placeLine_65 : decode cX4_placeLine 65 = .ok (.getfield 18, 3) := by decide +kernel
theorem dX4_placeLine_68 : decode cX4_placeLine 68 = .ok (.getfield 218, 3) := by decide +kernel
theorem dX4_placeLine_71 : decode cX4_placeLine 71 = .ok (.aload_n 0, 1) := by decide +kernel
theorem dX4_placeLine_72 : decode cX4_placeLine 72 = .ok (.getfield 18, 3) := by decide +kernel
theorem dX4_placeLine_75 : decode cX4_placeLine 75 = .ok (.getfield 58, 3) := by decide +kernel
theorem dX4_placeLine_78 : decode cX4_placeLine 78 = .ok (.iload_n 1, 1) := by decide +kernel
theorem dX4_placeLine_79 : decode cX4_placeLine 79 = .ok (.iastore, 1) := by decide +kernel
theorem dX4_placeLine_80 : decode cX4_placeLine 80 = .ok (.aload_n 0, 1) := by decide +kernel
theorem dX4_placeLine_81 : decode cX4_placeLine 81 = .ok (.getfield 18, 3) := by decide +kernel
theorem dX4_placeLine_84 : decode cX4_placeLine 84 = .ok (.dup, 1) := by decide +kernel
theorem dX4_placeLine_85 : decode cX4_placeLine 85 = .ok (.getfield 58, 3) := by decide +kernel
theorem dX4_placeLine_88 : decode cX4_placeLine 88 = .ok (.iconst 1, 1) := by decide +kernel
theorem dX4_placeLine_89 : decode cX4_placeLine 89 = .ok (.iadd, 1) := by decide +kernel
theorem dX4_placeLine_90 : decode cX4_placeLine 90 = .ok (.putfield 58, 3) := by decide +kernel
theorem dX4_placeLine_93 : decode cX4_placeLine 93 = .ok (.iconst 1, 1) := by decide +kernel
theorem dX4_placeLine_94 : decode cX4_placeLine 94 = .ok (.ireturn, 1) := by decide +kernel
theorem dX4_roadLine_0 : decode cX4_roadLine 0 = .ok (.aload_n 0, 1) := by decide +kernel
theorem dX4_roadLine_1 : decode cX4_roadLine 1 = .ok (.getfield 18, 3) := by decide +kernel
theorem dX4_roadLine_4 : decode cX4_roadLine 4 = .ok (.getfield 221, 3) := by decide +kernel
theorem dX4_roadLine_7 : decode cX4_roadLine 7 = .ok (.aload_n 0, 1) := by decide +kernel
theorem dX4_roadLine_8 : decode cX4_roadLine 8 = .ok (.getfield 18, 3) := by decide +kernel
theorem dX4_roadLine_11 : decode cX4_roadLine 11 = .ok (.getfield 66, 3) := by decide +kernel
theorem dX4_roadLine_14 : decode cX4_roadLine 14 = .ok (.aaload, 1) := by decide +kernel
theorem dX4_roadLine_15 : decode cX4_roadLine 15 = .ok (.astore_n 1, 1) := by decide +kernel
theorem dX4_roadLine_16 : decode cX4_roadLine 16 = .ok (.aload_n 0, 1) := by decide +kernel
theorem dX4_roadLine_17 : decode cX4_roadLine 17 = .ok (.iconst (-1), 1) := by decide +kernel
theorem dX4_roadLine_18 : decode cX4_roadLine 18 = .ok (.invokevirtual 224, 3) := by decide +kernel
theorem dX4_roadLine_21 : decode cX4_roadLine 21 = .ok (.ifCond .ne 5, 3) := by decide +kernel
theorem dX4_roadLine_24 : decode cX4_roadLine 24 = .ok (.iconst 0, 1) := by decide +kernel
theorem dX4_roadLine_25 : decode cX4_roadLine 25 = .ok (.ireturn, 1) := by decide +kernel
theorem dX4_roadLine_26 : decode cX4_roadLine 26 = .ok (.aload_n 1, 1) := by decide +kernel
theorem dX4_roadLine_27 : decode cX4_roadLine 27 = .ok (.aload_n 0, 1) := by decide +kernel
theorem dX4_roadLine_28 : decode cX4_roadLine 28 = .ok (.getfield 147, 3) := by decide +kernel
theorem dX4_roadLine_31 : decode cX4_roadLine 31 = .ok (.putfield 227, 3) := by decide +kernel
theorem dX4_roadLine_34 : decode cX4_roadLine 34 = .ok (.aload_n 0, 1) := by decide +kernel
theorem dX4_roadLine_35 : decode cX4_roadLine 35 = .ok (.invokevirtual 203, 3) := by decide +kernel
theorem dX4_roadLine_38 : decode cX4_roadLine 38 = .ok (.ifCond .ne 5, 3) := by decide +kernel
theorem dX4_roadLine_41 : decode cX4_roadLine 41 = .ok (.iconst 0, 1) := by decide +kernel
theorem dX4_roadLine_42 : decode cX4_roadLine 42 = .ok (.ireturn, 1) := by decide +kernel
theorem dX4_roadLine_43 : decode cX4_roadLine 43 = .ok (.aload_n 1, 1) := by decide +kernel
theorem dX4_roadLine_44 : decode cX4_roadLine 44 = .ok (.aload_n 0, 1) := by decide +kernel
theorem dX4_roadLine_45 : decode cX4_roadLine 45 = .ok (.getfield 147, 3) := by decide +kernel
theorem dX4_roadLine_48 : decode cX4_roadLine 48 = .ok (.putfield 232, 3) := by decide +kernel
theorem dX4_roadLine_51 : decode cX4_roadLine 51 = .ok (.aload_n 0, 1) := by decide +kernel
theorem dX4_roadLine_52 : decode cX4_roadLine 52 = .ok (.iconst 1, 1) := by decide +kernel
theorem dX4_roadLine_53 : decode cX4_roadLine 53 = .ok (.bipush 60, 2) := by decide +kernel
theorem dX4_roadLine_55 : decode cX4_roadLine 55 = .ok (.invokevirtual 153, 3) := by decide +kernel
theorem dX4_roadLine_58 : decode cX4_roadLine 58 = .ok (.ifCond .ne 5, 3) := by decide +kernel
theorem dX4_roadLine_61 : decode cX4_roadLine 61 = .ok (.iconst 0, 1) := by decide +kernel
theorem dX4_roadLine_62 : decode cX4_roadLine 62 = .ok (.ireturn, 1) := by decide +kernel
theorem dX4_roadLine_63 : decode cX4_roadLine 63 = .ok (.aload_n 1, 1) := by decide +kernel
theorem dX4_roadLine_64 : decode cX4_roadLine 64 = .ok (.aload_n 0, 1) := by decide +kernel
theorem dX4_roadLine_65 : decode cX4_roadLine 65 = .ok (.getfield 147, 3) := by decide +kernel
theorem dX4_roadLine_68 : decode cX4_roadLine 68 = .ok (.putfield 234, 3) := by decide +kernel
theorem dX4_roadLine_71 : decode cX4_roadLine 71 = .ok (.aload_n 0, 1) := by decide +kernel
theorem dX4_roadLine_72 : decode cX4_roadLine 72 = .ok (.aload_n 1, 1) := by decide +kernel
theorem dX4_roadLine_73 : decode cX4_roadLine 73 = .ok (.getfield 227, 3) := by decide +kernel
theorem dX4_roadLine_76 : decode cX4_roadLine 76 = .ok (.invokevirtual 224, 3) := by decide +kernel
theorem dX4_roadLine_79 : decode cX4_roadLine 79 = .ok (.ifCond .ne 5, 3) := by decide +kernel
theorem dX4_roadLine_82 : decode cX4_roadLine 82 = .ok (.iconst 0, 1) := by decide +kernel
theorem dX4_roadLine_83 : decode cX4_roadLine 83 = .ok (.ireturn, 1) := by decide +kernel
theorem dX4_roadLine_84 : decode cX4_roadLine 84 = .ok (.aload_n 1, 1) := by decide +kernel
theorem dX4_roadLine_85 : decode cX4_roadLine 85 = .ok (.aload_n 0, 1) := by decide +kernel
theorem dX4_roadLine_86 : decode cX4_roadLine 86 = .ok (.getfield 147, 3) := by decide +kernel
theorem dX4_roadLine_89 : decode cX4_roadLine 89 = .ok (.putfield 235, 3) := by decide +kernel
theorem dX4_roadLine_92 : decode cX4_roadLine 92 = .ok (.aload_n 1, 1) := by decide +kernel
theorem dX4_roadLine_93 : decode cX4_roadLine 93 = .ok (.iconst 0, 1) := by decide +kernel
theorem dX4_roadLine_94 : decode cX4_roadLine 94 = .ok (.putfield 238, 3) := by decide +kernel
theorem dX4_roadLine_97 : decode cX4_roadLine 97 = .ok (.aload_n 0, 1) := by decide +kernel
theorem dX4_roadLine_98 : decode cX4_roadLine 98 = .ok (.ldc 168, 2) := by decide +kernel
theorem dX4_roadLine_100 : decode cX4_roadLine 100 = .ok (.invokevirtual 35, 3) := by decide +kernel
theorem dX4_roadLine_103 : decode cX4_roadLine 103 = .ok (.ifCond .eq 27, 3) := by decide +kernel
theorem dX4_roadLine_106 : decode cX4_roadLine 106 = .ok (.aload_n 0, 1) := by decide +kernel
theorem dX4_roadLine_107 : decode cX4_roadLine 107 = .ok (.ldc 168, 2) := by decide +kernel
theorem dX4_roadLine_109 : decode cX4_roadLine 109 = .ok (.iconst 0, 1) := by decide +kernel
theorem dX4_roadLine_110 : decode cX4_roadLine 110 = .ok (.aload_n 1, 1) := by decide +kernel
theorem dX4_roadLine_111 : decode cX4_roadLine 111 = .ok (.getfield 234, 3) := by decide +kernel
theorem dX4_roadLine_114 : decode cX4_roadLine 114 = .ok (.invokevirtual 181, 3) := by decide +kernel
theorem dX4_roadLine_117 : decode cX4_roadLine 117 = .ok (.ifCond .ne 5, 3) := by decide +kernel
theorem dX4_roadLine_120 : decode cX4_roadLine 120 = .ok (.iconst 0, 1) := by decide +kernel
theorem dX4_roadLine_121 : decode cX4_roadLine 121 = .ok (.ireturn, 1) := by decide +kernel
theorem dX4_roadLine_122 : decode cX4_roadLine 122 = .ok (.aload_n 1, 1) := by decide +kernel
theorem dX4_roadLine_123 : decode cX4_roadLine 123 = .ok (.aload_n 0, 1) := by decide +kernel
theorem dX4_roadLine_124 : decode cX4_roadLine 124 = .ok (.getfield 147, 3) := by decide +kernel
theorem dX4_roadLine_127 : decode cX4_roadLine 127 = .ok (.putfield 238, 3) := by decide +kernel
theorem dX4_roadLine_130 : decode cX4_roadLine 130 = .ok (.aload_n 0, 1) := by decide +kernel
theorem dX4_roadLine_131 : decode cX4_roadLine 131 = .ok (.getfield 18, 3) := by decide +kernel
theorem dX4_roadLine_134 : decode cX4_roadLine 134 = .ok (.dup, 1) := by decide +kernel
theorem dX4_roadLine_135 : decode cX4_roadLine 135 = .ok (.getfield 66, 3) := by decide +kernel
theorem dX4_roadLine_138 : decode cX4_roadLine 138 = .ok (.iconst 1, 1) := by decide +kernel
theorem dX4_roadLine_139 : decode cX4_roadLine 139 = .ok (.iadd, 1) := by decide +kernel
theorem dX4_roadLine_140 : decode cX4_roadLine 140 = .ok (.putfield 66, 3) := by decide +kernel
theorem dX4_roadLine_143 : decode cX4_roadLine 143 = .ok (.iconst 1, 1) := by decide +kernel
theorem dX4_roadLine_144 : decode cX4_roadLine 144 = .ok (.ireturn, 1) := by decide +kernel
theorem dX4_walkerLine_0 : decode cX4_walkerLine 0 = .ok (.aload_n 0, 1) := by decide +kernel
theorem dX4_walkerLine_1 : decode cX4_walkerLine 1 = .ok (.getfield 18, 3) := by decide +kernel
theorem dX4_walkerLine_4 : decode cX4_walkerLine 4 = .ok (.getfield 240, 3) := by decide +kernel
theorem dX4_walkerLine_7 : decode cX4_walkerLine 7 = .ok (.aload_n 0, 1) := by decide +kernel
theorem dX4_walkerLine_8 : decode cX4_walkerLine 8 = .ok (.getfield 18, 3) := by decide +kernel
theorem dX4_walkerLine_11 : decode cX4_walkerLine 11 = .ok (.getfield 74, 3) := by decide +kernel
theorem dX4_walkerLine_14 : decode cX4_walkerLine 14 = .ok (.aaload, 1) := by decide +kernel
theorem dX4_walkerLine_15 : decode cX4_walkerLine 15 = .ok (.astore_n 1, 1) := by decide +kernel
theorem dX4_walkerLine_16 : decode cX4_walkerLine 16 = .ok (.aload_n 0, 1) := by decide +kernel
theorem dX4_walkerLine_17 : decode cX4_walkerLine 17 = .ok (.bipush 8, 2) := by decide +kernel
theorem dX4_walkerLine_19 : decode cX4_walkerLine 19 = .ok (.aload_n 0, 1) := by decide +kernel
theorem dX4_walkerLine_20 : decode cX4_walkerLine 20 = .ok (.getfield 18, 3) := by decide +kernel
theorem dX4_walkerLine_23 : decode cX4_walkerLine 23 = .ok (.getfield 74, 3) := by decide +kernel
theorem dX4_walkerLine_26 : decode cX4_walkerLine 26 = .ok (.iadd, 1) := by decide +kernel
theorem dX4_walkerLine_27 : decode cX4_walkerLine 27 = .ok (.invokevirtual 215, 3) := by decide +kernel
theorem dX4_walkerLine_30 : decode cX4_walkerLine 30 = .ok (.ifCond .eq 19, 3) := by decide +kernel
theorem dX4_walkerLine_33 : decode cX4_walkerLine 33 = .ok (.aload_n 0, 1) := by decide +kernel
theorem dX4_walkerLine_34 : decode cX4_walkerLine 34 = .ok (.aload_n 1, 1) := by decide +kernel
theorem dX4_walkerLine_35 : decode cX4_walkerLine 35 = .ok (.invokevirtual 243, 3) := by decide +kernel
theorem dX4_walkerLine_38 : decode cX4_walkerLine 38 = .ok (.ifCond .eq 11, 3) := by decide +kernel
theorem dX4_walkerLine_41 : decode cX4_walkerLine 41 = .ok (.aload_n 0, 1) := by decide +kernel
theorem dX4_walkerLine_42 : decode cX4_walkerLine 42 = .ok (.aload_n 1, 1) := by decide +kernel
theorem dX4_walkerLine_43 : decode cX4_walkerLine 43 = .ok (.invokevirtual 247, 3) := by decide +kernel
theorem dX4_walkerLine_46 : decode cX4_walkerLine 46 = .ok (.ifCond .ne 5, 3) := by decide +kernel
theorem dX4_walkerLine_49 : decode cX4_walkerLine 49 = .ok (.iconst 0, 1) := by decide +kernel
theorem dX4_walkerLine_50 : decode cX4_walkerLine 50 = .ok (.ireturn, 1) := by decide +kernel
theorem dX4_walkerLine_51 : decode cX4_walkerLine 51 = .ok (.aload_n 0, 1) := by decide +kernel
theorem dX4_walkerLine_52 : decode cX4_walkerLine 52 = .ok (.ldc 250, 2) := by decide +kernel
theorem dX4_walkerLine_54 : decode cX4_walkerLine 54 = .ok (.iconst 1, 1) := by decide +kernel
theorem dX4_walkerLine_55 : decode cX4_walkerLine 55 = .ok (.bipush 9, 2) := by decide +kernel
theorem dX4_walkerLine_57 : decode cX4_walkerLine 57 = .ok (.invokevirtual 181, 3) := by decide +kernel
theorem dX4_walkerLine_60 : decode cX4_walkerLine 60 = .ok (.ifCond .ne 5, 3) := by decide +kernel
theorem dX4_walkerLine_63 : decode cX4_walkerLine 63 = .ok (.iconst 0, 1) := by decide +kernel
theorem dX4_walkerLine_64 : decode cX4_walkerLine 64 = .ok (.ireturn, 1) := by decide +kernel
theorem dX4_walkerLine_65 : decode cX4_walkerLine 65 = .ok (.aload_n 1, 1) := by decide +kernel
theorem dX4_walkerLine_66 : decode cX4_walkerLine 66 = .ok (.aload_n 0, 1) := by decide +kernel
theorem dX4_walkerLine_67 : decode cX4_walkerLine 67 = .ok (.getfield 147, 3) := by decide +kernel
theorem dX4_walkerLine_70 : decode cX4_walkerLine 70 = .ok (.putfield 252, 3) := by decide +kernel
theorem dX4_walkerLine_73 : decode cX4_walkerLine 73 = .ok (.aload_n 0, 1) := by decide +kernel
theorem dX4_walkerLine_74 : decode cX4_walkerLine 74 = .ok (.ldc_w 257, 3) := by decide +kernel
theorem dX4_walkerLine_77 : decode cX4_walkerLine 77 = .ok (.aload_n 1, 1) := by decide +kernel
theorem dX4_walkerLine_78 : decode cX4_walkerLine 78 = .ok (.getfield 252, 3) := by decide +kernel
theorem dX4_walkerLine_81 : decode cX4_walkerLine 81 = .ok (.bipush 9, 2) := by decide +kernel
theorem dX4_walkerLine_83 : decode cX4_walkerLine 83 = .ok (.invokevirtual 181, 3) := by decide +kernel
theorem dX4_walkerLine_86 : decode cX4_walkerLine 86 = .ok (.ifCond .ne 5, 3) := by decide +kernel
theorem dX4_walkerLine_89 : decode cX4_walkerLine 89 = .ok (.iconst 0, 1) := by decide +kernel
theorem dX4_walkerLine_90 : decode cX4_walkerLine 90 = .ok (.ireturn, 1) := by decide +kernel
theorem dX4_walkerLine_91 : decode cX4_walkerLine 91 = .ok (.aload_n 1, 1) := by decide +kernel
theorem dX4_walkerLine_92 : decode cX4_walkerLine 92 = .ok (.aload_n 0, 1) := by decide +kernel
theorem dX4_walkerLine_93 : decode cX4_walkerLine 93 = .ok (.getfield 147, 3) := by decide +kernel
theorem dX4_walkerLine_96 : decode cX4_walkerLine 96 = .ok (.putfield 259, 3) := by decide +kernel
theorem dX4_walkerLine_99 : decode cX4_walkerLine 99 = .ok (.aload_n 0, 1) := by decide +kernel
theorem dX4_walkerLine_100 : decode cX4_walkerLine 100 = .ok (.getfield 18, 3) := by decide +kernel
theorem dX4_walkerLine_103 : decode cX4_walkerLine 103 = .ok (.dup, 1) := by decide +kernel
theorem dX4_walkerLine_104 : decode cX4_walkerLine 104 = .ok (.getfield 74, 3) := by decide +kernel
theorem dX4_walkerLine_107 : decode cX4_walkerLine 107 = .ok (.iconst 1, 1) := by decide +kernel
theorem dX4_walkerLine_108 : decode cX4_walkerLine 108 = .ok (.iadd, 1) := by decide +kernel
theorem dX4_walkerLine_109 : decode cX4_walkerLine 109 = .ok (.putfield 74, 3) := by decide +kernel
theorem dX4_walkerLine_112 : decode cX4_walkerLine 112 = .ok (.iconst 1, 1) := by decide +kernel
theorem dX4_walkerLine_113 : decode cX4_walkerLine 113 = .ok (.ireturn, 1) := by decide +kernel
theorem dX4_kindOf_0 : decode cX4_kindOf 0 = .ok (.aload_n 0, 1) := by decide +kernel
theorem dX4_kindOf_1 : decode cX4_kindOf 1 = .ok (.iconst 0, 1) := by decide +kernel
theorem dX4_kindOf_2 : decode cX4_kindOf 2 = .ok (.putfield 147, 3) := by decide +kernel
theorem dX4_kindOf_5 : decode cX4_kindOf 5 = .ok (.aload_n 0, 1) := by decide +kernel
theorem dX4_kindOf_6 : decode cX4_kindOf 6 = .ok (.ldc_w 262, 3) := by decide +kernel
theorem dX4_kindOf_9 : decode cX4_kindOf 9 = .ok (.invokevirtual 35, 3) := by decide +kernel
theorem dX4_kindOf_12 : decode cX4_kindOf 12 = .ok (.ifCond .eq 22, 3) := by decide +kernel
theorem dX4_kindOf_15 : decode cX4_kindOf 15 = .ok (.aload_n 1, 1) := by decide +kernel
theorem dX4_kindOf_16 : decode cX4_kindOf 16 = .ok (.iconst 1, 1) := by decide +kernel
theorem dX4_kindOf_17 : decode cX4_kindOf 17 = .ok (.putfield 264, 3) := by decide +kernel
theorem dX4_kindOf_20 : decode cX4_kindOf 20 = .ok (.aload_n 0, 1) := by decide +kernel
theorem dX4_kindOf_21 : decode cX4_kindOf 21 = .ok (.ldc_w 262, 3) := by decide +kernel
theorem dX4_kindOf_24 : decode cX4_kindOf 24 = .ok (.iconst 1, 1) := by decide +kernel
theorem dX4_kindOf_25 : decode cX4_kindOf 25 = .ok (.bipush 8, 2) := by decide +kernel
theorem dX4_kindOf_27 : decode cX4_kindOf 27 = .ok (.invokevirtual 181, 3) := by decide +kernel
theorem dX4_kindOf_30 : decode cX4_kindOf 30 = .ok (.istore_n 2, 1) := by decide +kernel
theorem dX4_kindOf_31 : decode cX4_kindOf 31 = .ok (.goto 75, 3) := by decide +kernel
theorem dX4_kindOf_34 : decode cX4_kindOf 34 = .ok (.aload_n 0, 1) := by decide +kernel
theorem dX4_kindOf_35 : decode cX4_kindOf 35 = .ok (.ldc_w 267, 3) := by decide +kernel
theorem dX4_kindOf_38 : decode cX4_kindOf 38 = .ok (.invokevirtual 35, 3) := by decide +kernel
theorem dX4_kindOf_41 : decode cX4_kindOf 41 = .ok (.ifCond .eq 23, 3) := by decide +kernel
theorem dX4_kindOf_44 : decode cX4_kindOf 44 = .ok (.aload_n 1, 1) := by decide +kernel
theorem dX4_kindOf_45 : decode cX4_kindOf 45 = .ok (.iconst 2, 1) := by decide +kernel
theorem dX4_kindOf_46 : decode cX4_kindOf 46 = .ok (.putfield 264, 3) := by decide +kernel
theorem dX4_kindOf_49 : decode cX4_kindOf 49 = .ok (.aload_n 0, 1) := by decide +kernel
theorem dX4_kindOf_50 : decode cX4_kindOf 50 = .ok (.ldc_w 267, 3) := by decide +kernel
theorem dX4_kindOf_53 : decode cX4_kindOf 53 = .ok (.iconst 0, 1) := by decide +kernel
theorem dX4_kindOf_54 : decode cX4_kindOf 54 = .ok (.sipush 999, 3) := by decide +kernel
theorem dX4_kindOf_57 : decode cX4_kindOf 57 = .ok (.invokevirtual 181, 3) := by decide +kernel
theorem dX4_kindOf_60 : decode cX4_kindOf 60 = .ok (.istore_n 2, 1) := by decide +kernel
theorem dX4_kindOf_61 : decode cX4_kindOf 61 = .ok (.goto 45, 3) := by decide +kernel
theorem dX4_kindOf_64 : decode cX4_kindOf 64 = .ok (.aload_n 0, 1) := by decide +kernel
theorem dX4_kindOf_65 : decode cX4_kindOf 65 = .ok (.ldc_w 269, 3) := by decide +kernel
theorem dX4_kindOf_68 : decode cX4_kindOf 68 = .ok (.invokevirtual 35, 3) := by decide +kernel
theorem dX4_kindOf_71 : decode cX4_kindOf 71 = .ok (.ifCond .eq 22, 3) := by decide +kernel
theorem dX4_kindOf_74 : decode cX4_kindOf 74 = .ok (.aload_n 1, 1) := by decide +kernel
theorem dX4_kindOf_75 : decode cX4_kindOf 75 = .ok (.iconst 3, 1) := by decide +kernel
theorem dX4_kindOf_76 : decode cX4_kindOf 76 = .ok (.putfield 264, 3) := by decide +kernel
theorem dX4_kindOf_79 : decode cX4_kindOf 79 = .ok (.aload_n 0, 1) := by decide +kernel
theorem dX4_kindOf_80 : decode cX4_kindOf 80 = .ok (.ldc_w 269, 3) := by decide +kernel
theorem dX4_kindOf_83 : decode cX4_kindOf 83 = .ok (.iconst 1, 1) := by decide +kernel
theorem dX4_kindOf_84 : decode cX4_kindOf 84 = .ok (.bipush 99, 2) := by decide +kernel
theorem dX4_kindOf_86 : decode cX4_kindOf 86 = .ok (.invokevirtual 181, 3) := by decide +kernel
theorem dX4_kindOf_89 : decode cX4_kindOf 89 = .ok (.istore_n 2, 1) := by decide +kernel
theorem dX4_kindOf_90 : decode cX4_kindOf 90 = .ok (.goto 16, 3) := by decide +kernel
theorem dX4_kindOf_93 : decode cX4_kindOf 93 = .ok (.aload_n 1, 1) := by decide +kernel
theorem dX4_kindOf_94 : decode cX4_kindOf 94 = .ok (.iconst 0, 1) := by decide +kernel
theorem dX4_kindOf_95 : decode cX4_kindOf 95 = .ok (.putfield 264, 3) := by decide +kernel
theorem dX4_kindOf_98 : decode cX4_kindOf 98 = .ok (.aload_n 0, 1) := by decide +kernel
theorem dX4_kindOf_99 : decode cX4_kindOf 99 = .ok (.ldc_w 271, 3) := by decide +kernel
theorem dX4_kindOf_102 : decode cX4_kindOf 102 = .ok (.invokevirtual 150, 3) := by decide +kernel
theorem dX4_kindOf_105 : decode cX4_kindOf 105 = .ok (.istore_n 2, 1) := by decide +kernel
theorem dX4_kindOf_106 : decode cX4_kindOf 106 = .ok (.aload_n 1, 1) := by decide +kernel
theorem dX4_kindOf_107 : decode cX4_kindOf 107 = .ok (.aload_n 0, 1) := by decide +kernel
theorem dX4_kindOf_108 : decode cX4_kindOf 108 = .ok (.getfield 147, 3) := by decide +kernel
theorem dX4_kindOf_111 : decode cX4_kindOf 111 = .ok (.putfield 273, 3) := by decide +kernel
theorem dX4_kindOf_114 : decode cX4_kindOf 114 = .ok (.iload_n 2, 1) := by decide +kernel
theorem dX4_kindOf_115 : decode cX4_kindOf 115 = .ok (.ireturn, 1) := by decide +kernel
theorem dX4_bodyOf_0 : decode cX4_bodyOf 0 = .ok (.aload_n 0, 1) := by decide +kernel
theorem dX4_bodyOf_1 : decode cX4_bodyOf 1 = .ok (.ldc_w 276, 3) := by decide +kernel
theorem dX4_bodyOf_4 : decode cX4_bodyOf 4 = .ok (.iconst 1, 1) := by decide +kernel
theorem dX4_bodyOf_5 : decode cX4_bodyOf 5 = .ok (.bipush 9, 2) := by decide +kernel
theorem dX4_bodyOf_7 : decode cX4_bodyOf 7 = .ok (.invokevirtual 181, 3) := by decide +kernel
theorem dX4_bodyOf_10 : decode cX4_bodyOf 10 = .ok (.ifCond .ne 5, 3) := by decide +kernel
theorem dX4_bodyOf_13 : decode cX4_bodyOf 13 = .ok (.iconst 0, 1) := by decide +kernel
theorem dX4_bodyOf_14 : decode cX4_bodyOf 14 = .ok (.ireturn, 1) := by decide +kernel
theorem dX4_bodyOf_15 : decode cX4_bodyOf 15 = .ok (.aload_n 0, 1) := by decide +kernel
theorem dX4_bodyOf_16 : decode cX4_bodyOf 16 = .ok (.getfield 147, 3) := by decide +kernel
theorem dX4_bodyOf_19 : decode cX4_bodyOf 19 = .ok (.istore_n 2, 1) := by decide +kernel
theorem dX4_bodyOf_20 : decode cX4_bodyOf 20 = .ok (.aload_n 0, 1) := by decide +kernel
theorem dX4_bodyOf_21 : decode cX4_bodyOf 21 = .ok (.ldc_w 278, 3) := by decide +kernel
theorem dX4_bodyOf_24 : decode cX4_bodyOf 24 = .ok (.iconst 1, 1) := by decide +kernel
theorem dX4_bodyOf_25 : decode cX4_bodyOf 25 = .ok (.bipush 9, 2) := by decide +kernel
theorem dX4_bodyOf_27 : decode cX4_bodyOf 27 = .ok (.invokevirtual 181, 3) := by decide +kernel
theorem dX4_bodyOf_30 : decode cX4_bodyOf 30 = .ok (.ifCond .ne 5, 3) := by decide +kernel
theorem dX4_bodyOf_33 : decode cX4_bodyOf 33 = .ok (.iconst 0, 1) := by decide +kernel
theorem dX4_bodyOf_34 : decode cX4_bodyOf 34 = .ok (.ireturn, 1) := by decide +kernel
theorem dX4_bodyOf_35 : decode cX4_bodyOf 35 = .ok (.aload_n 0, 1) := by decide +kernel
theorem dX4_bodyOf_36 : decode cX4_bodyOf 36 = .ok (.getfield 147, 3) := by decide +kernel
theorem dX4_bodyOf_39 : decode cX4_bodyOf 39 = .ok (.istore_n 3, 1) := by decide +kernel
theorem dX4_bodyOf_40 : decode cX4_bodyOf 40 = .ok (.aload_n 1, 1) := by decide +kernel
theorem dX4_bodyOf_41 : decode cX4_bodyOf 41 = .ok (.getfield 264, 3) := by decide +kernel
theorem dX4_bodyOf_44 : decode cX4_bodyOf 44 = .ok (.iconst 1, 1) := by decide +kernel
theorem dX4_bodyOf_45 : decode cX4_bodyOf 45 = .ok (.if_icmp .ne 12, 3) := by decide +kernel
theorem dX4_bodyOf_48 : decode cX4_bodyOf 48 = .ok (.aload_n 1, 1) := by decide +kernel
theorem dX4_bodyOf_49 : decode cX4_bodyOf 49 = .ok (.getfield 273, 3) := by decide +kernel
theorem dX4_bodyOf_52 : decode cX4_bodyOf 52 = .ok (.iconst 1, 1) := by decide +kernel
theorem dX4_bodyOf_53 : decode cX4_bodyOf 53 = .ok (.iadd, 1) := by decide +kernel
theorem dX4_bodyOf_54 : decode cX4_bodyOf 54 = .ok (.goto 4, 3) := by decide +kernel
theorem dX4_bodyOf_57 : decode cX4_bodyOf 57 = .ok (.iconst 1, 1) := by decide +kernel
theorem dX4_bodyOf_58 : decode cX4_bodyOf 58 = .ok (.istore 4, 2) := by decide +kernel
theorem dX4_bodyOf_60 : decode cX4_bodyOf 60 = .ok (.aload_n 0, 1) := by decide +kernel
theorem dX4_bodyOf_61 : decode cX4_bodyOf 61 = .ok (.ldc_w 280, 3) := by decide +kernel
theorem dX4_bodyOf_64 : decode cX4_bodyOf 64 = .ok (.iload 4, 2) := by decide +kernel
theorem dX4_bodyOf_66 : decode cX4_bodyOf 66 = .ok (.bipush 9, 2) := by decide +kernel
theorem dX4_bodyOf_68 : decode cX4_bodyOf 68 = .ok (.invokevirtual 181, 3) := by decide +kernel
theorem dX4_bodyOf_71 : decode cX4_bodyOf 71 = .ok (.ifCond .ne 5, 3) := by decide +kernel
theorem dX4_bodyOf_74 : decode cX4_bodyOf 74 = .ok (.iconst 0, 1) := by decide +kernel
theorem dX4_bodyOf_75 : decode cX4_bodyOf 75 = .ok (.ireturn, 1) := by decide +kernel
theorem dX4_bodyOf_76 : decode cX4_bodyOf 76 = .ok (.aload_n 1, 1) := by decide +kernel
theorem dX4_bodyOf_77 : decode cX4_bodyOf 77 = .ok (.iload_n 2, 1) := by decide +kernel
theorem dX4_bodyOf_78 : decode cX4_bodyOf 78 = .ok (.iload_n 3, 1) := by decide +kernel
theorem dX4_bodyOf_79 : decode cX4_bodyOf 79 = .ok (.aload_n 0, 1) := by decide +kernel
theorem dX4_bodyOf_80 : decode cX4_bodyOf 80 = .ok (.getfield 147, 3) := by decide +kernel
theorem dX4_bodyOf_83 : decode cX4_bodyOf 83 = .ok (.invokevirtual 282, 3) := by decide +kernel
theorem dX4_bodyOf_86 : decode cX4_bodyOf 86 = .ok (.iconst 1, 1) := by decide +kernel
theorem dX4_bodyOf_87 : decode cX4_bodyOf 87 = .ok (.ireturn, 1) := by decide +kernel
theorem dX4_seenLine_0 : decode cX4_seenLine 0 = .ok (.aload_n 0, 1) := by decide +kernel
theorem dX4_seenLine_1 : decode cX4_seenLine 1 = .ok (.invokevirtual 286, 3) := by decide +kernel
theorem dX4_seenLine_4 : decode cX4_seenLine 4 = .ok (.ifCond .ne 5, 3) := by decide +kernel
theorem dX4_seenLine_7 : decode cX4_seenLine 7 = .ok (.iconst 0, 1) := by decide +kernel
theorem dX4_seenLine_8 : decode cX4_seenLine 8 = .ok (.ireturn, 1) := by decide +kernel
theorem dX4_seenLine_9 : decode cX4_seenLine 9 = .ok (.aload_n 0, 1) := by decide +kernel
theorem dX4_seenLine_10 : decode cX4_seenLine 10 = .ok (.getfield 18, 3) := by decide +kernel
theorem dX4_seenLine_13 : decode cX4_seenLine 13 = .ok (.getfield 289, 3) := by decide +kernel
theorem dX4_seenLine_16 : decode cX4_seenLine 16 = .ok (.aload_n 0, 1) := by decide +kernel
theorem dX4_seenLine_17 : decode cX4_seenLine 17 = .ok (.getfield 18, 3) := by decide +kernel
theorem dX4_seenLine_20 : decode cX4_seenLine 20 = .ok (.getfield 82, 3) := by decide +kernel
theorem dX4_seenLine_23 : decode cX4_seenLine 23 = .ok (.aload_n 0, 1) := by decide +kernel
theorem dX4_seenLine_24 : decode cX4_seenLine 24 = .ok (.getfield 147, 3) := by decide +kernel
theorem dX4_seenLine_27 : decode cX4_seenLine 27 = .ok (.iastore, 1) := by decide +kernel
theorem dX4_seenLine_28 : decode cX4_seenLine 28 = .ok (.iconst 0, 1) := by decide +kernel
theorem dX4_seenLine_29 : decode cX4_seenLine 29 = .ok (.istore_n 1, 1) := by decide +kernel
theorem dX4_seenLine_30 : decode cX4_seenLine 30 = .ok (.iload_n 1, 1) := by decide +kernel
theorem dX4_seenLine_31 : decode cX4_seenLine 31 = .ok (.iconst 5, 1) := by decide +kernel
theorem dX4_seenLine_32 : decode cX4_seenLine 32 = .ok (.if_icmp .ge 57, 3) := by decide +kernel
theorem dX4_seenLine_35 : decode cX4_seenLine 35 = .ok (.iload_n 1, 1) := by decide +kernel
theorem dX4_seenLine_36 : decode cX4_seenLine 36 = .ok (.ifCond .le 11, 3) := by decide +kernel
theorem dX4_seenLine_39 : decode cX4_seenLine 39 = .ok (.aload_n 0, 1) := by decide +kernel
theorem dX4_seenLine_40 : decode cX4_seenLine 40 = .ok (.iconst 4, 1) := by decide +kernel
theorem dX4_seenLine_41 : decode cX4_seenLine 41 = .ok (.invokevirtual 95, 3) := by decide +kernel
theorem dX4_seenLine_44 : decode cX4_seenLine 44 = .ok (.ifCond .eq 14, 3) := by decide +kernel
theorem dX4_seenLine_47 : decode cX4_seenLine 47 = .ok (.aload_n 0, 1) := by decide +kernel
theorem dX4_seenLine_48 : decode cX4_seenLine 48 = .ok (.iconst 0, 1) := by decide +kernel
theorem dX4_seenLine_49 : decode cX4_seenLine 49 = .ok (.sipush 999, 3) := by decide +kernel
theorem dX4_seenLine_52 : decode cX4_seenLine 52 = .ok (.invokevirtual 153, 3) := by decide +kernel
theorem dX4_seenLine_55 : decode cX4_seenLine 55 = .ok (.ifCond .ne 5, 3) := by decide +kernel
theorem dX4_seenLine_58 : decode cX4_seenLine 58 = .ok (.iconst 0, 1) := by decide +kernel
theorem dX4_seenLine_59 : decode cX4_seenLine 59 = .ok (.ireturn, 1) := by decide +kernel
theorem dX4_seenLine_60 : decode cX4_seenLine 60 = .ok (.aload_n 0, 1) := by decide +kernel
theorem dX4_seenLine_61 : decode cX4_seenLine 61 = .ok (.getfield 18, 3) := by decide +kernel
theorem dX4_seenLine_64 : decode cX4_seenLine 64 = .ok (.getfield 292, 3) := by decide +kernel
theorem dX4_seenLine_67 : decode cX4_seenLine 67 = .ok (.aload_n 0, 1) := by decide +kernel
theorem dX4_seenLine_68 : decode cX4_seenLine 68 = .ok (.getfield 18, 3) := by decide +kernel
theorem dX4_seenLine_71 : decode cX4_seenLine 71 = .ok (.getfield 82, 3) := by decide +kernel
theorem dX4_seenLine_74 : decode cX4_seenLine 74 = .ok (.iconst 5, 1) := by decide +kernel
theorem dX4_seenLine_75 : decode cX4_seenLine 75 = .ok (.imul, 1) := by decide +kernel
theorem dX4_seenLine_76 : decode cX4_seenLine 76 = .ok (.iload_n 1, 1) := by decide +kernel
theorem dX4_seenLine_77 : decode cX4_seenLine 77 = .ok (.iadd, 1) := by decide +kernel
theorem dX4_seenLine_78 : decode cX4_seenLine 78 = .ok (.aload_n 0, 1) := by decide +kernel
theorem dX4_seenLine_79 : decode cX4_seenLine 79 = .ok (.getfield 147, 3) := by decide +kernel
theorem dX4_seenLine_82 : decode cX4_seenLine 82 = .ok (.iastore, 1) := by decide +kernel
theorem dX4_seenLine_83 : decode cX4_seenLine 83 = .ok (.iinc 1 1, 3) := by decide +kernel
theorem dX4_seenLine_86 : decode cX4_seenLine 86 = .ok (.goto (-56), 3) := by decide +kernel
theorem dX4_seenLine_89 : decode cX4_seenLine 89 = .ok (.aload_n 0, 1) := by decide +kernel
theorem dX4_seenLine_90 : decode cX4_seenLine 90 = .ok (.getfield 18, 3) := by decide +kernel
theorem dX4_seenLine_93 : decode cX4_seenLine 93 = .ok (.dup, 1) := by decide +kernel
theorem dX4_seenLine_94 : decode cX4_seenLine 94 = .ok (.getfield 82, 3) := by decide +kernel
theorem dX4_seenLine_97 : decode cX4_seenLine 97 = .ok (.iconst 1, 1) := by decide +kernel
theorem dX4_seenLine_98 : decode cX4_seenLine 98 = .ok (.iadd, 1) := by decide +kernel
theorem dX4_seenLine_99 : decode cX4_seenLine 99 = .ok (.putfield 82, 3) := by decide +kernel
theorem dX4_seenLine_102 : decode cX4_seenLine 102 = .ok (.iconst 1, 1) := by decide +kernel
theorem dX4_seenLine_103 : decode cX4_seenLine 103 = .ok (.ireturn, 1) := by decide +kernel
theorem dX5_init_0 : decode cX5_init 0 = .ok (.aload_n 0, 1) := by decide +kernel
theorem dX5_init_1 : decode cX5_init 1 = .ok (.invokespecial 1, 3) := by decide +kernel
theorem dX5_init_4 : decode cX5_init 4 = .ok (.return_, 1) := by decide +kernel
theorem dX5_startOf_0 : decode cX5_startOf 0 = .ok (.iload_n 1, 1) := by decide +kernel
theorem dX5_startOf_1 : decode cX5_startOf 1 = .ok (.ifCond .ne 10, 3) := by decide +kernel
theorem dX5_startOf_4 : decode cX5_startOf 4 = .ok (.aload_n 0, 1) := by decide +kernel
theorem dX5_startOf_5 : decode cX5_startOf 5 = .ok (.getfield 7, 3) := by decide +kernel
theorem dX5_startOf_8 : decode cX5_startOf 8 = .ok (.goto 7, 3) := by decide +kernel
theorem dX5_startOf_11 : decode cX5_startOf 11 = .ok (.aload_n 0, 1) := by decide +kernel
theorem dX5_startOf_12 : decode cX5_startOf 12 = .ok (.getfield 13, 3) := by decide +kernel
theorem dX5_startOf_15 : decode cX5_startOf 15 = .ok (.ireturn, 1) := by decide +kernel
theorem dX5_endOf_0 : decode cX5_endOf 0 = .ok (.iload_n 1, 1) := by decide +kernel
theorem dX5_endOf_1 : decode cX5_endOf 1 = .ok (.ifCond .ne 10, 3) := by decide +kernel
theorem dX5_endOf_4 : decode cX5_endOf 4 = .ok (.aload_n 0, 1) := by decide +kernel
theorem dX5_endOf_5 : decode cX5_endOf 5 = .ok (.getfield 13, 3) := by decide +kernel
theorem dX5_endOf_8 : decode cX5_endOf 8 = .ok (.goto 7, 3) := by decide +kernel
theorem dX5_endOf_11 : decode cX5_endOf 11 = .ok (.aload_n 0, 1) := by decide +kernel
theorem dX5_endOf_12 : decode cX5_endOf 12 = .ok (.getfield 7, 3) := by decide +kernel
theorem dX5_endOf_15 : decode cX5_endOf 15 = .ok (.ireturn, 1) := by decide +kernel
theorem dX5_touches_0 : decode cX5_touches 0 = .ok (.aload_n 0, 1) := by decide +kernel
theorem dX5_touches_1 : decode cX5_touches 1 = .ok (.getfield 7, 3) := by decide +kernel
theorem dX5_touches_4 : decode cX5_touches 4 = .ok (.iload_n 1, 1) := by decide +kernel
theorem dX5_touches_5 : decode cX5_touches 5 = .ok (.if_icmp .eq 11, 3) := by decide +kernel
theorem dX5_touches_8 : decode cX5_touches 8 = .ok (.aload_n 0, 1) := by decide +kernel
theorem dX5_touches_9 : decode cX5_touches 9 = .ok (.getfield 13, 3) := by decide +kernel
theorem dX5_touches_12 : decode cX5_touches 12 = .ok (.iload_n 1, 1) := by decide +kernel
theorem dX5_touches_13 : decode cX5_touches 13 = .ok (.if_icmp .ne 7, 3) := by decide +kernel
theorem dX5_touches_16 : decode cX5_touches 16 = .ok (.iconst 1, 1) := by decide +kernel
theorem dX5_touches_17 : decode cX5_touches 17 = .ok (.goto 4, 3) := by decide +kernel
theorem dX5_touches_20 : decode cX5_touches 20 = .ok (.iconst 0, 1) := by decide +kernel
theorem dX5_touches_21 : decode cX5_touches 21 = .ok (.ireturn, 1) := by decide +kernel
theorem dX5_minutesAt_0 : decode cX5_minutesAt 0 = .ok (.iload_n 1, 1) := by decide +kernel
theorem dX5_minutesAt_1 : decode cX5_minutesAt 1 = .ok (.ifCond .le 16, 3) := by decide +kernel
theorem dX5_minutesAt_4 : decode cX5_minutesAt 4 = .ok (.aload_n 0, 1) := by decide +kernel
theorem dX5_minutesAt_5 : decode cX5_minutesAt 5 = .ok (.getfield 16, 3) := by decide +kernel
theorem dX5_minutesAt_8 : decode cX5_minutesAt 8 = .ok (.iload_n 1, 1) := by decide +kernel
theorem dX5_minutesAt_9 : decode cX5_minutesAt 9 = .ok (.iadd, 1) := by decide +kernel
theorem dX5_minutesAt_10 : decode cX5_minutesAt 10 = .ok (.iconst 1, 1) := by decide +kernel
theorem dX5_minutesAt_11 : decode cX5_minutesAt 11 = .ok (.isub, 1) := by decide +kernel
theorem dX5_minutesAt_12 : decode cX5_minutesAt 12 = .ok (.iload_n 1, 1) := by decide +kernel
theorem dX5_minutesAt_13 : decode cX5_minutesAt 13 = .ok (.idiv, 1) := by decide +kernel
theorem dX5_minutesAt_14 : decode cX5_minutesAt 14 = .ok (.goto 4, 3) := by decide +kernel
theorem dX5_minutesAt_17 : decode cX5_minutesAt 17 = .ok (.iconst 0, 1) := by decide +kernel
theorem dX5_minutesAt_18 : decode cX5_minutesAt 18 = .ok (.ireturn, 1) := by decide +kernel
theorem dX5_turnOf_0 : decode cX5_turnOf 0 = .ok (.iload_n 1, 1) := by decide +kernel
theorem dX5_turnOf_1 : decode cX5_turnOf 1 = .ok (.ifCond .ne 10, 3) := by decide +kernel
theorem dX5_turnOf_4 : decode cX5_turnOf 4 = .ok (.aload_n 0, 1) := by decide +kernel
theorem dX5_turnOf_5 : decode cX5_turnOf 5 = .ok (.getfield 19, 3) := by decide +kernel
theorem dX5_turnOf_8 : decode cX5_turnOf 8 = .ok (.goto 9, 3) := by decide +kernel
theorem dX5_turnOf_11 : decode cX5_turnOf 11 = .ok (.aload_n 0, 1) := by decide +kernel
theorem dX5_turnOf_12 : decode cX5_turnOf 12 = .ok (.getfield 19, 3) := by decide +kernel
theorem dX5_turnOf_15 : decode cX5_turnOf 15 = .ok (.iconst 2, 1) := by decide +kernel
theorem dX5_turnOf_16 : decode cX5_turnOf 16 = .ok (.iadd, 1) := by decide +kernel
theorem dX5_turnOf_17 : decode cX5_turnOf 17 = .ok (.istore_n 3, 1) := by decide +kernel
theorem dX5_turnOf_18 : decode cX5_turnOf 18 = .ok (.aload_n 2, 1) := by decide +kernel
theorem dX5_turnOf_19 : decode cX5_turnOf 19 = .ok (.getfield 22, 3) := by decide +kernel
theorem dX5_turnOf_22 : decode cX5_turnOf 22 = .ok (.iload_n 3, 1) := by decide +kernel
theorem dX5_turnOf_23 : decode cX5_turnOf 23 = .ok (.isub, 1) := by decide +kernel
theorem dX5_turnOf_24 : decode cX5_turnOf 24 = .ok (.iconst 3, 1) := by decide +kernel
theorem dX5_turnOf_25 : decode cX5_turnOf 25 = .ok (.iand, 1) := by decide +kernel
theorem dX5_turnOf_26 : decode cX5_turnOf 26 = .ok (.ireturn, 1) := by decide +kernel
theorem dX5_airAlong_0 : decode cX5_airAlong 0 = .ok (.aload_n 0, 1) := by decide +kernel
theorem dX5_airAlong_1 : decode cX5_airAlong 1 = .ok (.iload_n 1, 1) := by decide +kernel
theorem dX5_airAlong_2 : decode cX5_airAlong 2 = .ok (.aload_n 2, 1) := by decide +kernel
theorem dX5_airAlong_3 : decode cX5_airAlong 3 = .ok (.invokevirtual 27, 3) := by decide +kernel
theorem dX5_airAlong_6 : decode cX5_airAlong 6 = .ok (.istore_n 3, 1) := by decide +kernel
theorem dX5_airAlong_7 : decode cX5_airAlong 7 = .ok (.iload_n 3, 1) := by decide +kernel
theorem dX5_airAlong_8 : decode cX5_airAlong 8 = .ok (.ifCond .ne 8, 3) := by decide +kernel
theorem dX5_airAlong_11 : decode cX5_airAlong 11 = .ok (.aload_n 2, 1) := by decide +kernel
theorem dX5_airAlong_12 : decode cX5_airAlong 12 = .ok (.getfield 31, 3) := by decide +kernel
theorem dX5_airAlong_15 : decode cX5_airAlong 15 = .ok (.ireturn, 1) := by decide +kernel
theorem dX5_airAlong_16 : decode cX5_airAlong 16 = .ok (.iload_n 3, 1) := by decide +kernel
theorem dX5_airAlong_17 : decode cX5_airAlong 17 = .ok (.iconst 2, 1) := by decide +kernel
theorem dX5_airAlong_18 : decode cX5_airAlong 18 = .ok (.if_icmp .ne 11, 3) := by decide +kernel
theorem dX5_airAlong_21 : decode cX5_airAlong 21 = .ok (.aload_n 2, 1) := by decide +kernel
theorem dX5_airAlong_22 : decode cX5_airAlong 22 = .ok (.getfield 31, 3) := by decide +kernel
theorem dX5_airAlong_25 : decode cX5_airAlong 25 = .ok (.ineg, 1) := by decide +kernel
theorem dX5_airAlong_26 : decode cX5_airAlong 26 = .ok (.goto 4, 3) := by decide +kernel
theorem dX5_airAlong_29 : decode cX5_airAlong 29 = .ok (.iconst 0, 1) := by decide +kernel
theorem dX5_airAlong_30 : decode cX5_airAlong 30 = .ok (.ireturn, 1) := by decide +kernel
theorem dX5_tell_0 : decode cX5_tell 0 = .ok (.iload_n 1, 1) := by decide +kernel
theorem dX5_tell_1 : decode cX5_tell 1 = .ok (.tableswitch 51 0 3 #[31, 36, 41, 46], 31) := by decide +kernel
theorem dX5_tell_32 : decode cX5_tell 32 = .ok (.aload_n 0, 1) := by decide +kernel
theorem dX5_tell_33 : decode cX5_tell 33 = .ok (.getfield 7, 3) := by decide +kernel
theorem dX5_tell_36 : decode cX5_tell 36 = .ok (.ireturn, 1) := by decide +kernel
theorem dX5_tell_37 : decode cX5_tell 37 = .ok (.aload_n 0, 1) := by decide +kernel
theorem dX5_tell_38 : decode cX5_tell 38 = .ok (.getfield 13, 3) := by decide +kernel
theorem dX5_tell_41 : decode cX5_tell 41 = .ok (.ireturn, 1) := by decide +kernel
theorem dX5_tell_42 : decode cX5_tell 42 = .ok (.aload_n 0, 1) := by decide +kernel
theorem dX5_tell_43 : decode cX5_tell 43 = .ok (.getfield 19, 3) := by decide +kernel
theorem dX5_tell_46 : decode cX5_tell 46 = .ok (.ireturn, 1) := by decide +kernel
theorem dX5_tell_47 : decode cX5_tell 47 = .ok (.aload_n 0, 1) := by decide +kernel
theorem dX5_tell_48 : decode cX5_tell 48 = .ok (.getfield 16, 3) := by decide +kernel
theorem dX5_tell_51 : decode cX5_tell 51 = .ok (.ireturn, 1) := by decide +kernel
theorem dX5_tell_52 : decode cX5_tell 52 = .ok (.aload_n 0, 1) := by decide +kernel
theorem dX5_tell_53 : decode cX5_tell 53 = .ok (.getfield 34, 3) := by decide +kernel
theorem dX5_tell_56 : decode cX5_tell 56 = .ok (.ireturn, 1) := by decide +kernel
theorem dX6_init_0 : decode cX6_init 0 = .ok (.aload_n 0, 1) := by decide +kernel
theorem dX6_init_1 : decode cX6_init 1 = .ok (.invokespecial 3, 3) := by decide +kernel
theorem dX6_init_4 : decode cX6_init 4 = .ok (.return_, 1) := by decide +kernel
theorem dX6_shape_0 : decode cX6_shape 0 = .ok (.aload_n 0, 1) := by decide +kernel
theorem dX6_shape_1 : decode cX6_shape 1 = .ok (.getfield 9, 3) := by decide +kernel
theorem dX6_shape_4 : decode cX6_shape 4 = .ok (.iconst 1, 1) := by decide +kernel
theorem dX6_shape_5 : decode cX6_shape 5 = .ok (.if_icmp .ne 10, 3) := by decide +kernel
theorem dX6_shape_8 : decode cX6_shape 8 = .ok (.aload_n 0, 1) := by decide +kernel
theorem dX6_shape_9 : decode cX6_shape 9 = .ok (.getfield 15, 3) := by decide +kernel
theorem dX6_shape_12 : decode cX6_shape 12 = .ok (.goto 4, 3) := by decide +kernel
theorem dX6_shape_15 : decode cX6_shape 15 = .ok (.iconst 0, 1) := by decide +kernel
theorem dX6_shape_16 : decode cX6_shape 16 = .ok (.istore 4, 2) := by decide +kernel
theorem dX6_shape_18 : decode cX6_shape 18 = .ok (.aload_n 0, 1) := by decide +kernel
theorem dX6_shape_19 : decode cX6_shape 19 = .ok (.iload_n 1, 1) := by decide +kernel
theorem dX6_shape_20 : decode cX6_shape 20 = .ok (.iload_n 2, 1) := by decide +kernel
theorem dX6_shape_21 : decode cX6_shape 21 = .ok (.iload 4, 2) := by decide +kernel
theorem dX6_shape_23 : decode cX6_shape 23 = .ok (.iadd, 1) := by decide +kernel
theorem dX6_shape_24 : decode cX6_shape 24 = .ok (.imul, 1) := by decide +kernel
theorem dX6_shape_25 : decode cX6_shape 25 = .ok (.putfield 18, 3) := by decide +kernel
theorem dX6_shape_28 : decode cX6_shape 28 = .ok (.aload_n 0, 1) := by decide +kernel
theorem dX6_shape_29 : decode cX6_shape 29 = .ok (.iload_n 1, 1) := by decide +kernel
theorem dX6_shape_30 : decode cX6_shape 30 = .ok (.iload_n 3, 1) := by decide +kernel
theorem dX6_shape_31 : decode cX6_shape 31 = .ok (.iload 4, 2) := by decide +kernel
theorem dX6_shape_33 : decode cX6_shape 33 = .ok (.isub, 1) := by decide +kernel
theorem dX6_shape_34 : decode cX6_shape 34 = .ok (.imul, 1) := by decide +kernel
theorem dX6_shape_35 : decode cX6_shape 35 = .ok (.putfield 21, 3) := by decide +kernel
theorem dX6_shape_38 : decode cX6_shape 38 = .ok (.aload_n 0, 1) := by decide +kernel
theorem dX6_shape_39 : decode cX6_shape 39 = .ok (.iload_n 2, 1) := by decide +kernel
theorem dX6_shape_40 : decode cX6_shape 40 = .ok (.iload 4, 2) := by decide +kernel
theorem dX6_shape_42 : decode cX6_shape 42 = .ok (.iadd, 1) := by decide +kernel
theorem dX6_shape_43 : decode cX6_shape 43 = .ok (.iload_n 3, 1) := by decide +kernel
theorem dX6_shape_44 : decode cX6_shape 44 = .ok (.iload 4, 2) := by decide +kernel
theorem dX6_shape_46 : decode cX6_shape 46 = .ok (.isub, 1) := by decide +kernel
theorem dX6_shape_47 : decode cX6_shape 47 = .ok (.imul, 1) := by decide +kernel
theorem dX6_shape_48 : decode cX6_shape 48 = .ok (.putfield 24, 3) := by decide +kernel
theorem dX6_shape_51 : decode cX6_shape 51 = .ok (.return_, 1) := by decide +kernel
theorem dX6_canGo_0 : decode cX6_canGo 0 = .ok (.iload_n 1, 1) := by decide +kernel
theorem dX6_canGo_1 : decode cX6_canGo 1 = .ok (.aload_n 0, 1) := by decide +kernel
theorem dX6_canGo_2 : decode cX6_canGo 2 = .ok (.getfield 27, 3) := by decide +kernel
theorem dX6_canGo_5 : decode cX6_canGo 5 = .ok (.if_icmp .lt 26, 3) := by decide +kernel
theorem dX6_canGo_8 : decode cX6_canGo 8 = .ok (.iload_n 1, 1) := by decide +kernel
theorem dX6_canGo_9 : decode cX6_canGo 9 = .ok (.aload_n 0, 1) := by decide +kernel
theorem dX6_canGo_10 : decode cX6_canGo 10 = .ok (.getfield 30, 3) := by decide +kernel
theorem dX6_canGo_13 : decode cX6_canGo 13 = .ok (.if_icmp .gt 18, 3) := by decide +kernel
theorem dX6_canGo_16 : decode cX6_canGo 16 = .ok (.iload_n 1, 1) := by decide +kernel
theorem dX6_canGo_17 : decode cX6_canGo 17 = .ok (.iconst 1, 1) := by decide +kernel
theorem dX6_canGo_18 : decode cX6_canGo 18 = .ok (.if_icmp .lt 13, 3) := by decide +kernel
theorem dX6_canGo_21 : decode cX6_canGo 21 = .ok (.iload_n 1, 1) := by decide +kernel
theorem dX6_canGo_22 : decode cX6_canGo 22 = .ok (.bipush 9, 2) := by decide +kernel
theorem dX6_canGo_24 : decode cX6_canGo 24 = .ok (.if_icmp .gt 7, 3) := by decide +kernel
theorem dX6_canGo_27 : decode cX6_canGo 27 = .ok (.iconst 1, 1) := by decide +kernel
theorem dX6_canGo_28 : decode cX6_canGo 28 = .ok (.goto 4, 3) := by decide +kernel
theorem dX6_canGo_31 : decode cX6_canGo 31 = .ok (.iconst 0, 1) := by decide +kernel
theorem dX6_canGo_32 : decode cX6_canGo 32 = .ok (.ireturn, 1) := by decide +kernel
theorem dX6_shield_0 : decode cX6_shield 0 = .ok (.aload_n 0, 1) := by decide +kernel
theorem dX6_shield_1 : decode cX6_shield 1 = .ok (.getfield 9, 3) := by decide +kernel
theorem dX6_shield_4 : decode cX6_shield 4 = .ok (.iconst 3, 1) := by decide +kernel
theorem dX6_shield_5 : decode cX6_shield 5 = .ok (.if_icmp .ne 10, 3) := by decide +kernel
theorem dX6_shield_8 : decode cX6_shield 8 = .ok (.aload_n 0, 1) := by decide +kernel
theorem dX6_shield_9 : decode cX6_shield 9 = .ok (.getfield 15, 3) := by decide +kernel
theorem dX6_shield_12 : decode cX6_shield 12 = .ok (.goto 4, 3) := by decide +kernel
theorem dX6_shield_15 : decode cX6_shield 15 = .ok (.iconst 0, 1) := by decide +kernel
theorem dX6_shield_16 : decode cX6_shield 16 = .ok (.ireturn, 1) := by decide +kernel
theorem dX6_tell_0 : decode cX6_tell 0 = .ok (.iload_n 1, 1) := by decide +kernel
theorem dX6_tell_1 : decode cX6_tell 1 = .ok (.tableswitch 69 0 5 #[39, 44, 49, 54, 59, 64], 39) := by decide +kernel
theorem dX6_tell_40 : decode cX6_tell 40 = .ok (.aload_n 0, 1) := by decide +kernel
theorem dX6_tell_41 : decode cX6_tell 41 = .ok (.getfield 9, 3) := by decide +kernel
theorem dX6_tell_44 : decode cX6_tell 44 = .ok (.ireturn, 1) := by decide +kernel
theorem dX6_tell_45 : decode cX6_tell 45 = .ok (.aload_n 0, 1) := by decide +kernel
theorem dX6_tell_46 : decode cX6_tell 46 = .ok (.getfield 15, 3) := by decide +kernel
theorem dX6_tell_49 : decode cX6_tell 49 = .ok (.ireturn, 1) := by decide +kernel
theorem dX6_tell_50 : decode cX6_tell 50 = .ok (.aload_n 0, 1) := by decide +kernel
theorem dX6_tell_51 : decode cX6_tell 51 = .ok (.getfield 18, 3) := by decide +kernel
theorem dX6_tell_54 : decode cX6_tell 54 = .ok (.ireturn, 1) := by decide +kernel
theorem dX6_tell_55 : decode cX6_tell 55 = .ok (.aload_n 0, 1) := by decide +kernel
theorem dX6_tell_56 : decode cX6_tell 56 = .ok (.getfield 21, 3) := by decide +kernel
theorem dX6_tell_59 : decode cX6_tell 59 = .ok (.ireturn, 1) := by decide +kernel
theorem dX6_tell_60 : decode cX6_tell 60 = .ok (.aload_n 0, 1) := by decide +kernel
theorem dX6_tell_61 : decode cX6_tell 61 = .ok (.getfield 24, 3) := by decide +kernel
theorem dX6_tell_64 : decode cX6_tell 64 = .ok (.ireturn, 1) := by decide +kernel
theorem dX6_tell_65 : decode cX6_tell 65 = .ok (.aload_n 0, 1) := by decide +kernel
theorem dX6_tell_66 : decode cX6_tell 66 = .ok (.getfield 27, 3) := by decide +kernel
theorem dX6_tell_69 : decode cX6_tell 69 = .ok (.ireturn, 1) := by decide +kernel
theorem dX6_tell_70 : decode cX6_tell 70 = .ok (.aload_n 0, 1) := by decide +kernel
theorem dX6_tell_71 : decode cX6_tell 71 = .ok (.getfield 30, 3) := by decide +kernel
theorem dX6_tell_74 : decode cX6_tell 74 = .ok (.ireturn, 1) := by decide +kernel
theorem dX7_init_0 : decode cX7_init 0 = .ok (.aload_n 0, 1) := by decide +kernel
theorem dX7_init_1 : decode cX7_init 1 = .ok (.invokespecial 3, 3) := by decide +kernel
theorem dX7_init_4 : decode cX7_init 4 = .ok (.aload_n 0, 1) := by decide +kernel
theorem dX7_init_5 : decode cX7_init 5 = .ok (.iconst 0, 1) := by decide +kernel
theorem dX7_init_6 : decode cX7_init 6 = .ok (.newarray .int, 2) := by decide +kernel
theorem dX7_init_8 : decode cX7_init 8 = .ok (.putfield 9, 3) := by decide +kernel
theorem dX7_init_11 : decode cX7_init 11 = .ok (.aload_n 0, 1) := by decide +kernel
theorem dX7_init_12 : decode cX7_init 12 = .ok (.iconst 0, 1) := by decide +kernel
theorem dX7_init_13 : decode cX7_init 13 = .ok (.newarray .long, 2) := by decide +kernel
theorem dX7_init_15 : decode cX7_init 15 = .ok (.putfield 15, 3) := by decide +kernel
theorem dX7_init_18 : decode cX7_init 18 = .ok (.aload_n 0, 1) := by decide +kernel
theorem dX7_init_19 : decode cX7_init 19 = .ok (.iconst 0, 1) := by decide +kernel
theorem dX7_init_20 : decode cX7_init 20 = .ok (.newarray .int, 2) := by decide +kernel
theorem dX7_init_22 : decode cX7_init 22 = .ok (.putfield 19, 3) := by decide +kernel
theorem dX7_init_25 : decode cX7_init 25 = .ok (.aload_n 0, 1) := by decide +kernel
theorem dX7_init_26 : decode cX7_init 26 = .ok (.iconst 0, 1) := by decide +kernel
theorem dX7_init_27 : decode cX7_init 27 = .ok (.newarray .int, 2) := by decide +kernel
theorem dX7_init_29 : decode cX7_init 29 = .ok (.putfield 22, 3) := by decide +kernel
theorem dX7_init_32 : decode cX7_init 32 = .ok (.aload_n 0, 1) := by decide +kernel
theorem dX7_init_33 : decode cX7_init 33 = .ok (.iconst 0, 1) := by decide +kernel
theorem dX7_init_34 : decode cX7_init 34 = .ok (.newarray .int, 2) := by decide +kernel
theorem dX7_init_36 : decode cX7_init 36 = .ok (.putfield 25, 3) := by decide +kernel
theorem dX7_init_39 : decode cX7_init 39 = .ok (.aload_n 0, 1) := by decide +kernel
theorem dX7_init_40 : decode cX7_init 40 = .ok (.iconst 0, 1) := by decide +kernel
theorem dX7_init_41 : decode cX7_init 41 = .ok (.newarray .int, 2) := by decide +kernel
theorem dX7_init_43 : decode cX7_init 43 = .ok (.putfield 28, 3) := by decide +kernel
theorem dX7_init_46 : decode cX7_init 46 = .ok (.aload_n 0, 1) := by decide +kernel
theorem dX7_init_47 : decode cX7_init 47 = .ok (.iconst 0, 1) := by decide +kernel
theorem dX7_init_48 : decode cX7_init 48 = .ok (.newarray .long, 2) := by decide +kernel
theorem dX7_init_50 : decode cX7_init 50 = .ok (.putfield 31, 3) := by decide +kernel
theorem dX7_init_53 : decode cX7_init 53 = .ok (.aload_n 0, 1) := by decide +kernel
theorem dX7_init_54 : decode cX7_init 54 = .ok (.iconst 0, 1) := by decide +kernel
theorem dX7_init_55 : decode cX7_init 55 = .ok (.newarray .int, 2) := by decide +kernel
theorem dX7_init_57 : decode cX7_init 57 = .ok (.putfield 34, 3) := by decide +kernel
theorem dX7_init_60 : decode cX7_init 60 = .ok (.aload_n 0, 1) := by decide +kernel
theorem dX7_init_61 : decode cX7_init 61 = .ok (.iconst (-1), 1) := by decide +kernel
theorem dX7_init_62 : decode cX7_init 62 = .ok (.putfield 37, 3) := by decide +kernel
theorem dX7_init_65 : decode cX7_init 65 = .ok (.aload_n 0, 1) := by decide +kernel
theorem dX7_init_66 : decode cX7_init 66 = .ok (.iconst (-1), 1) := by decide +kernel
theorem dX7_init_67 : decode cX7_init 67 = .ok (.putfield 41, 3) := by decide +kernel
theorem dX7_init_70 : decode cX7_init 70 = .ok (.aload_n 0, 1) := by decide +kernel
theorem dX7_init_71 : decode cX7_init 71 = .ok (.iconst (-1), 1) := by decide +kernel
theorem dX7_init_72 : decode cX7_init 72 = .ok (.putfield 44, 3) := by decide +kernel
theorem dX7_init_75 : decode cX7_init 75 = .ok (.aload_n 0, 1) := by decide +kernel
theorem dX7_init_76 : decode cX7_init 76 = .ok (.iconst (-1), 1) := by decide +kernel
theorem dX7_init_77 : decode cX7_init 77 = .ok (.putfield 47, 3) := by decide +kernel
theorem dX7_init_80 : decode cX7_init 80 = .ok (.return_, 1) := by decide +kernel
theorem dX7_forget_0 : decode cX7_forget 0 = .ok (.aload_n 0, 1) := by decide +kernel
theorem dX7_forget_1 : decode cX7_forget 1 = .ok (.iconst (-1), 1) := by decide +kernel
theorem dX7_forget_2 : decode cX7_forget 2 = .ok (.putfield 41, 3) := by decide +kernel
theorem dX7_forget_5 : decode cX7_forget 5 = .ok (.return_, 1) := by decide +kernel
theorem dX7_makeRows_0 : decode cX7_makeRows 0 = .ok (.aload_n 0, 1) := by decide +kernel
theorem dX7_makeRows_1 : decode cX7_makeRows 1 = .ok (.sipush 401, 3) := by decide +kernel
theorem dX7_makeRows_4 : decode cX7_makeRows 4 = .ok (.newarray .int, 2) := by decide +kernel
theorem dX7_makeRows_6 : decode cX7_makeRows 6 = .ok (.putfield 9, 3) := by decide +kernel
theorem dX7_makeRows_9 : decode cX7_makeRows 9 = .ok (.aload_n 0, 1) := by decide +kernel
theorem dX7_makeRows_10 : decode cX7_makeRows 10 = .ok (.sipush 3208, 3) := by decide +kernel
theorem dX7_makeRows_13 : decode cX7_makeRows 13 = .ok (.newarray .long, 2) := by decide +kernel
theorem dX7_makeRows_15 : decode cX7_makeRows 15 = .ok (.putfield 15, 3) := by decide +kernel
theorem dX7_makeRows_18 : decode cX7_makeRows 18 = .ok (.aload_n 0, 1) := by decide +kernel
theorem dX7_makeRows_19 : decode cX7_makeRows 19 = .ok (.sipush 3208, 3) := by decide +kernel
theorem dX7_makeRows_22 : decode cX7_makeRows 22 = .ok (.newarray .int, 2) := by decide +kernel
theorem dX7_makeRows_24 : decode cX7_makeRows 24 = .ok (.putfield 19, 3) := by decide +kernel
theorem dX7_makeRows_27 : decode cX7_makeRows 27 = .ok (.aload_n 0, 1) := by decide +kernel
theorem dX7_makeRows_28 : decode cX7_makeRows 28 = .ok (.sipush 224, 3) := by decide +kernel
theorem dX7_makeRows_31 : decode cX7_makeRows 31 = .ok (.newarray .int, 2) := by decide +kernel
theorem dX7_makeRows_33 : decode cX7_makeRows 33 = .ok (.putfield 22, 3) := by decide +kernel
theorem dX7_makeRows_36 : decode cX7_makeRows 36 = .ok (.aload_n 0, 1) := by decide +kernel
theorem dX7_makeRows_37 : decode cX7_makeRows 37 = .ok (.sipush 224, 3) := by decide +kernel
theorem dX7_makeRows_40 : decode cX7_makeRows 40 = .ok (.newarray .int, 2) := by decide +kernel
theorem dX7_makeRows_42 : decode cX7_makeRows 42 = .ok (.putfield 25, 3) := by decide +kernel
theorem dX7_makeRows_45 : decode cX7_makeRows 45 = .ok (.aload_n 0, 1) := by decide +kernel
theorem dX7_makeRows_46 : decode cX7_makeRows 46 = .ok (.sipush 224, 3) := by decide +kernel
theorem dX7_makeRows_49 : decode cX7_makeRows 49 = .ok (.newarray .int, 2) := by decide +kernel
theorem dX7_makeRows_51 : decode cX7_makeRows 51 = .ok (.putfield 28, 3) := by decide +kernel
theorem dX7_makeRows_54 : decode cX7_makeRows 54 = .ok (.aload_n 0, 1) := by decide +kernel
theorem dX7_makeRows_55 : decode cX7_makeRows 55 = .ok (.sipush 224, 3) := by decide +kernel
theorem dX7_makeRows_58 : decode cX7_makeRows 58 = .ok (.newarray .long, 2) := by decide +kernel
theorem dX7_makeRows_60 : decode cX7_makeRows 60 = .ok (.putfield 31, 3) := by decide +kernel
theorem dX7_makeRows_63 : decode cX7_makeRows 63 = .ok (.aload_n 0, 1) := by decide +kernel
theorem dX7_makeRows_64 : decode cX7_makeRows 64 = .ok (.sipush 224, 3) := by decide +kernel
theorem dX7_makeRows_67 : decode cX7_makeRows 67 = .ok (.newarray .int, 2) := by decide +kernel
theorem dX7_makeRows_69 : decode cX7_makeRows 69 = .ok (.putfield 34, 3) := by decide +kernel
theorem dX7_makeRows_72 : decode cX7_makeRows 72 = .ok (.return_, 1) := by decide +kernel
theorem dX7_reckon_0 : decode cX7_reckon 0 = .ok (.aload_n 0, 1) := by decide +kernel
theorem dX7_reckon_1 : decode cX7_reckon 1 = .ok (.getfield 15, 3) := by decide +kernel
theorem dX7_reckon_4 : decode cX7_reckon 4 = .ok (.arraylength, 1) := by decide +kernel
theorem dX7_reckon_5 : decode cX7_reckon 5 = .ok (.ifCond .ne 7, 3) := by decide +kernel
theorem dX7_reckon_8 : decode cX7_reckon 8 = .ok (.aload_n 0, 1) := by decide +kernel
theorem dX7_reckon_9 : decode cX7_reckon 9 = .ok (.invokevirtual 50, 3) := by decide +kernel
theorem dX7_reckon_12 : decode cX7_reckon 12 = .ok (.iload_n 3, 1) := by decide +kernel
theorem dX7_reckon_13 : decode cX7_reckon 13 = .ok (.aload_n 0, 1) := by decide +kernel
theorem dX7_reckon_14 : decode cX7_reckon 14 = .ok (.getfield 41, 3) := by decide +kernel
theorem dX7_reckon_17 : decode cX7_reckon 17 = .ok (.if_icmp .ne 21, 3) := by decide +kernel
theorem dX7_reckon_20 : decode cX7_reckon 20 = .ok (.iload 4, 2) := by decide +kernel
theorem dX7_reckon_22 : decode cX7_reckon 22 = .ok (.aload_n 0, 1) := by decide +kernel
theorem dX7_reckon_23 : decode cX7_reckon 23 = .ok (.getfield 44, 3) := by decide +kernel
theorem dX7_reckon_26 : decode cX7_reckon 26 = .ok (.if_icmp .ne 12, 3) := by decide +kernel
theorem dX7_reckon_29 : decode cX7_reckon 29 = .ok (.iload 5, 2) := by decide +kernel
theorem dX7_reckon_31 : decode cX7_reckon 31 = .ok (.aload_n 0, 1) := by decide +kernel
theorem dX7_reckon_32 : decode cX7_reckon 32 = .ok (.getfield 47, 3) := by decide +kernel
theorem dX7_reckon_35 : decode cX7_reckon 35 = .ok (.if_icmp .eq 33, 3) := by decide +kernel
theorem dX7_reckon_38 : decode cX7_reckon 38 = .ok (.aload_n 0, 1) := by decide +kernel
theorem dX7_reckon_39 : decode cX7_reckon 39 = .ok (.iload_n 3, 1) := by decide +kernel
theorem dX7_reckon_40 : decode cX7_reckon 40 = .ok (.putfield 41, 3) := by decide +kernel
theorem dX7_reckon_43 : decode cX7_reckon 43 = .ok (.aload_n 0, 1) := by decide +kernel
theorem dX7_reckon_44 : decode cX7_reckon 44 = .ok (.iload 4, 2) := by decide +kernel
theorem dX7_reckon_46 : decode cX7_reckon 46 = .ok (.putfield 44, 3) := by decide +kernel
theorem dX7_reckon_49 : decode cX7_reckon 49 = .ok (.aload_n 0, 1) := by decide +kernel
theorem dX7_reckon_50 : decode cX7_reckon 50 = .ok (.iload 5, 2) := by decide +kernel
theorem dX7_reckon_52 : decode cX7_reckon 52 = .ok (.putfield 47, 3) := by decide +kernel
theorem dX7_reckon_55 : decode cX7_reckon 55 = .ok (.aload_n 0, 1) := by decide +kernel
theorem dX7_reckon_56 : decode cX7_reckon 56 = .ok (.iload 5, 2) := by decide +kernel
theorem dX7_reckon_58 : decode cX7_reckon 58 = .ok (.iconst 1, 1) := by decide +kernel
theorem dX7_reckon_59 : decode cX7_reckon 59 = .ok (.iadd, 1) := by decide +kernel
theorem dX7_reckon_60 : decode cX7_reckon 60 = .ok (.putfield 53, 3) := by decide +kernel
theorem dX7_reckon_63 : decode cX7_reckon 63 = .ok (.aload_n 0, 1) := by decide +kernel
theorem dX7_reckon_64 : decode cX7_reckon 64 = .ok (.iconst (-1), 1) := by decide +kernel
theorem dX7_reckon_65 : decode cX7_reckon 65 = .ok (.putfield 37, 3) := by decide +kernel
theorem dX7_reckon_68 : decode cX7_reckon 68 = .ok (.aload_n 0, 1) := by decide +kernel
theorem dX7_reckon_69 : decode cX7_reckon 69 = .ok (.getfield 53, 3) := by decide +kernel
theorem dX7_reckon_72 : decode cX7_reckon 72 = .ok (.iconst 1, 1) := by decide +kernel
theorem dX7_reckon_73 : decode cX7_reckon 73 = .ok (.isub, 1) := by decide +kernel
theorem dX7_reckon_74 : decode cX7_reckon 74 = .ok (.istore 7, 2) := by decide +kernel
theorem dX7_reckon_76 : decode cX7_reckon 76 = .ok (.iload 7, 2) := by decide +kernel
theorem dX7_reckon_78 : decode cX7_reckon 78 = .ok (.iload 6, 2) := by decide +kernel
theorem dX7_reckon_80 : decode cX7_reckon 80 = .ok (.if_icmp .lt 62, 3) := by decide +kernel
theorem dX7_reckon_83 : decode cX7_reckon 83 = .ok (.iload 7, 2) := by decide +kernel
theorem dX7_reckon_85 : decode cX7_reckon 85 = .ok (.ifCond .lt 57, 3) := by decide +kernel
theorem dX7_reckon_88 : decode cX7_reckon 88 = .ok (.aload_n 1, 1) := by decide +kernel
theorem dX7_reckon_89 : decode cX7_reckon 89 = .ok (.iload 7, 2) := by decide +kernel
theorem dX7_reckon_91 : decode cX7_reckon 91 = .ok (.invokevirtual 56, 3) := by decide +kernel
theorem dX7_reckon_94 : decode cX7_reckon 94 = .ok (.aload_n 1, 1) := by decide +kernel
theorem dX7_reckon_95 : decode cX7_reckon 95 = .ok (.getfield 62, 3) := by decide +kernel
theorem dX7_reckon_98 : decode cX7_reckon 98 = .ok (.invokestatic 65, 3) := by decide +kernel
theorem dX7_reckon_101 : decode cX7_reckon 101 = .ok (.istore 8, 2) := by decide +kernel
theorem dX7_reckon_103 : decode cX7_reckon 103 = .ok (.iload 8, 2) := by decide +kernel
theorem dX7_reckon_105 : decode cX7_reckon 105 = .ok (.aload_n 0, 1) := by decide +kernel
theorem dX7_reckon_106 : decode cX7_reckon 106 = .ok (.getfield 37, 3) := by decide +kernel
theorem dX7_reckon_109 : decode cX7_reckon 109 = .ok (.if_icmp .eq 11, 3) := by decide +kernel
theorem dX7_reckon_112 : decode cX7_reckon 112 = .ok (.aload_n 0, 1) := by decide +kernel
theorem dX7_reckon_113 : decode cX7_reckon 113 = .ok (.aload_n 1, 1) := by decide +kernel
theorem dX7_reckon_114 : decode cX7_reckon 114 = .ok (.aload_n 2, 1) := by decide +kernel
theorem dX7_reckon_115 : decode cX7_reckon 115 = .ok (.iload 8, 2) := by decide +kernel
theorem dX7_reckon_117 : decode cX7_reckon 117 = .ok (.invokevirtual 71, 3) := by decide +kernel
theorem dX7_reckon_120 : decode cX7_reckon 120 = .ok (.aload_n 0, 1) := by decide +kernel
theorem dX7_reckon_121 : decode cX7_reckon 121 = .ok (.aload_n 1, 1) := by decide +kernel
theorem dX7_reckon_122 : decode cX7_reckon 122 = .ok (.getfield 75, 3) := by decide +kernel
theorem dX7_reckon_125 : decode cX7_reckon 125 = .ok (.iload 7, 2) := by decide +kernel
theorem dX7_reckon_127 : decode cX7_reckon 127 = .ok (.invokevirtual 78, 3) := by decide +kernel
theorem dX7_reckon_130 : decode cX7_reckon 130 = .ok (.aload_n 0, 1) := by decide +kernel
theorem dX7_reckon_131 : decode cX7_reckon 131 = .ok (.iload 7, 2) := by decide +kernel
theorem dX7_reckon_133 : decode cX7_reckon 133 = .ok (.putfield 53, 3) := by decide +kernel
theorem dX7_reckon_136 : decode cX7_reckon 136 = .ok (.iinc 7 (-1), 3) := by decide +kernel
theorem dX7_reckon_139 : decode cX7_reckon 139 = .ok (.goto (-63), 3) := by decide +kernel
theorem dX7_reckon_142 : decode cX7_reckon 142 = .ok (.return_, 1) := by decide +kernel
theorem dX7_price_0 : decode cX7_price 0 = .ok (.aload_n 0, 1) := by decide +kernel
theorem dX7_price_1 : decode cX7_price 1 = .ok (.iload_n 3, 1) := by decide +kernel
theorem dX7_price_2 : decode cX7_price 2 = .ok (.putfield 37, 3) := by decide +kernel
theorem dX7_price_5 : decode cX7_price 5 = .ok (.aload_n 0, 1) := by decide +kernel
theorem dX7_price_6 : decode cX7_price 6 = .ok (.iconst 0, 1) := by decide +kernel
theorem dX7_price_7 : decode cX7_price 7 = .ok (.putfield 82, 3) := by decide +kernel
theorem dX7_price_10 : decode cX7_price 10 = .ok (.aload_n 1, 1) := by decide +kernel
theorem dX7_price_11 : decode cX7_price 11 = .ok (.aload_n 0, 1) := by decide +kernel
theorem dX7_price_12 : decode cX7_price 12 = .ok (.getfield 41, 3) := by decide +kernel
theorem dX7_price_15 : decode cX7_price 15 = .ok (.invokevirtual 85, 3) := by decide +kernel
theorem dX7_price_18 : decode cX7_price 18 = .ok (.ifCond .ne 4, 3) := by decide +kernel
theorem dX7_price_21 : decode cX7_price 21 = .ok (.return_, 1) := by decide +kernel
theorem dX7_price_22 : decode cX7_price 22 = .ok (.aload_n 1, 1) := by decide +kernel
theorem dX7_price_23 : decode cX7_price 23 = .ok (.getfield 89, 3) := by decide +kernel
theorem dX7_price_26 : decode cX7_price 26 = .ok (.aload_n 0, 1) := by decide +kernel
theorem dX7_price_27 : decode cX7_price 27 = .ok (.getfield 41, 3) := by decide +kernel
theorem dX7_price_30 : decode cX7_price 30 = .ok (.aaload, 1) := by decide +kernel
theorem dX7_price_31 : decode cX7_price 31 = .ok (.astore 4, 2) := by decide +kernel
theorem dX7_price_33 : decode cX7_price 33 = .ok (.aload_n 1, 1) := by decide +kernel
theorem dX7_price_34 : decode cX7_price 34 = .ok (.iload_n 3, 1) := by decide +kernel
theorem dX7_price_35 : decode cX7_price 35 = .ok (.invokevirtual 92, 3) := by decide +kernel
theorem dX7_price_38 : decode cX7_price 38 = .ok (.ifCond .ne 7, 3) := by decide +kernel
theorem dX7_price_41 : decode cX7_price 41 = .ok (.iconst 1, 1) := by decide +kernel
theorem dX7_price_42 : decode cX7_price 42 = .ok (.goto 4, 3) := by decide +kernel
theorem dX7_price_45 : decode cX7_price 45 = .ok (.iconst 0, 1) := by decide +kernel
theorem dX7_price_46 : decode cX7_price 46 = .ok (.istore 5, 2) := by decide +kernel
theorem dX7_price_48 : decode cX7_price 48 = .ok (.iconst 0, 1) := by decide +kernel
theorem dX7_price_49 : decode cX7_price 49 = .ok (.istore 6, 2) := by decide +kernel
theorem dX7_price_51 : decode cX7_price 51 = .ok (.iload 6, 2) := by decide +kernel
theorem dX7_price_53 : decode cX7_price 53 = .ok (.iconst 2, 1) := by decide +kernel
theorem dX7_price_54 : decode cX7_price 54 = .ok (.aload_n 1, 1) := by decide +kernel
theorem dX7_price_55 : decode cX7_price 55 = .ok (.getfield 95, 3) := by decide +kernel
theorem dX7_price_58 : decode cX7_price 58 = .ok (.imul, 1) := by decide +kernel
theorem dX7_price_59 : decode cX7_price 59 = .ok (.if_icmp .ge 117, 3) := by decide +kernel
theorem dX7_price_62 : decode cX7_price 62 = .ok (.aload_n 1, 1) := by decide +kernel
theorem dX7_price_63 : decode cX7_price 63 = .ok (.getfield 98, 3) := by decide +kernel
theorem dX7_price_66 : decode cX7_price 66 = .ok (.iload 6, 2) := by decide +kernel
theorem dX7_price_68 : decode cX7_price 68 = .ok (.iconst 2, 1) := by decide +kernel
theorem dX7_price_69 : decode cX7_price 69 = .ok (.idiv, 1) := by decide +kernel
theorem dX7_price_70 : decode cX7_price 70 = .ok (.aaload, 1) := by decide +kernel
theorem dX7_price_71 : decode cX7_price 71 = .ok (.astore 7, 2) := by decide +kernel
theorem dX7_price_73 : decode cX7_price 73 = .ok (.iload 6, 2) := by decide +kernel
theorem dX7_price_75 : decode cX7_price 75 = .ok (.iconst 2, 1) := by decide +kernel
theorem dX7_price_76 : decode cX7_price 76 = .ok (.irem, 1) := by decide +kernel
theorem dX7_price_77 : decode cX7_price 77 = .ok (.istore 8, 2) := by decide +kernel
theorem dX7_price_79 : decode cX7_price 79 = .ok (.aload 4, 2) := by decide +kernel
theorem dX7_price_81 : decode cX7_price 81 = .ok (.getfield 102, 3) := by decide +kernel
theorem dX7_price_84 : decode cX7_price 84 = .ok (.istore 9, 2) := by decide +kernel
theorem dX7_price_86 : decode cX7_price 86 = .ok (.iload 9, 2) := by decide +kernel
theorem dX7_price_88 : decode cX7_price 88 = .ok (.aload 4, 2) := by decide +kernel
theorem dX7_price_90 : decode cX7_price 90 = .ok (.getfield 107, 3) := by decide +kernel
theorem dX7_price_93 : decode cX7_price 93 = .ok (.if_icmp .gt 77, 3) := by decide +kernel
theorem dX7_price_96 : decode cX7_price 96 = .ok (.iload 5, 2) := by decide +kernel
theorem dX7_price_98 : decode cX7_price 98 = .ok (.ifCond .eq 7, 3) := by decide +kernel
theorem dX7_price_101 : decode cX7_price 101 = .ok (.lconst 0, 1) := by decide +kernel
theorem dX7_price_102 : decode cX7_price 102 = .ok (.goto 32, 3) := by decide +kernel
theorem dX7_price_105 : decode cX7_price 105 = .ok (.aload_n 2, 1) := by decide +kernel
theorem dX7_price_106 : decode cX7_price 106 = .ok (.aload 4, 2) := by decide +kernel
theorem dX7_price_108 : decode cX7_price 108 = .ok (.aload 7, 2) := by decide +kernel
theorem dX7_price_110 : decode cX7_price 110 = .ok (.iload 8, 2) := by decide +kernel
theorem dX7_price_112 : decode cX7_price 112 = .ok (.aload_n 1, 1) := by decide +kernel
theorem dX7_price_113 : decode cX7_price 113 = .ok (.getfield 110, 3) := by decide +kernel
theorem dX7_price_116 : decode cX7_price 116 = .ok (.iload_n 3, 1) := by decide +kernel
theorem dX7_price_117 : decode cX7_price 117 = .ok (.aaload, 1) := by decide +kernel
theorem dX7_price_118 : decode cX7_price 118 = .ok (.iload 9, 2) := by decide +kernel
theorem dX7_price_120 : decode cX7_price 120 = .ok (.invokevirtual 114, 3) := by decide +kernel
theorem dX7_price_123 : decode cX7_price 123 = .ok (.aload_n 1, 1) := by decide +kernel
theorem dX7_price_124 : decode cX7_price 124 = .ok (.getfield 110, 3) := by decide +kernel
theorem dX7_price_127 : decode cX7_price 127 = .ok (.iload_n 3, 1) := by decide +kernel
theorem dX7_price_128 : decode cX7_price 128 = .ok (.aaload, 1) := by decide +kernel
theorem dX7_price_129 : decode cX7_price 129 = .ok (.getfield 120, 3) := by decide +kernel
theorem dX7_price_132 : decode cX7_price 132 = .ok (.i2l, 1) := by decide +kernel
theorem dX7_price_133 : decode cX7_price 133 = .ok (.lmul, 1) := by decide +kernel
theorem dX7_price_134 : decode cX7_price 134 = .ok (.lstore 10, 2) := by decide +kernel
theorem dX7_price_136 : decode cX7_price 136 = .ok (.aload_n 0, 1) := by decide +kernel
theorem dX7_price_137 : decode cX7_price 137 = .ok (.aload 7, 2) := by decide +kernel
theorem dX7_price_139 : decode cX7_price 139 = .ok (.iload 8, 2) := by decide +kernel
theorem dX7_price_141 : decode cX7_price 141 = .ok (.iload 9, 2) := by decide +kernel
theorem dX7_price_143 : decode cX7_price 143 = .ok (.lload 10, 2) := by decide +kernel
theorem dX7_price_145 : decode cX7_price 145 = .ok (.bipush 100, 2) := by decide +kernel
theorem dX7_price_147 : decode cX7_price 147 = .ok (.iload 6, 2) := by decide +kernel
theorem dX7_price_149 : decode cX7_price 149 = .ok (.iconst 2, 1) := by decide +kernel
theorem dX7_price_150 : decode cX7_price 150 = .ok (.idiv, 1) := by decide +kernel
theorem dX7_price_151 : decode cX7_price 151 = .ok (.imul, 1) := by decide +kernel
theorem dX7_price_152 : decode cX7_price 152 = .ok (.bipush 10, 2) := by decide +kernel
theorem dX7_price_154 : decode cX7_price 154 = .ok (.iload 8, 2) := by decide +kernel
theorem dX7_price_156 : decode cX7_price 156 = .ok (.imul, 1) := by decide +kernel
theorem dX7_price_157 : decode cX7_price 157 = .ok (.iadd, 1) := by decide +kernel
theorem dX7_price_158 : decode cX7_price 158 = .ok (.iload 9, 2) := by decide +kernel
theorem dX7_price_160 : decode cX7_price 160 = .ok (.iadd, 1) := by decide +kernel
theorem dX7_price_161 : decode cX7_price 161 = .ok (.invokevirtual 125, 3) := by decide +kernel
theorem dX7_price_164 : decode cX7_price 164 = .ok (.iinc 9 1, 3) := by decide +kernel
theorem dX7_price_167 : decode cX7_price 167 = .ok (.goto (-81), 3) := by decide +kernel
theorem dX7_price_170 : decode cX7_price 170 = .ok (.iinc 6 1, 3) := by decide +kernel
theorem dX7_price_173 : decode cX7_price 173 = .ok (.goto (-122), 3) := by decide +kernel
theorem dX7_price_176 : decode cX7_price 176 = .ok (.iconst 0, 1) := by decide +kernel
theorem dX7_price_177 : decode cX7_price 177 = .ok (.istore 6, 2) := by decide +kernel
theorem dX7_price_179 : decode cX7_price 179 = .ok (.iload 6, 2) := by decide +kernel
theorem dX7_price_181 : decode cX7_price 181 = .ok (.aload_n 1, 1) := by decide +kernel
theorem dX7_price_182 : decode cX7_price 182 = .ok (.getfield 75, 3) := by decide +kernel
theorem dX7_price_185 : decode cX7_price 185 = .ok (.if_icmp .ge 66, 3) := by decide +kernel
theorem dX7_price_188 : decode cX7_price 188 = .ok (.aload_n 1, 1) := by decide +kernel
theorem dX7_price_189 : decode cX7_price 189 = .ok (.iload 6, 2) := by decide +kernel
theorem dX7_price_191 : decode cX7_price 191 = .ok (.invokevirtual 129, 3) := by decide +kernel
theorem dX7_price_194 : decode cX7_price 194 = .ok (.ifCond .eq 51, 3) := by decide +kernel
theorem dX7_price_197 : decode cX7_price 197 = .ok (.iload 5, 2) := by decide +kernel
theorem dX7_price_199 : decode cX7_price 199 = .ok (.ifCond .eq 7, 3) := by decide +kernel
theorem dX7_price_202 : decode cX7_price 202 = .ok (.lconst 0, 1) := by decide +kernel
theorem dX7_price_203 : decode cX7_price 203 = .ok (.goto 27, 3) := by decide +kernel
theorem dX7_price_206 : decode cX7_price 206 = .ok (.aload_n 1, 1) := by decide +kernel
theorem dX7_price_207 : decode cX7_price 207 = .ok (.aload 4, 2) := by decide +kernel
theorem dX7_price_209 : decode cX7_price 209 = .ok (.iload 6, 2) := by decide +kernel
theorem dX7_price_211 : decode cX7_price 211 = .ok (.invokevirtual 132, 3) := by decide +kernel
theorem dX7_price_214 : decode cX7_price 214 = .ok (.i2l, 1) := by decide +kernel
theorem dX7_price_215 : decode cX7_price 215 = .ok (.ldc2_w 136, 3) := by decide +kernel
theorem dX7_price_218 : decode cX7_price 218 = .ok (.lmul, 1) := by decide +kernel
theorem dX7_price_219 : decode cX7_price 219 = .ok (.aload_n 1, 1) := by decide +kernel
theorem dX7_price_220 : decode cX7_price 220 = .ok (.getfield 110, 3) := by decide +kernel
theorem dX7_price_223 : decode cX7_price 223 = .ok (.iload_n 3, 1) := by decide +kernel
theorem dX7_price_224 : decode cX7_price 224 = .ok (.aaload, 1) := by decide +kernel
theorem dX7_price_225 : decode cX7_price 225 = .ok (.getfield 120, 3) := by decide +kernel
theorem dX7_price_228 : decode cX7_price 228 = .ok (.i2l, 1) := by decide +kernel
theorem dX7_price_229 : decode cX7_price 229 = .ok (.lmul, 1) := by decide +kernel
theorem dX7_price_230 : decode cX7_price 230 = .ok (.lstore 7, 2) := by decide +kernel
theorem dX7_price_232 : decode cX7_price 232 = .ok (.aload_n 0, 1) := by decide +kernel
theorem dX7_price_233 : decode cX7_price 233 = .ok (.iload 6, 2) := by decide +kernel
theorem dX7_price_235 : decode cX7_price 235 = .ok (.iload 6, 2) := by decide +kernel
theorem dX7_price_237 : decode cX7_price 237 = .ok (.iconst 1, 1) := by decide +kernel
theorem dX7_price_238 : decode cX7_price 238 = .ok (.lload 7, 2) := by decide +kernel
theorem dX7_price_240 : decode cX7_price 240 = .ok (.bipush (-2), 2) := by decide +kernel
theorem dX7_price_242 : decode cX7_price 242 = .ok (.invokevirtual 138, 3) := by decide +kernel
theorem dX7_price_245 : decode cX7_price 245 = .ok (.iinc 6 1, 3) := by decide +kernel
theorem dX7_price_248 : decode cX7_price 248 = .ok (.goto (-69), 3) := by decide +kernel
theorem dX7_price_251 : decode cX7_price 251 = .ok (.return_, 1) := by decide +kernel
theorem dX7_addLeg_0 : decode cX7_addLeg 0 = .ok (.aload_n 1, 1) := by decide +kernel
theorem dX7_addLeg_1 : decode cX7_addLeg 1 = .ok (.iload_n 3, 1) := by decide +kernel
theorem dX7_addLeg_2 : decode cX7_addLeg 2 = .ok (.invokevirtual 142, 3) := by decide +kernel
theorem dX7_addLeg_5 : decode cX7_addLeg 5 = .ok (.istore 7, 2) := by decide +kernel
theorem dX7_addLeg_7 : decode cX7_addLeg 7 = .ok (.aload_n 0, 1) := by decide +kernel
theorem dX7_addLeg_8 : decode cX7_addLeg 8 = .ok (.getfield 82, 3) := by decide +kernel
theorem dX7_addLeg_11 : decode cX7_addLeg 11 = .ok (.iconst 1, 1) := by decide +kernel
theorem dX7_addLeg_12 : decode cX7_addLeg 12 = .ok (.isub, 1) := by decide +kernel
theorem dX7_addLeg_13 : decode cX7_addLeg 13 = .ok (.istore 8, 2) := by decide +kernel
theorem dX7_addLeg_15 : decode cX7_addLeg 15 = .ok (.iload 8, 2) := by decide +kernel
theorem dX7_addLeg_17 : decode cX7_addLeg 17 = .ok (.ifCond .lt 65, 3) := by decide +kernel
theorem dX7_addLeg_20 : decode cX7_addLeg 20 = .ok (.iload 8, 2) := by decide +kernel
theorem dX7_addLeg_22 : decode cX7_addLeg 22 = .ok (.sipush 224, 3) := by decide +kernel
theorem dX7_addLeg_25 : decode cX7_addLeg 25 = .ok (.if_icmp .ge 57, 3) := by decide +kernel
theorem dX7_addLeg_28 : decode cX7_addLeg 28 = .ok (.aload_n 0, 1) := by decide +kernel
theorem dX7_addLeg_29 : decode cX7_addLeg 29 = .ok (.getfield 34, 3) := by decide +kernel
theorem dX7_addLeg_32 : decode cX7_addLeg 32 = .ok (.iload 8, 2) := by decide +kernel
theorem dX7_addLeg_34 : decode cX7_addLeg 34 = .ok (.iaload, 1) := by decide +kernel
theorem dX7_addLeg_35 : decode cX7_addLeg 35 = .ok (.bipush 10, 2) := by decide +kernel
theorem dX7_addLeg_37 : decode cX7_addLeg 37 = .ok (.idiv, 1) := by decide +kernel
theorem dX7_addLeg_38 : decode cX7_addLeg 38 = .ok (.iload 6, 2) := by decide +kernel
theorem dX7_addLeg_40 : decode cX7_addLeg 40 = .ok (.bipush 10, 2) := by decide +kernel
theorem dX7_addLeg_42 : decode cX7_addLeg 42 = .ok (.idiv, 1) := by decide +kernel
theorem dX7_addLeg_43 : decode cX7_addLeg 43 = .ok (.if_icmp .ne 39, 3) := by decide +kernel
theorem dX7_addLeg_46 : decode cX7_addLeg 46 = .ok (.aload_n 0, 1) := by decide +kernel
theorem dX7_addLeg_47 : decode cX7_addLeg 47 = .ok (.getfield 28, 3) := by decide +kernel
theorem dX7_addLeg_50 : decode cX7_addLeg 50 = .ok (.iload 8, 2) := by decide +kernel
theorem dX7_addLeg_52 : decode cX7_addLeg 52 = .ok (.iaload, 1) := by decide +kernel
theorem dX7_addLeg_53 : decode cX7_addLeg 53 = .ok (.iload 7, 2) := by decide +kernel
theorem dX7_addLeg_55 : decode cX7_addLeg 55 = .ok (.if_icmp .ne 27, 3) := by decide +kernel
theorem dX7_addLeg_58 : decode cX7_addLeg 58 = .ok (.aload_n 0, 1) := by decide +kernel
theorem dX7_addLeg_59 : decode cX7_addLeg 59 = .ok (.getfield 31, 3) := by decide +kernel
theorem dX7_addLeg_62 : decode cX7_addLeg 62 = .ok (.iload 8, 2) := by decide +kernel
theorem dX7_addLeg_64 : decode cX7_addLeg 64 = .ok (.laload, 1) := by decide +kernel
theorem dX7_addLeg_65 : decode cX7_addLeg 65 = .ok (.lload 4, 2) := by decide +kernel
theorem dX7_addLeg_67 : decode cX7_addLeg 67 = .ok (.ldc2_w 147, 3) := by decide +kernel
theorem dX7_addLeg_70 : decode cX7_addLeg 70 = .ok (.lmul, 1) := by decide +kernel
theorem dX7_addLeg_71 : decode cX7_addLeg 71 = .ok (.lcmp, 1) := by decide +kernel
theorem dX7_addLeg_72 : decode cX7_addLeg 72 = .ok (.ifCond .gt 4, 3) := by decide +kernel
theorem dX7_addLeg_75 : decode cX7_addLeg 75 = .ok (.return_, 1) := by decide +kernel
theorem dX7_addLeg_76 : decode cX7_addLeg 76 = .ok (.aload_n 0, 1) := by decide +kernel
theorem dX7_addLeg_77 : decode cX7_addLeg 77 = .ok (.iload 8, 2) := by decide +kernel
theorem dX7_addLeg_79 : decode cX7_addLeg 79 = .ok (.putfield 82, 3) := by decide +kernel
theorem dX7_addLeg_82 : decode cX7_addLeg 82 = .ok (.aload_n 0, 1) := by decide +kernel
theorem dX7_addLeg_83 : decode cX7_addLeg 83 = .ok (.aload_n 1, 1) := by decide +kernel
theorem dX7_addLeg_84 : decode cX7_addLeg 84 = .ok (.iload_n 2, 1) := by decide +kernel
theorem dX7_addLeg_85 : decode cX7_addLeg 85 = .ok (.invokevirtual 149, 3) := by decide +kernel
theorem dX7_addLeg_88 : decode cX7_addLeg 88 = .ok (.aload_n 1, 1) := by decide +kernel
theorem dX7_addLeg_89 : decode cX7_addLeg 89 = .ok (.iload_n 2, 1) := by decide +kernel
theorem dX7_addLeg_90 : decode cX7_addLeg 90 = .ok (.invokevirtual 152, 3) := by decide +kernel
theorem dX7_addLeg_93 : decode cX7_addLeg 93 = .ok (.iload 7, 2) := by decide +kernel
theorem dX7_addLeg_95 : decode cX7_addLeg 95 = .ok (.lload 4, 2) := by decide +kernel
theorem dX7_addLeg_97 : decode cX7_addLeg 97 = .ok (.iload 6, 2) := by decide +kernel
theorem dX7_addLeg_99 : decode cX7_addLeg 99 = .ok (.invokevirtual 138, 3) := by decide +kernel
theorem dX7_addLeg_102 : decode cX7_addLeg 102 = .ok (.return_, 1) := by decide +kernel
theorem dX7_addMove_0 : decode cX7_addMove 0 = .ok (.iload_n 1, 1) := by decide +kernel
theorem dX7_addMove_1 : decode cX7_addMove 1 = .ok (.aload_n 0, 1) := by decide +kernel
theorem dX7_addMove_2 : decode cX7_addMove 2 = .ok (.getfield 44, 3) := by decide +kernel
theorem dX7_addMove_5 : decode cX7_addMove 5 = .ok (.if_icmp .eq 20, 3) := by decide +kernel
theorem dX7_addMove_8 : decode cX7_addMove 8 = .ok (.aload_n 0, 1) := by decide +kernel
theorem dX7_addMove_9 : decode cX7_addMove 9 = .ok (.getfield 82, 3) := by decide +kernel
theorem dX7_addMove_12 : decode cX7_addMove 12 = .ok (.ifCond .lt 13, 3) := by decide +kernel
theorem dX7_addMove_15 : decode cX7_addMove 15 = .ok (.aload_n 0, 1) := by decide +kernel
theorem dX7_addMove_16 : decode cX7_addMove 16 = .ok (.getfield 82, 3) := by decide +kernel
theorem dX7_addMove_19 : decode cX7_addMove 19 = .ok (.sipush 224, 3) := by decide +kernel
theorem dX7_addMove_22 : decode cX7_addMove 22 = .ok (.if_icmp .lt 4, 3) := by decide +kernel
theorem dX7_addMove_25 : decode cX7_addMove 25 = .ok (.return_, 1) := by decide +kernel
theorem dX7_addMove_26 : decode cX7_addMove 26 = .ok (.aload_n 0, 1) := by decide +kernel
theorem dX7_addMove_27 : decode cX7_addMove 27 = .ok (.getfield 22, 3) := by decide +kernel
theorem dX7_addMove_30 : decode cX7_addMove 30 = .ok (.aload_n 0, 1) := by decide +kernel
theorem dX7_addMove_31 : decode cX7_addMove 31 = .ok (.getfield 82, 3) := by decide +kernel
theorem dX7_addMove_34 : decode cX7_addMove 34 = .ok (.iload_n 1, 1) := by decide +kernel
theorem dX7_addMove_35 : decode cX7_addMove 35 = .ok (.sipush 401, 3) := by decide +kernel
theorem dX7_addMove_38 : decode cX7_addMove 38 = .ok (.imul, 1) := by decide +kernel
theorem dX7_addMove_39 : decode cX7_addMove 39 = .ok (.iastore, 1) := by decide +kernel
theorem dX7_addMove_40 : decode cX7_addMove 40 = .ok (.aload_n 0, 1) := by decide +kernel
theorem dX7_addMove_41 : decode cX7_addMove 41 = .ok (.getfield 25, 3) := by decide +kernel
theorem dX7_addMove_44 : decode cX7_addMove 44 = .ok (.aload_n 0, 1) := by decide +kernel
theorem dX7_addMove_45 : decode cX7_addMove 45 = .ok (.getfield 82, 3) := by decide +kernel
theorem dX7_addMove_48 : decode cX7_addMove 48 = .ok (.iload_n 2, 1) := by decide +kernel
theorem dX7_addMove_49 : decode cX7_addMove 49 = .ok (.sipush 401, 3) := by decide +kernel
theorem dX7_addMove_52 : decode cX7_addMove 52 = .ok (.imul, 1) := by decide +kernel
theorem dX7_addMove_53 : decode cX7_addMove 53 = .ok (.iload_n 3, 1) := by decide +kernel
theorem dX7_addMove_54 : decode cX7_addMove 54 = .ok (.iadd, 1) := by decide +kernel
theorem dX7_addMove_55 : decode cX7_addMove 55 = .ok (.iastore, 1) := by decide +kernel
theorem dX7_addMove_56 : decode cX7_addMove 56 = .ok (.aload_n 0, 1) := by decide +kernel
theorem dX7_addMove_57 : decode cX7_addMove 57 = .ok (.getfield 28, 3) := by decide +kernel
theorem dX7_addMove_60 : decode cX7_addMove 60 = .ok (.aload_n 0, 1) := by decide +kernel
theorem dX7_addMove_61 : decode cX7_addMove 61 = .ok (.getfield 82, 3) := by decide +kernel
theorem dX7_addMove_64 : decode cX7_addMove 64 = .ok (.iload_n 3, 1) := by decide +kernel
theorem dX7_addMove_65 : decode cX7_addMove 65 = .ok (.iastore, 1) := by decide +kernel
theorem dX7_addMove_66 : decode cX7_addMove 66 = .ok (.aload_n 0, 1) := by decide +kernel
theorem dX7_addMove_67 : decode cX7_addMove 67 = .ok (.getfield 31, 3) := by decide +kernel
theorem dX7_addMove_70 : decode cX7_addMove 70 = .ok (.aload_n 0, 1) := by decide +kernel
theorem dX7_addMove_71 : decode cX7_addMove 71 = .ok (.getfield 82, 3) := by decide +kernel
theorem dX7_addMove_74 : decode cX7_addMove 74 = .ok (.lload 4, 2) := by decide +kernel
theorem dX7_addMove_76 : decode cX7_addMove 76 = .ok (.ldc2_w 147, 3) := by decide +kernel
theorem dX7_addMove_79 : decode cX7_addMove 79 = .ok (.lmul, 1) := by decide +kernel
theorem dX7_addMove_80 : decode cX7_addMove 80 = .ok (.lastore, 1) := by decide +kernel
theorem dX7_addMove_81 : decode cX7_addMove 81 = .ok (.aload_n 0, 1) := by decide +kernel
theorem dX7_addMove_82 : decode cX7_addMove 82 = .ok (.getfield 34, 3) := by decide +kernel
theorem dX7_addMove_85 : decode cX7_addMove 85 = .ok (.aload_n 0, 1) := by decide +kernel
theorem dX7_addMove_86 : decode cX7_addMove 86 = .ok (.getfield 82, 3) := by decide +kernel
theorem dX7_addMove_89 : decode cX7_addMove 89 = .ok (.iload 6, 2) := by decide +kernel
theorem dX7_addMove_91 : decode cX7_addMove 91 = .ok (.iastore, 1) := by decide +kernel
theorem dX7_addMove_92 : decode cX7_addMove 92 = .ok (.aload_n 0, 1) := by decide +kernel
theorem dX7_addMove_93 : decode cX7_addMove 93 = .ok (.dup, 1) := by decide +kernel
theorem dX7_addMove_94 : decode cX7_addMove 94 = .ok (.getfield 82, 3) := by decide +kernel
theorem dX7_addMove_97 : decode cX7_addMove 97 = .ok (.iconst 1, 1) := by decide +kernel
theorem dX7_addMove_98 : decode cX7_addMove 98 = .ok (.iadd, 1) := by decide +kernel
theorem dX7_addMove_99 : decode cX7_addMove 99 = .ok (.putfield 82, 3) := by decide +kernel
theorem dX7_addMove_102 : decode cX7_addMove 102 = .ok (.return_, 1) := by decide +kernel
theorem dX7_reckonMinute_0 : decode cX7_reckonMinute 0 = .ok (.iconst 0, 1) := by decide +kernel
theorem dX7_reckonMinute_1 : decode cX7_reckonMinute 1 = .ok (.istore_n 3, 1) := by decide +kernel
theorem dX7_reckonMinute_2 : decode cX7_reckonMinute 2 = .ok (.iload_n 3, 1) := by decide +kernel
theorem dX7_reckonMinute_3 : decode cX7_reckonMinute 3 = .ok (.iload_n 1, 1) := by decide +kernel
theorem dX7_reckonMinute_4 : decode cX7_reckonMinute 4 = .ok (.if_icmp .ge 56, 3) := by decide +kernel
theorem dX7_reckonMinute_7 : decode cX7_reckonMinute 7 = .ok (.iload_n 3, 1) := by decide +kernel
theorem dX7_reckonMinute_8 : decode cX7_reckonMinute 8 = .ok (.bipush 8, 2) := by decide +kernel
theorem dX7_reckonMinute_10 : decode cX7_reckonMinute 10 = .ok (.if_icmp .ge 50, 3) := by decide +kernel
theorem dX7_reckonMinute_13 : decode cX7_reckonMinute 13 = .ok (.aload_n 0, 1) := by decide +kernel
theorem dX7_reckonMinute_14 : decode cX7_reckonMinute 14 = .ok (.getfield 15, 3) := by decide +kernel
theorem dX7_reckonMinute_17 : decode cX7_reckonMinute 17 = .ok (.iload_n 3, 1) := by decide +kernel
theorem dX7_reckonMinute_18 : decode cX7_reckonMinute 18 = .ok (.sipush 401, 3) := by decide +kernel
theorem dX7_reckonMinute_21 : decode cX7_reckonMinute 21 = .ok (.imul, 1) := by decide +kernel
theorem dX7_reckonMinute_22 : decode cX7_reckonMinute 22 = .ok (.iload_n 2, 1) := by decide +kernel
theorem dX7_reckonMinute_23 : decode cX7_reckonMinute 23 = .ok (.iadd, 1) := by decide +kernel
theorem dX7_reckonMinute_24 : decode cX7_reckonMinute 24 = .ok (.iload_n 3, 1) := by decide +kernel
theorem dX7_reckonMinute_25 : decode cX7_reckonMinute 25 = .ok (.aload_n 0, 1) := by decide +kernel
theorem dX7_reckonMinute_26 : decode cX7_reckonMinute 26 = .ok (.getfield 44, 3) := by decide +kernel
theorem dX7_reckonMinute_29 : decode cX7_reckonMinute 29 = .ok (.if_icmp .ne 8, 3) := by decide +kernel
theorem dX7_reckonMinute_32 : decode cX7_reckonMinute 32 = .ok (.iload_n 2, 1) := by decide +kernel
theorem dX7_reckonMinute_33 : decode cX7_reckonMinute 33 = .ok (.i2l, 1) := by decide +kernel
theorem dX7_reckonMinute_34 : decode cX7_reckonMinute 34 = .ok (.goto 6, 3) := by decide +kernel
theorem dX7_reckonMinute_37 : decode cX7_reckonMinute 37 = .ok (.ldc2_w 155, 3) := by decide +kernel
theorem dX7_reckonMinute_40 : decode cX7_reckonMinute 40 = .ok (.lastore, 1) := by decide +kernel
theorem dX7_reckonMinute_41 : decode cX7_reckonMinute 41 = .ok (.aload_n 0, 1) := by decide +kernel
theorem dX7_reckonMinute_42 : decode cX7_reckonMinute 42 = .ok (.getfield 19, 3) := by decide +kernel
theorem dX7_reckonMinute_45 : decode cX7_reckonMinute 45 = .ok (.iload_n 3, 1) := by decide +kernel
theorem dX7_reckonMinute_46 : decode cX7_reckonMinute 46 = .ok (.sipush 401, 3) := by decide +kernel
theorem dX7_reckonMinute_49 : decode cX7_reckonMinute 49 = .ok (.imul, 1) := by decide +kernel
theorem dX7_reckonMinute_50 : decode cX7_reckonMinute 50 = .ok (.iload_n 2, 1) := by decide +kernel
theorem dX7_reckonMinute_51 : decode cX7_reckonMinute 51 = .ok (.iadd, 1) := by decide +kernel
theorem dX7_reckonMinute_52 : decode cX7_reckonMinute 52 = .ok (.iconst (-1), 1) := by decide +kernel
theorem dX7_reckonMinute_53 : decode cX7_reckonMinute 53 = .ok (.iastore, 1) := by decide +kernel
theorem dX7_reckonMinute_54 : decode cX7_reckonMinute 54 = .ok (.iinc 3 1, 3) := by decide +kernel
theorem dX7_reckonMinute_57 : decode cX7_reckonMinute 57 = .ok (.goto (-55), 3) := by decide +kernel
theorem dX7_reckonMinute_60 : decode cX7_reckonMinute 60 = .ok (.iconst 0, 1) := by decide +kernel
theorem dX7_reckonMinute_61 : decode cX7_reckonMinute 61 = .ok (.istore_n 3, 1) := by decide +kernel
theorem dX7_reckonMinute_62 : decode cX7_reckonMinute 62 = .ok (.iload_n 3, 1) := by decide +kernel
theorem dX7_reckonMinute_63 : decode cX7_reckonMinute 63 = .ok (.aload_n 0, 1) := by decide +kernel
theorem dX7_reckonMinute_64 : decode cX7_reckonMinute 64 = .ok (.getfield 82, 3) := by decide +kernel
theorem dX7_reckonMinute_67 : decode cX7_reckonMinute 67 = .ok (.if_icmp .ge 158, 3) := by decide +kernel
theorem dX7_reckonMinute_70 : decode cX7_reckonMinute 70 = .ok (.iload_n 3, 1) := by decide +kernel
theorem dX7_reckonMinute_71 : decode cX7_reckonMinute 71 = .ok (.sipush 224, 3) := by decide +kernel
theorem dX7_reckonMinute_74 : decode cX7_reckonMinute 74 = .ok (.if_icmp .ge 151, 3) := by decide +kernel
theorem dX7_reckonMinute_77 : decode cX7_reckonMinute 77 = .ok (.aload_n 0, 1) := by decide +kernel
theorem dX7_reckonMinute_78 : decode cX7_reckonMinute 78 = .ok (.getfield 22, 3) := by decide +kernel
theorem dX7_reckonMinute_81 : decode cX7_reckonMinute 81 = .ok (.iload_n 3, 1) := by decide +kernel
theorem dX7_reckonMinute_82 : decode cX7_reckonMinute 82 = .ok (.iaload, 1) := by decide +kernel
theorem dX7_reckonMinute_83 : decode cX7_reckonMinute 83 = .ok (.iload_n 2, 1) := by decide +kernel
theorem dX7_reckonMinute_84 : decode cX7_reckonMinute 84 = .ok (.iadd, 1) := by decide +kernel
theorem dX7_reckonMinute_85 : decode cX7_reckonMinute 85 = .ok (.istore 4, 2) := by decide +kernel
theorem dX7_reckonMinute_87 : decode cX7_reckonMinute 87 = .ok (.aload_n 0, 1) := by decide +kernel
theorem dX7_reckonMinute_88 : decode cX7_reckonMinute 88 = .ok (.getfield 25, 3) := by decide +kernel
theorem dX7_reckonMinute_91 : decode cX7_reckonMinute 91 = .ok (.iload_n 3, 1) := by decide +kernel
theorem dX7_reckonMinute_92 : decode cX7_reckonMinute 92 = .ok (.iaload, 1) := by decide +kernel
theorem dX7_reckonMinute_93 : decode cX7_reckonMinute 93 = .ok (.iload_n 2, 1) := by decide +kernel
theorem dX7_reckonMinute_94 : decode cX7_reckonMinute 94 = .ok (.iadd, 1) := by decide +kernel
theorem dX7_reckonMinute_95 : decode cX7_reckonMinute 95 = .ok (.istore 5, 2) := by decide +kernel
theorem dX7_reckonMinute_97 : decode cX7_reckonMinute 97 = .ok (.aload_n 0, 1) := by decide +kernel
theorem dX7_reckonMinute_98 : decode cX7_reckonMinute 98 = .ok (.getfield 28, 3) := by decide +kernel
theorem dX7_reckonMinute_101 : decode cX7_reckonMinute 101 = .ok (.iload_n 3, 1) := by decide +kernel
theorem dX7_reckonMinute_102 : decode cX7_reckonMinute 102 = .ok (.iaload, 1) := by decide +kernel
theorem dX7_reckonMinute_103 : decode cX7_reckonMinute 103 = .ok (.aload_n 0, 1) := by decide +kernel
theorem dX7_reckonMinute_104 : decode cX7_reckonMinute 104 = .ok (.getfield 47, 3) := by decide +kernel
theorem dX7_reckonMinute_107 : decode cX7_reckonMinute 107 = .ok (.iload_n 2, 1) := by decide +kernel
theorem dX7_reckonMinute_108 : decode cX7_reckonMinute 108 = .ok (.isub, 1) := by decide +kernel
theorem dX7_reckonMinute_109 : decode cX7_reckonMinute 109 = .ok (.if_icmp .gt 7, 3) := by decide +kernel
theorem dX7_reckonMinute_112 : decode cX7_reckonMinute 112 = .ok (.iconst 1, 1) := by decide +kernel
theorem dX7_reckonMinute_113 : decode cX7_reckonMinute 113 = .ok (.goto 4, 3) := by decide +kernel
theorem dX7_reckonMinute_116 : decode cX7_reckonMinute 116 = .ok (.iconst 0, 1) := by decide +kernel
theorem dX7_reckonMinute_117 : decode cX7_reckonMinute 117 = .ok (.istore 6, 2) := by decide +kernel
theorem dX7_reckonMinute_119 : decode cX7_reckonMinute 119 = .ok (.iload 6, 2) := by decide +kernel
theorem dX7_reckonMinute_121 : decode cX7_reckonMinute 121 = .ok (.ifCond .eq 98, 3) := by decide +kernel
theorem dX7_reckonMinute_124 : decode cX7_reckonMinute 124 = .ok (.iload 4, 2) := by decide +kernel
theorem dX7_reckonMinute_126 : decode cX7_reckonMinute 126 = .ok (.ifCond .lt 93, 3) := by decide +kernel
theorem dX7_reckonMinute_129 : decode cX7_reckonMinute 129 = .ok (.iload 4, 2) := by decide +kernel
theorem dX7_reckonMinute_131 : decode cX7_reckonMinute 131 = .ok (.aload_n 0, 1) := by decide +kernel
theorem dX7_reckonMinute_132 : decode cX7_reckonMinute 132 = .ok (.getfield 15, 3) := by decide +kernel
theorem dX7_reckonMinute_135 : decode cX7_reckonMinute 135 = .ok (.arraylength, 1) := by decide +kernel
theorem dX7_reckonMinute_136 : decode cX7_reckonMinute 136 = .ok (.if_icmp .ge 83, 3) := by decide +kernel
theorem dX7_reckonMinute_139 : decode cX7_reckonMinute 139 = .ok (.iload 5, 2) := by decide +kernel
theorem dX7_reckonMinute_141 : decode cX7_reckonMinute 141 = .ok (.ifCond .lt 78, 3) := by decide +kernel
theorem dX7_reckonMinute_144 : decode cX7_reckonMinute 144 = .ok (.iload 5, 2) := by decide +kernel
theorem dX7_reckonMinute_146 : decode cX7_reckonMinute 146 = .ok (.aload_n 0, 1) := by decide +kernel
theorem dX7_reckonMinute_147 : decode cX7_reckonMinute 147 = .ok (.getfield 15, 3) := by decide +kernel
theorem dX7_reckonMinute_150 : decode cX7_reckonMinute 150 = .ok (.arraylength, 1) := by decide +kernel
theorem dX7_reckonMinute_151 : decode cX7_reckonMinute 151 = .ok (.if_icmp .ge 68, 3) := by decide +kernel
theorem dX7_reckonMinute_154 : decode cX7_reckonMinute 154 = .ok (.aload_n 0, 1) := by decide +kernel
theorem dX7_reckonMinute_155 : decode cX7_reckonMinute 155 = .ok (.getfield 15, 3) := by decide +kernel
theorem dX7_reckonMinute_158 : decode cX7_reckonMinute 158 = .ok (.iload 5, 2) := by decide +kernel
theorem dX7_reckonMinute_160 : decode cX7_reckonMinute 160 = .ok (.laload, 1) := by decide +kernel
theorem dX7_reckonMinute_161 : decode cX7_reckonMinute 161 = .ok (.ldc2_w 155, 3) := by decide +kernel
theorem dX7_reckonMinute_164 : decode cX7_reckonMinute 164 = .ok (.lcmp, 1) := by decide +kernel
theorem dX7_reckonMinute_165 : decode cX7_reckonMinute 165 = .ok (.ifCond .eq 54, 3) := by decide +kernel
theorem dX7_reckonMinute_168 : decode cX7_reckonMinute 168 = .ok (.aload_n 0, 1) := by decide +kernel
theorem dX7_reckonMinute_169 : decode cX7_reckonMinute 169 = .ok (.getfield 31, 3) := by decide +kernel
theorem dX7_reckonMinute_172 : decode cX7_reckonMinute 172 = .ok (.iload_n 3, 1) := by decide +kernel
theorem dX7_reckonMinute_173 : decode cX7_reckonMinute 173 = .ok (.laload, 1) := by decide +kernel
theorem dX7_reckonMinute_174 : decode cX7_reckonMinute 174 = .ok (.aload_n 0, 1) := by decide +kernel
theorem dX7_reckonMinute_175 : decode cX7_reckonMinute 175 = .ok (.getfield 15, 3) := by decide +kernel
theorem dX7_reckonMinute_178 : decode cX7_reckonMinute 178 = .ok (.iload 5, 2) := by decide +kernel
theorem dX7_reckonMinute_180 : decode cX7_reckonMinute 180 = .ok (.laload, 1) := by decide +kernel
theorem dX7_reckonMinute_181 : decode cX7_reckonMinute 181 = .ok (.ladd, 1) := by decide +kernel
theorem dX7_reckonMinute_182 : decode cX7_reckonMinute 182 = .ok (.lstore 7, 2) := by decide +kernel
theorem dX7_reckonMinute_184 : decode cX7_reckonMinute 184 = .ok (.lload 7, 2) := by decide +kernel
theorem dX7_reckonMinute_186 : decode cX7_reckonMinute 186 = .ok (.aload_n 0, 1) := by decide +kernel
theorem dX7_reckonMinute_187 : decode cX7_reckonMinute 187 = .ok (.getfield 15, 3) := by decide +kernel
theorem dX7_reckonMinute_190 : decode cX7_reckonMinute 190 = .ok (.iload 4, 2) := by decide +kernel
theorem dX7_reckonMinute_192 : decode cX7_reckonMinute 192 = .ok (.laload, 1) := by decide +kernel
theorem dX7_reckonMinute_193 : decode cX7_reckonMinute 193 = .ok (.lcmp, 1) := by decide +kernel
theorem dX7_reckonMinute_194 : decode cX7_reckonMinute 194 = .ok (.ifCond .ge 25, 3) := by decide +kernel
theorem dX7_reckonMinute_197 : decode cX7_reckonMinute 197 = .ok (.aload_n 0, 1) := by decide +kernel
theorem dX7_reckonMinute_198 : decode cX7_reckonMinute 198 = .ok (.getfield 15, 3) := by decide +kernel
theorem dX7_reckonMinute_201 : decode cX7_reckonMinute 201 = .ok (.iload 4, 2) := by decide +kernel
theorem dX7_reckonMinute_203 : decode cX7_reckonMinute 203 = .ok (.lload 7, 2) := by decide +kernel
theorem dX7_reckonMinute_205 : decode cX7_reckonMinute 205 = .ok (.lastore, 1) := by decide +kernel
theorem dX7_reckonMinute_206 : decode cX7_reckonMinute 206 = .ok (.aload_n 0, 1) := by decide +kernel
theorem dX7_reckonMinute_207 : decode cX7_reckonMinute 207 = .ok (.getfield 19, 3) := by decide +kernel
theorem dX7_reckonMinute_210 : decode cX7_reckonMinute 210 = .ok (.iload 4, 2) := by decide +kernel
theorem dX7_reckonMinute_212 : decode cX7_reckonMinute 212 = .ok (.aload_n 0, 1) := by decide +kernel
theorem dX7_reckonMinute_213 : decode cX7_reckonMinute 213 = .ok (.getfield 34, 3) := by decide +kernel
theorem dX7_reckonMinute_216 : decode cX7_reckonMinute 216 = .ok (.iload_n 3, 1) := by decide +kernel
theorem dX7_reckonMinute_217 : decode cX7_reckonMinute 217 = .ok (.iaload, 1) := by decide +kernel
theorem dX7_reckonMinute_218 : decode cX7_reckonMinute 218 = .ok (.iastore, 1) := by decide +kernel
theorem dX7_reckonMinute_219 : decode cX7_reckonMinute 219 = .ok (.iinc 3 1, 3) := by decide +kernel
theorem dX7_reckonMinute_222 : decode cX7_reckonMinute 222 = .ok (.goto (-160), 3) := by decide +kernel
theorem dX7_reckonMinute_225 : decode cX7_reckonMinute 225 = .ok (.return_, 1) := by decide +kernel
theorem dX7_keyOf_0 : decode cX7_keyOf 0 = .ok (.iload_n 1, 1) := by decide +kernel
theorem dX7_keyOf_1 : decode cX7_keyOf 1 = .ok (.sipush 401, 3) := by decide +kernel
theorem dX7_keyOf_4 : decode cX7_keyOf 4 = .ok (.imul, 1) := by decide +kernel
theorem dX7_keyOf_5 : decode cX7_keyOf 5 = .ok (.iload_n 2, 1) := by decide +kernel
theorem dX7_keyOf_6 : decode cX7_keyOf 6 = .ok (.iadd, 1) := by decide +kernel
theorem dX7_keyOf_7 : decode cX7_keyOf 7 = .ok (.istore_n 3, 1) := by decide +kernel
theorem dX7_keyOf_8 : decode cX7_keyOf 8 = .ok (.iload_n 3, 1) := by decide +kernel
theorem dX7_keyOf_9 : decode cX7_keyOf 9 = .ok (.ifCond .lt 21, 3) := by decide +kernel
theorem dX7_keyOf_12 : decode cX7_keyOf 12 = .ok (.iload_n 3, 1) := by decide +kernel
theorem dX7_keyOf_13 : decode cX7_keyOf 13 = .ok (.aload_n 0, 1) := by decide +kernel
theorem dX7_keyOf_14 : decode cX7_keyOf 14 = .ok (.getfield 15, 3) := by decide +kernel
theorem dX7_keyOf_17 : decode cX7_keyOf 17 = .ok (.arraylength, 1) := by decide +kernel
theorem dX7_keyOf_18 : decode cX7_keyOf 18 = .ok (.if_icmp .ge 12, 3) := by decide +kernel
theorem dX7_keyOf_21 : decode cX7_keyOf 21 = .ok (.aload_n 0, 1) := by decide +kernel
theorem dX7_keyOf_22 : decode cX7_keyOf 22 = .ok (.getfield 15, 3) := by decide +kernel
theorem dX7_keyOf_25 : decode cX7_keyOf 25 = .ok (.iload_n 3, 1) := by decide +kernel
theorem dX7_keyOf_26 : decode cX7_keyOf 26 = .ok (.laload, 1) := by decide +kernel
theorem dX7_keyOf_27 : decode cX7_keyOf 27 = .ok (.goto 6, 3) := by decide +kernel
theorem dX7_keyOf_30 : decode cX7_keyOf 30 = .ok (.ldc2_w 155, 3) := by decide +kernel
theorem dX7_keyOf_33 : decode cX7_keyOf 33 = .ok (.lreturn, 1) := by decide +kernel
theorem dX7_isOpen_0 : decode cX7_isOpen 0 = .ok (.aload_n 0, 1) := by decide +kernel
theorem dX7_isOpen_1 : decode cX7_isOpen 1 = .ok (.iload_n 1, 1) := by decide +kernel
theorem dX7_isOpen_2 : decode cX7_isOpen 2 = .ok (.iload_n 2, 1) := by decide +kernel
theorem dX7_isOpen_3 : decode cX7_isOpen 3 = .ok (.invokevirtual 157, 3) := by decide +kernel
theorem dX7_isOpen_6 : decode cX7_isOpen 6 = .ok (.ldc2_w 155, 3) := by decide +kernel
theorem dX7_isOpen_9 : decode cX7_isOpen 9 = .ok (.lcmp, 1) := by decide +kernel
theorem dX7_isOpen_10 : decode cX7_isOpen 10 = .ok (.ifCond .eq 7, 3) := by decide +kernel
theorem dX7_isOpen_13 : decode cX7_isOpen 13 = .ok (.iconst 1, 1) := by decide +kernel
theorem dX7_isOpen_14 : decode cX7_isOpen 14 = .ok (.goto 4, 3) := by decide +kernel
theorem dX7_isOpen_17 : decode cX7_isOpen 17 = .ok (.iconst 0, 1) := by decide +kernel
theorem dX7_isOpen_18 : decode cX7_isOpen 18 = .ok (.ireturn, 1) := by decide +kernel
theorem dX7_meanFrom_0 : decode cX7_meanFrom 0 = .ok (.aload_n 0, 1) := by decide +kernel
theorem dX7_meanFrom_1 : decode cX7_meanFrom 1 = .ok (.iload_n 1, 1) := by decide +kernel
theorem dX7_meanFrom_2 : decode cX7_meanFrom 2 = .ok (.iload_n 2, 1) := by decide +kernel
theorem dX7_meanFrom_3 : decode cX7_meanFrom 3 = .ok (.invokevirtual 157, 3) := by decide +kernel
theorem dX7_meanFrom_6 : decode cX7_meanFrom 6 = .ok (.ldc2_w 147, 3) := by decide +kernel
theorem dX7_meanFrom_9 : decode cX7_meanFrom 9 = .ok (.ldiv, 1) := by decide +kernel
theorem dX7_meanFrom_10 : decode cX7_meanFrom 10 = .ok (.lreturn, 1) := by decide +kernel
theorem dX7_endFrom_0 : decode cX7_endFrom 0 = .ok (.aload_n 0, 1) := by decide +kernel
theorem dX7_endFrom_1 : decode cX7_endFrom 1 = .ok (.iload_n 1, 1) := by decide +kernel
theorem dX7_endFrom_2 : decode cX7_endFrom 2 = .ok (.iload_n 2, 1) := by decide +kernel
theorem dX7_endFrom_3 : decode cX7_endFrom 3 = .ok (.invokevirtual 157, 3) := by decide +kernel
theorem dX7_endFrom_6 : decode cX7_endFrom 6 = .ok (.ldc2_w 147, 3) := by decide +kernel
theorem dX7_endFrom_9 : decode cX7_endFrom 9 = .ok (.lrem, 1) := by decide +kernel
theorem dX7_endFrom_10 : decode cX7_endFrom 10 = .ok (.l2i, 1) := by decide +kernel
theorem dX7_endFrom_11 : decode cX7_endFrom 11 = .ok (.ireturn, 1) := by decide +kernel
theorem dX7_trace_0 : decode cX7_trace 0 = .ok (.iload_n 2, 1) := by decide +kernel
theorem dX7_trace_1 : decode cX7_trace 1 = .ok (.istore 4, 2) := by decide +kernel
theorem dX7_trace_3 : decode cX7_trace 3 = .ok (.iload_n 3, 1) := by decide +kernel
theorem dX7_trace_4 : decode cX7_trace 4 = .ok (.istore 5, 2) := by decide +kernel
theorem dX7_trace_6 : decode cX7_trace 6 = .ok (.iconst 0, 1) := by decide +kernel
theorem dX7_trace_7 : decode cX7_trace 7 = .ok (.istore 6, 2) := by decide +kernel
theorem dX7_trace_9 : decode cX7_trace 9 = .ok (.iload 6, 2) := by decide +kernel
theorem dX7_trace_11 : decode cX7_trace 11 = .ok (.aload_n 0, 1) := by decide +kernel
theorem dX7_trace_12 : decode cX7_trace 12 = .ok (.getfield 9, 3) := by decide +kernel
theorem dX7_trace_15 : decode cX7_trace 15 = .ok (.arraylength, 1) := by decide +kernel
theorem dX7_trace_16 : decode cX7_trace 16 = .ok (.if_icmp .ge 133, 3) := by decide +kernel
theorem dX7_trace_19 : decode cX7_trace 19 = .ok (.iload 4, 2) := by decide +kernel
