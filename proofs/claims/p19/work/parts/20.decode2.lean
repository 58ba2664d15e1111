section
theorem dX11_isWord_8 : decode cX11_isWord 8 = .ok (.aload_n 0, 1) := by decide +kernel
theorem dX11_isWord_9 : decode cX11_isWord 9 = .ok (.getfield 87, 3) := by decide +kernel
theorem dX11_isWord_12 : decode cX11_isWord 12 = .ok (.aload_n 1, 1) := by decide +kernel
theorem dX11_isWord_13 : decode cX11_isWord 13 = .ok (.invokestatic 103, 3) := by decide +kernel
theorem dX11_isWord_16 : decode cX11_isWord 16 = .ok (.lcmp, 1) := by decide +kernel
theorem dX11_isWord_17 : decode cX11_isWord 17 = .ok (.ifCond .ne 7, 3) := by decide +kernel
theorem dX11_isWord_20 : decode cX11_isWord 20 = .ok (.iconst 1, 1) := by decide +kernel
theorem dX11_isWord_21 : decode cX11_isWord 21 = .ok (.goto 4, 3) := by decide +kernel
theorem dX11_isWord_24 : decode cX11_isWord 24 = .ok (.iconst 0, 1) := by decide +kernel
theorem dX11_isWord_25 : decode cX11_isWord 25 = .ok (.ireturn, 1) := by decide +kernel
theorem dX11_eatsWord_0 : decode cX11_eatsWord 0 = .ok (.aload_n 0, 1) := by decide +kernel
theorem dX11_eatsWord_1 : decode cX11_eatsWord 1 = .ok (.aload_n 1, 1) := by decide +kernel
theorem dX11_eatsWord_2 : decode cX11_eatsWord 2 = .ok (.invokevirtual 107, 3) := by decide +kernel
theorem dX11_eatsWord_5 : decode cX11_eatsWord 5 = .ok (.istore_n 2, 1) := by decide +kernel
theorem dX11_eatsWord_6 : decode cX11_eatsWord 6 = .ok (.iload_n 2, 1) := by decide +kernel
theorem dX11_eatsWord_7 : decode cX11_eatsWord 7 = .ok (.ifCond .eq 7, 3) := by decide +kernel
theorem dX11_eatsWord_10 : decode cX11_eatsWord 10 = .ok (.aload_n 0, 1) := by decide +kernel
theorem dX11_eatsWord_11 : decode cX11_eatsWord 11 = .ok (.invokevirtual 111, 3) := by decide +kernel
theorem dX11_eatsWord_14 : decode cX11_eatsWord 14 = .ok (.iload_n 2, 1) := by decide +kernel
theorem dX11_eatsWord_15 : decode cX11_eatsWord 15 = .ok (.ireturn, 1) := by decide +kernel
theorem dX11_eatsSign_0 : decode cX11_eatsSign 0 = .ok (.aload_n 0, 1) := by decide +kernel
theorem dX11_eatsSign_1 : decode cX11_eatsSign 1 = .ok (.getfield 68, 3) := by decide +kernel
theorem dX11_eatsSign_4 : decode cX11_eatsSign 4 = .ok (.iconst 4, 1) := by decide +kernel
theorem dX11_eatsSign_5 : decode cX11_eatsSign 5 = .ok (.if_icmp .ne 15, 3) := by decide +kernel
theorem dX11_eatsSign_8 : decode cX11_eatsSign 8 = .ok (.aload_n 0, 1) := by decide +kernel
theorem dX11_eatsSign_9 : decode cX11_eatsSign 9 = .ok (.getfield 80, 3) := by decide +kernel
theorem dX11_eatsSign_12 : decode cX11_eatsSign 12 = .ok (.iload_n 1, 1) := by decide +kernel
theorem dX11_eatsSign_13 : decode cX11_eatsSign 13 = .ok (.if_icmp .ne 7, 3) := by decide +kernel
theorem dX11_eatsSign_16 : decode cX11_eatsSign 16 = .ok (.iconst 1, 1) := by decide +kernel
theorem dX11_eatsSign_17 : decode cX11_eatsSign 17 = .ok (.goto 4, 3) := by decide +kernel
theorem dX11_eatsSign_20 : decode cX11_eatsSign 20 = .ok (.iconst 0, 1) := by decide +kernel
theorem dX11_eatsSign_21 : decode cX11_eatsSign 21 = .ok (.istore_n 2, 1) := by decide +kernel
theorem dX11_eatsSign_22 : decode cX11_eatsSign 22 = .ok (.iload_n 2, 1) := by decide +kernel
theorem dX11_eatsSign_23 : decode cX11_eatsSign 23 = .ok (.ifCond .eq 7, 3) := by decide +kernel
theorem dX11_eatsSign_26 : decode cX11_eatsSign 26 = .ok (.aload_n 0, 1) := by decide +kernel
theorem dX11_eatsSign_27 : decode cX11_eatsSign 27 = .ok (.invokevirtual 111, 3) := by decide +kernel
theorem dX11_eatsSign_30 : decode cX11_eatsSign 30 = .ok (.iload_n 2, 1) := by decide +kernel
theorem dX11_eatsSign_31 : decode cX11_eatsSign 31 = .ok (.ireturn, 1) := by decide +kernel
theorem dX11_needs_0 : decode cX11_needs 0 = .ok (.aload_n 0, 1) := by decide +kernel
theorem dX11_needs_1 : decode cX11_needs 1 = .ok (.aload_n 1, 1) := by decide +kernel
theorem dX11_needs_2 : decode cX11_needs 2 = .ok (.invokevirtual 107, 3) := by decide +kernel
theorem dX11_needs_5 : decode cX11_needs 5 = .ok (.ifCond .ne 8, 3) := by decide +kernel
theorem dX11_needs_8 : decode cX11_needs 8 = .ok (.aload_n 0, 1) := by decide +kernel
theorem dX11_needs_9 : decode cX11_needs 9 = .ok (.iconst 1, 1) := by decide +kernel
theorem dX11_needs_10 : decode cX11_needs 10 = .ok (.invokevirtual 114, 3) := by decide +kernel
theorem dX11_needs_13 : decode cX11_needs 13 = .ok (.aload_n 0, 1) := by decide +kernel
theorem dX11_needs_14 : decode cX11_needs 14 = .ok (.invokevirtual 111, 3) := by decide +kernel
theorem dX11_needs_17 : decode cX11_needs 17 = .ok (.return_, 1) := by decide +kernel
theorem dX11_readWhole_0 : decode cX11_readWhole 0 = .ok (.aload_n 0, 1) := by decide +kernel
theorem dX11_readWhole_1 : decode cX11_readWhole 1 = .ok (.getfield 68, 3) := by decide +kernel
theorem dX11_readWhole_4 : decode cX11_readWhole 4 = .ok (.iconst 3, 1) := by decide +kernel
theorem dX11_readWhole_5 : decode cX11_readWhole 5 = .ok (.if_icmp .eq 11, 3) := by decide +kernel
theorem dX11_readWhole_8 : decode cX11_readWhole 8 = .ok (.aload_n 0, 1) := by decide +kernel
theorem dX11_readWhole_9 : decode cX11_readWhole 9 = .ok (.iconst 1, 1) := by decide +kernel
theorem dX11_readWhole_10 : decode cX11_readWhole 10 = .ok (.invokevirtual 114, 3) := by decide +kernel
theorem dX11_readWhole_13 : decode cX11_readWhole 13 = .ok (.goto 20, 3) := by decide +kernel
theorem dX11_readWhole_16 : decode cX11_readWhole 16 = .ok (.aload_n 0, 1) := by decide +kernel
theorem dX11_readWhole_17 : decode cX11_readWhole 17 = .ok (.getfield 94, 3) := by decide +kernel
theorem dX11_readWhole_20 : decode cX11_readWhole 20 = .ok (.iload_n 1, 1) := by decide +kernel
theorem dX11_readWhole_21 : decode cX11_readWhole 21 = .ok (.iload_n 2, 1) := by decide +kernel
theorem dX11_readWhole_22 : decode cX11_readWhole 22 = .ok (.invokestatic 118, 3) := by decide +kernel
theorem dX11_readWhole_25 : decode cX11_readWhole 25 = .ok (.ifCond .ne 8, 3) := by decide +kernel
theorem dX11_readWhole_28 : decode cX11_readWhole 28 = .ok (.aload_n 0, 1) := by decide +kernel
theorem dX11_readWhole_29 : decode cX11_readWhole 29 = .ok (.iconst 4, 1) := by decide +kernel
theorem dX11_readWhole_30 : decode cX11_readWhole 30 = .ok (.invokevirtual 114, 3) := by decide +kernel
theorem dX11_readWhole_33 : decode cX11_readWhole 33 = .ok (.aload_n 0, 1) := by decide +kernel
theorem dX11_readWhole_34 : decode cX11_readWhole 34 = .ok (.getfield 68, 3) := by decide +kernel
theorem dX11_readWhole_37 : decode cX11_readWhole 37 = .ok (.iconst 5, 1) := by decide +kernel
theorem dX11_readWhole_38 : decode cX11_readWhole 38 = .ok (.if_icmp .ne 7, 3) := by decide +kernel
theorem dX11_readWhole_41 : decode cX11_readWhole 41 = .ok (.iload_n 1, 1) := by decide +kernel
theorem dX11_readWhole_42 : decode cX11_readWhole 42 = .ok (.goto 7, 3) := by decide +kernel
theorem dX11_readWhole_45 : decode cX11_readWhole 45 = .ok (.aload_n 0, 1) := by decide +kernel
theorem dX11_readWhole_46 : decode cX11_readWhole 46 = .ok (.getfield 94, 3) := by decide +kernel
theorem dX11_readWhole_49 : decode cX11_readWhole 49 = .ok (.istore_n 3, 1) := by decide +kernel
theorem dX11_readWhole_50 : decode cX11_readWhole 50 = .ok (.aload_n 0, 1) := by decide +kernel
theorem dX11_readWhole_51 : decode cX11_readWhole 51 = .ok (.invokevirtual 111, 3) := by decide +kernel
theorem dX11_readWhole_54 : decode cX11_readWhole 54 = .ok (.iload_n 3, 1) := by decide +kernel
theorem dX11_readWhole_55 : decode cX11_readWhole 55 = .ok (.ireturn, 1) := by decide +kernel
theorem dX11_readPart_0 : decode cX11_readPart 0 = .ok (.aload_n 0, 1) := by decide +kernel
theorem dX11_readPart_1 : decode cX11_readPart 1 = .ok (.aload_n 1, 1) := by decide +kernel
theorem dX11_readPart_2 : decode cX11_readPart 2 = .ok (.invokevirtual 122, 3) := by decide +kernel
theorem dX11_readPart_5 : decode cX11_readPart 5 = .ok (.aload_n 0, 1) := by decide +kernel
theorem dX11_readPart_6 : decode cX11_readPart 6 = .ok (.iload_n 2, 1) := by decide +kernel
theorem dX11_readPart_7 : decode cX11_readPart 7 = .ok (.iload_n 3, 1) := by decide +kernel
theorem dX11_readPart_8 : decode cX11_readPart 8 = .ok (.invokevirtual 126, 3) := by decide +kernel
theorem dX11_readPart_11 : decode cX11_readPart 11 = .ok (.ireturn, 1) := by decide +kernel
theorem dX11_isName_0 : decode cX11_isName 0 = .ok (.aload_n 0, 1) := by decide +kernel
theorem dX11_isName_1 : decode cX11_isName 1 = .ok (.getfield 68, 3) := by decide +kernel
theorem dX11_isName_4 : decode cX11_isName 4 = .ok (.iconst 2, 1) := by decide +kernel
theorem dX11_isName_5 : decode cX11_isName 5 = .ok (.if_icmp .ne 39, 3) := by decide +kernel
theorem dX11_isName_8 : decode cX11_isName 8 = .ok (.aload_n 0, 1) := by decide +kernel
theorem dX11_isName_9 : decode cX11_isName 9 = .ok (.ldc 130, 2) := by decide +kernel
theorem dX11_isName_11 : decode cX11_isName 11 = .ok (.invokevirtual 107, 3) := by decide +kernel
theorem dX11_isName_14 : decode cX11_isName 14 = .ok (.ifCond .ne 30, 3) := by decide +kernel
theorem dX11_isName_17 : decode cX11_isName 17 = .ok (.aload_n 0, 1) := by decide +kernel
theorem dX11_isName_18 : decode cX11_isName 18 = .ok (.ldc 132, 2) := by decide +kernel
theorem dX11_isName_20 : decode cX11_isName 20 = .ok (.invokevirtual 107, 3) := by decide +kernel
theorem dX11_isName_23 : decode cX11_isName 23 = .ok (.ifCond .ne 21, 3) := by decide +kernel
theorem dX11_isName_26 : decode cX11_isName 26 = .ok (.aload_n 0, 1) := by decide +kernel
theorem dX11_isName_27 : decode cX11_isName 27 = .ok (.ldc 134, 2) := by decide +kernel
theorem dX11_isName_29 : decode cX11_isName 29 = .ok (.invokevirtual 107, 3) := by decide +kernel
theorem dX11_isName_32 : decode cX11_isName 32 = .ok (.ifCond .ne 12, 3) := by decide +kernel
theorem dX11_isName_35 : decode cX11_isName 35 = .ok (.aload_n 0, 1) := by decide +kernel
theorem dX11_isName_36 : decode cX11_isName 36 = .ok (.ldc 135, 2) := by decide +kernel
theorem dX11_isName_38 : decode cX11_isName 38 = .ok (.invokevirtual 107, 3) := by decide +kernel
theorem dX11_isName_41 : decode cX11_isName 41 = .ok (.ifCond .eq 5, 3) := by decide +kernel
theorem dX11_isName_44 : decode cX11_isName 44 = .ok (.iconst 0, 1) := by decide +kernel
theorem dX11_isName_45 : decode cX11_isName 45 = .ok (.ireturn, 1) := by decide +kernel
theorem dX11_isName_46 : decode cX11_isName 46 = .ok (.aload_n 0, 1) := by decide +kernel
theorem dX11_isName_47 : decode cX11_isName 47 = .ok (.ldc 137, 2) := by decide +kernel
theorem dX11_isName_49 : decode cX11_isName 49 = .ok (.invokevirtual 107, 3) := by decide +kernel
theorem dX11_isName_52 : decode cX11_isName 52 = .ok (.ifCond .ne 43, 3) := by decide +kernel
theorem dX11_isName_55 : decode cX11_isName 55 = .ok (.aload_n 0, 1) := by decide +kernel
theorem dX11_isName_56 : decode cX11_isName 56 = .ok (.ldc 139, 2) := by decide +kernel
theorem dX11_isName_58 : decode cX11_isName 58 = .ok (.invokevirtual 107, 3) := by decide +kernel
theorem dX11_isName_61 : decode cX11_isName 61 = .ok (.ifCond .ne 34, 3) := by decide +kernel
theorem dX11_isName_64 : decode cX11_isName 64 = .ok (.aload_n 0, 1) := by decide +kernel
theorem dX11_isName_65 : decode cX11_isName 65 = .ok (.ldc 141, 2) := by decide +kernel
theorem dX11_isName_67 : decode cX11_isName 67 = .ok (.invokevirtual 107, 3) := by decide +kernel
theorem dX11_isName_70 : decode cX11_isName 70 = .ok (.ifCond .ne 25, 3) := by decide +kernel
theorem dX11_isName_73 : decode cX11_isName 73 = .ok (.aload_n 0, 1) := by decide +kernel
theorem dX11_isName_74 : decode cX11_isName 74 = .ok (.ldc 143, 2) := by decide +kernel
theorem dX11_isName_76 : decode cX11_isName 76 = .ok (.invokevirtual 107, 3) := by decide +kernel
theorem dX11_isName_79 : decode cX11_isName 79 = .ok (.ifCond .ne 16, 3) := by decide +kernel
theorem dX11_isName_82 : decode cX11_isName 82 = .ok (.aload_n 0, 1) := by decide +kernel
theorem dX11_isName_83 : decode cX11_isName 83 = .ok (.ldc 145, 2) := by decide +kernel
theorem dX11_isName_85 : decode cX11_isName 85 = .ok (.invokevirtual 107, 3) := by decide +kernel
theorem dX11_isName_88 : decode cX11_isName 88 = .ok (.ifCond .ne 7, 3) := by decide +kernel
theorem dX11_isName_91 : decode cX11_isName 91 = .ok (.iconst 1, 1) := by decide +kernel
theorem dX11_isName_92 : decode cX11_isName 92 = .ok (.goto 4, 3) := by decide +kernel
theorem dX11_isName_95 : decode cX11_isName 95 = .ok (.iconst 0, 1) := by decide +kernel
theorem dX11_isName_96 : decode cX11_isName 96 = .ok (.ireturn, 1) := by decide +kernel
theorem dX11_begins_0 : decode cX11_begins 0 = .ok (.iload_n 1, 1) := by decide +kernel
theorem dX11_begins_1 : decode cX11_begins 1 = .ok (.iload_n 2, 1) := by decide +kernel
theorem dX11_begins_2 : decode cX11_begins 2 = .ok (.if_icmp .ne 8, 3) := by decide +kernel
theorem dX11_begins_5 : decode cX11_begins 5 = .ok (.aload_n 0, 1) := by decide +kernel
theorem dX11_begins_6 : decode cX11_begins 6 = .ok (.iconst 5, 1) := by decide +kernel
theorem dX11_begins_7 : decode cX11_begins 7 = .ok (.invokevirtual 114, 3) := by decide +kernel
theorem dX11_begins_10 : decode cX11_begins 10 = .ok (.aload_n 0, 1) := by decide +kernel
theorem dX11_begins_11 : decode cX11_begins 11 = .ok (.getfield 147, 3) := by decide +kernel
theorem dX11_begins_14 : decode cX11_begins 14 = .ok (.getfield 151, 3) := by decide +kernel
theorem dX11_begins_17 : decode cX11_begins 17 = .ok (.ifCond .ne 9, 3) := by decide +kernel
theorem dX11_begins_20 : decode cX11_begins 20 = .ok (.aload_n 0, 1) := by decide +kernel
theorem dX11_begins_21 : decode cX11_begins 21 = .ok (.bipush 6, 2) := by decide +kernel
theorem dX11_begins_23 : decode cX11_begins 23 = .ok (.invokevirtual 114, 3) := by decide +kernel
theorem dX11_begins_26 : decode cX11_begins 26 = .ok (.aload_n 0, 1) := by decide +kernel
theorem dX11_begins_27 : decode cX11_begins 27 = .ok (.invokevirtual 111, 3) := by decide +kernel
theorem dX11_begins_30 : decode cX11_begins 30 = .ok (.return_, 1) := by decide +kernel
theorem dX11_readFresh_0 : decode cX11_readFresh 0 = .ok (.aload_n 0, 1) := by decide +kernel
theorem dX11_readFresh_1 : decode cX11_readFresh 1 = .ok (.invokevirtual 156, 3) := by decide +kernel
theorem dX11_readFresh_4 : decode cX11_readFresh 4 = .ok (.ifCond .ne 8, 3) := by decide +kernel
theorem dX11_readFresh_7 : decode cX11_readFresh 7 = .ok (.aload_n 0, 1) := by decide +kernel
theorem dX11_readFresh_8 : decode cX11_readFresh 8 = .ok (.iconst 1, 1) := by decide +kernel
theorem dX11_readFresh_9 : decode cX11_readFresh 9 = .ok (.invokevirtual 114, 3) := by decide +kernel
theorem dX11_readFresh_12 : decode cX11_readFresh 12 = .ok (.aload_n 0, 1) := by decide +kernel
theorem dX11_readFresh_13 : decode cX11_readFresh 13 = .ok (.getfield 147, 3) := by decide +kernel
theorem dX11_readFresh_16 : decode cX11_readFresh 16 = .ok (.aload_n 0, 1) := by decide +kernel
theorem dX11_readFresh_17 : decode cX11_readFresh 17 = .ok (.getfield 87, 3) := by decide +kernel
theorem dX11_readFresh_20 : decode cX11_readFresh 20 = .ok (.invokevirtual 160, 3) := by decide +kernel
theorem dX11_readFresh_23 : decode cX11_readFresh 23 = .ok (.iconst (-1), 1) := by decide +kernel
theorem dX11_readFresh_24 : decode cX11_readFresh 24 = .ok (.if_icmp .eq 8, 3) := by decide +kernel
theorem dX11_readFresh_27 : decode cX11_readFresh 27 = .ok (.aload_n 0, 1) := by decide +kernel
theorem dX11_readFresh_28 : decode cX11_readFresh 28 = .ok (.iconst 3, 1) := by decide +kernel
theorem dX11_readFresh_29 : decode cX11_readFresh 29 = .ok (.invokevirtual 114, 3) := by decide +kernel
theorem dX11_readFresh_32 : decode cX11_readFresh 32 = .ok (.aload_n 0, 1) := by decide +kernel
theorem dX11_readFresh_33 : decode cX11_readFresh 33 = .ok (.getfield 87, 3) := by decide +kernel
theorem dX11_readFresh_36 : decode cX11_readFresh 36 = .ok (.lstore_n 1, 1) := by decide +kernel
theorem dX11_readFresh_37 : decode cX11_readFresh 37 = .ok (.aload_n 0, 1) := by decide +kernel
theorem dX11_readFresh_38 : decode cX11_readFresh 38 = .ok (.invokevirtual 111, 3) := by decide +kernel
theorem dX11_readFresh_41 : decode cX11_readFresh 41 = .ok (.lload_n 1, 1) := by decide +kernel
theorem dX11_readFresh_42 : decode cX11_readFresh 42 = .ok (.lreturn, 1) := by decide +kernel
theorem dX11_names_0 : decode cX11_names 0 = .ok (.aload_n 0, 1) := by decide +kernel
theorem dX11_names_1 : decode cX11_names 1 = .ok (.getfield 147, 3) := by decide +kernel
theorem dX11_names_4 : decode cX11_names 4 = .ok (.getfield 164, 3) := by decide +kernel
theorem dX11_names_7 : decode cX11_names 7 = .ok (.aload_n 0, 1) := by decide +kernel
theorem dX11_names_8 : decode cX11_names 8 = .ok (.getfield 147, 3) := by decide +kernel
theorem dX11_names_11 : decode cX11_names 11 = .ok (.getfield 167, 3) := by decide +kernel
theorem dX11_names_14 : decode cX11_names 14 = .ok (.lload_n 1, 1) := by decide +kernel
theorem dX11_names_15 : decode cX11_names 15 = .ok (.lastore, 1) := by decide +kernel
theorem dX11_names_16 : decode cX11_names 16 = .ok (.aload_n 0, 1) := by decide +kernel
theorem dX11_names_17 : decode cX11_names 17 = .ok (.getfield 147, 3) := by decide +kernel
theorem dX11_names_20 : decode cX11_names 20 = .ok (.getfield 170, 3) := by decide +kernel
theorem dX11_names_23 : decode cX11_names 23 = .ok (.aload_n 0, 1) := by decide +kernel
theorem dX11_names_24 : decode cX11_names 24 = .ok (.getfield 147, 3) := by decide +kernel
theorem dX11_names_27 : decode cX11_names 27 = .ok (.getfield 167, 3) := by decide +kernel
theorem dX11_names_30 : decode cX11_names 30 = .ok (.iload_n 3, 1) := by decide +kernel
theorem dX11_names_31 : decode cX11_names 31 = .ok (.iastore, 1) := by decide +kernel
theorem dX11_names_32 : decode cX11_names 32 = .ok (.aload_n 0, 1) := by decide +kernel
theorem dX11_names_33 : decode cX11_names 33 = .ok (.getfield 147, 3) := by decide +kernel
theorem dX11_names_36 : decode cX11_names 36 = .ok (.getfield 173, 3) := by decide +kernel
theorem dX11_names_39 : decode cX11_names 39 = .ok (.aload_n 0, 1) := by decide +kernel
theorem dX11_names_40 : decode cX11_names 40 = .ok (.getfield 147, 3) := by decide +kernel
theorem dX11_names_43 : decode cX11_names 43 = .ok (.getfield 167, 3) := by decide +kernel
theorem dX11_names_46 : decode cX11_names 46 = .ok (.iload 4, 2) := by decide +kernel
theorem dX11_names_48 : decode cX11_names 48 = .ok (.iastore, 1) := by decide +kernel
theorem dX11_names_49 : decode cX11_names 49 = .ok (.aload_n 0, 1) := by decide +kernel
theorem dX11_names_50 : decode cX11_names 50 = .ok (.getfield 147, 3) := by decide +kernel
theorem dX11_names_53 : decode cX11_names 53 = .ok (.dup, 1) := by decide +kernel
theorem dX11_names_54 : decode cX11_names 54 = .ok (.getfield 167, 3) := by decide +kernel
theorem dX11_names_57 : decode cX11_names 57 = .ok (.iconst 1, 1) := by decide +kernel
theorem dX11_names_58 : decode cX11_names 58 = .ok (.iadd, 1) := by decide +kernel
theorem dX11_names_59 : decode cX11_names 59 = .ok (.putfield 167, 3) := by decide +kernel
theorem dX11_names_62 : decode cX11_names 62 = .ok (.return_, 1) := by decide +kernel
theorem dX11_known_0 : decode cX11_known 0 = .ok (.aload_n 0, 1) := by decide +kernel
theorem dX11_known_1 : decode cX11_known 1 = .ok (.invokevirtual 156, 3) := by decide +kernel
theorem dX11_known_4 : decode cX11_known 4 = .ok (.ifCond .ne 8, 3) := by decide +kernel
theorem dX11_known_7 : decode cX11_known 7 = .ok (.aload_n 0, 1) := by decide +kernel
theorem dX11_known_8 : decode cX11_known 8 = .ok (.iconst 1, 1) := by decide +kernel
theorem dX11_known_9 : decode cX11_known 9 = .ok (.invokevirtual 114, 3) := by decide +kernel
theorem dX11_known_12 : decode cX11_known 12 = .ok (.aload_n 0, 1) := by decide +kernel
theorem dX11_known_13 : decode cX11_known 13 = .ok (.getfield 147, 3) := by decide +kernel
theorem dX11_known_16 : decode cX11_known 16 = .ok (.aload_n 0, 1) := by decide +kernel
theorem dX11_known_17 : decode cX11_known 17 = .ok (.getfield 87, 3) := by decide +kernel
theorem dX11_known_20 : decode cX11_known 20 = .ok (.invokevirtual 160, 3) := by decide +kernel
theorem dX11_known_23 : decode cX11_known 23 = .ok (.istore_n 2, 1) := by decide +kernel
theorem dX11_known_24 : decode cX11_known 24 = .ok (.iload_n 2, 1) := by decide +kernel
theorem dX11_known_25 : decode cX11_known 25 = .ok (.iconst (-1), 1) := by decide +kernel
theorem dX11_known_26 : decode cX11_known 26 = .ok (.if_icmp .eq 16, 3) := by decide +kernel
theorem dX11_known_29 : decode cX11_known 29 = .ok (.aload_n 0, 1) := by decide +kernel
theorem dX11_known_30 : decode cX11_known 30 = .ok (.getfield 147, 3) := by decide +kernel
theorem dX11_known_33 : decode cX11_known 33 = .ok (.getfield 170, 3) := by decide +kernel
theorem dX11_known_36 : decode cX11_known 36 = .ok (.iload_n 2, 1) := by decide +kernel
theorem dX11_known_37 : decode cX11_known 37 = .ok (.iaload, 1) := by decide +kernel
theorem dX11_known_38 : decode cX11_known 38 = .ok (.iload_n 1, 1) := by decide +kernel
theorem dX11_known_39 : decode cX11_known 39 = .ok (.if_icmp .eq 8, 3) := by decide +kernel
theorem dX11_known_42 : decode cX11_known 42 = .ok (.aload_n 0, 1) := by decide +kernel
theorem dX11_known_43 : decode cX11_known 43 = .ok (.iconst 2, 1) := by decide +kernel
theorem dX11_known_44 : decode cX11_known 44 = .ok (.invokevirtual 114, 3) := by decide +kernel
theorem dX11_known_47 : decode cX11_known 47 = .ok (.aload_n 0, 1) := by decide +kernel
theorem dX11_known_48 : decode cX11_known 48 = .ok (.getfield 68, 3) := by decide +kernel
theorem dX11_known_51 : decode cX11_known 51 = .ok (.iconst 5, 1) := by decide +kernel
theorem dX11_known_52 : decode cX11_known 52 = .ok (.if_icmp .ne 7, 3) := by decide +kernel
theorem dX11_known_55 : decode cX11_known 55 = .ok (.iconst 0, 1) := by decide +kernel
theorem dX11_known_56 : decode cX11_known 56 = .ok (.goto 12, 3) := by decide +kernel
theorem dX11_known_59 : decode cX11_known 59 = .ok (.aload_n 0, 1) := by decide +kernel
theorem dX11_known_60 : decode cX11_known 60 = .ok (.getfield 147, 3) := by decide +kernel
theorem dX11_known_63 : decode cX11_known 63 = .ok (.getfield 173, 3) := by decide +kernel
theorem dX11_known_66 : decode cX11_known 66 = .ok (.iload_n 2, 1) := by decide +kernel
theorem dX11_known_67 : decode cX11_known 67 = .ok (.iaload, 1) := by decide +kernel
theorem dX11_known_68 : decode cX11_known 68 = .ok (.ireturn, 1) := by decide +kernel
theorem dX11_readSide_0 : decode cX11_readSide 0 = .ok (.aload_n 0, 1) := by decide +kernel
theorem dX11_readSide_1 : decode cX11_readSide 1 = .ok (.ldc 176, 2) := by decide +kernel
theorem dX11_readSide_3 : decode cX11_readSide 3 = .ok (.invokevirtual 107, 3) := by decide +kernel
theorem dX11_readSide_6 : decode cX11_readSide 6 = .ok (.ifCond .eq 7, 3) := by decide +kernel
theorem dX11_readSide_9 : decode cX11_readSide 9 = .ok (.iconst 0, 1) := by decide +kernel
theorem dX11_readSide_10 : decode cX11_readSide 10 = .ok (.goto 43, 3) := by decide +kernel
theorem dX11_readSide_13 : decode cX11_readSide 13 = .ok (.aload_n 0, 1) := by decide +kernel
theorem dX11_readSide_14 : decode cX11_readSide 14 = .ok (.ldc 178, 2) := by decide +kernel
theorem dX11_readSide_16 : decode cX11_readSide 16 = .ok (.invokevirtual 107, 3) := by decide +kernel
theorem dX11_readSide_19 : decode cX11_readSide 19 = .ok (.ifCond .eq 7, 3) := by decide +kernel
theorem dX11_readSide_22 : decode cX11_readSide 22 = .ok (.iconst 1, 1) := by decide +kernel
theorem dX11_readSide_23 : decode cX11_readSide 23 = .ok (.goto 30, 3) := by decide +kernel
theorem dX11_readSide_26 : decode cX11_readSide 26 = .ok (.aload_n 0, 1) := by decide +kernel
theorem dX11_readSide_27 : decode cX11_readSide 27 = .ok (.ldc 180, 2) := by decide +kernel
theorem dX11_readSide_29 : decode cX11_readSide 29 = .ok (.invokevirtual 107, 3) := by decide +kernel
theorem dX11_readSide_32 : decode cX11_readSide 32 = .ok (.ifCond .eq 7, 3) := by decide +kernel
theorem dX11_readSide_35 : decode cX11_readSide 35 = .ok (.iconst 2, 1) := by decide +kernel
theorem dX11_readSide_36 : decode cX11_readSide 36 = .ok (.goto 17, 3) := by decide +kernel
theorem dX11_readSide_39 : decode cX11_readSide 39 = .ok (.aload_n 0, 1) := by decide +kernel
theorem dX11_readSide_40 : decode cX11_readSide 40 = .ok (.ldc 182, 2) := by decide +kernel
theorem dX11_readSide_42 : decode cX11_readSide 42 = .ok (.invokevirtual 107, 3) := by decide +kernel
theorem dX11_readSide_45 : decode cX11_readSide 45 = .ok (.ifCond .eq 7, 3) := by decide +kernel
theorem dX11_readSide_48 : decode cX11_readSide 48 = .ok (.iconst 3, 1) := by decide +kernel
theorem dX11_readSide_49 : decode cX11_readSide 49 = .ok (.goto 4, 3) := by decide +kernel
theorem dX11_readSide_52 : decode cX11_readSide 52 = .ok (.iconst (-1), 1) := by decide +kernel
theorem dX11_readSide_53 : decode cX11_readSide 53 = .ok (.istore_n 1, 1) := by decide +kernel
theorem dX11_readSide_54 : decode cX11_readSide 54 = .ok (.iload_n 1, 1) := by decide +kernel
theorem dX11_readSide_55 : decode cX11_readSide 55 = .ok (.iconst (-1), 1) := by decide +kernel
theorem dX11_readSide_56 : decode cX11_readSide 56 = .ok (.if_icmp .ne 8, 3) := by decide +kernel
theorem dX11_readSide_59 : decode cX11_readSide 59 = .ok (.aload_n 0, 1) := by decide +kernel
theorem dX11_readSide_60 : decode cX11_readSide 60 = .ok (.iconst 1, 1) := by decide +kernel
theorem dX11_readSide_61 : decode cX11_readSide 61 = .ok (.invokevirtual 114, 3) := by decide +kernel
theorem dX11_readSide_64 : decode cX11_readSide 64 = .ok (.aload_n 0, 1) := by decide +kernel
theorem dX11_readSide_65 : decode cX11_readSide 65 = .ok (.invokevirtual 111, 3) := by decide +kernel
theorem dX11_readSide_68 : decode cX11_readSide 68 = .ok (.iload_n 1, 1) := by decide +kernel
theorem dX11_readSide_69 : decode cX11_readSide 69 = .ok (.ireturn, 1) := by decide +kernel
theorem dX11_readAll_0 : decode cX11_readAll 0 = .ok (.iconst 1, 1) := by decide +kernel
theorem dX11_readAll_1 : decode cX11_readAll 1 = .ok (.istore_n 1, 1) := by decide +kernel
theorem dX11_readAll_2 : decode cX11_readAll 2 = .ok (.iload_n 1, 1) := by decide +kernel
theorem dX11_readAll_3 : decode cX11_readAll 3 = .ok (.ifCond .eq 17, 3) := by decide +kernel
theorem dX11_readAll_6 : decode cX11_readAll 6 = .ok (.aload_n 0, 1) := by decide +kernel
theorem dX11_readAll_7 : decode cX11_readAll 7 = .ok (.invokevirtual 184, 3) := by decide +kernel
theorem dX11_readAll_10 : decode cX11_readAll 10 = .ok (.aload_n 0, 1) := by decide +kernel
theorem dX11_readAll_11 : decode cX11_readAll 11 = .ok (.bipush 59, 2) := by decide +kernel
theorem dX11_readAll_13 : decode cX11_readAll 13 = .ok (.invokevirtual 187, 3) := by decide +kernel
theorem dX11_readAll_16 : decode cX11_readAll 16 = .ok (.istore_n 1, 1) := by decide +kernel
theorem dX11_readAll_17 : decode cX11_readAll 17 = .ok (.goto (-15), 3) := by decide +kernel
theorem dX11_readAll_20 : decode cX11_readAll 20 = .ok (.aload_n 0, 1) := by decide +kernel
theorem dX11_readAll_21 : decode cX11_readAll 21 = .ok (.getfield 68, 3) := by decide +kernel
theorem dX11_readAll_24 : decode cX11_readAll 24 = .ok (.iconst 1, 1) := by decide +kernel
theorem dX11_readAll_25 : decode cX11_readAll 25 = .ok (.if_icmp .eq 8, 3) := by decide +kernel
theorem dX11_readAll_28 : decode cX11_readAll 28 = .ok (.aload_n 0, 1) := by decide +kernel
theorem dX11_readAll_29 : decode cX11_readAll 29 = .ok (.iconst 1, 1) := by decide +kernel
theorem dX11_readAll_30 : decode cX11_readAll 30 = .ok (.invokevirtual 114, 3) := by decide +kernel
theorem dX11_readAll_33 : decode cX11_readAll 33 = .ok (.aload_n 0, 1) := by decide +kernel
theorem dX11_readAll_34 : decode cX11_readAll 34 = .ok (.getfield 147, 3) := by decide +kernel
theorem dX11_readAll_37 : decode cX11_readAll 37 = .ok (.getfield 151, 3) := by decide +kernel
theorem dX11_readAll_40 : decode cX11_readAll 40 = .ok (.ifCond .eq 23, 3) := by decide +kernel
theorem dX11_readAll_43 : decode cX11_readAll 43 = .ok (.aload_n 0, 1) := by decide +kernel
theorem dX11_readAll_44 : decode cX11_readAll 44 = .ok (.getfield 147, 3) := by decide +kernel
theorem dX11_readAll_47 : decode cX11_readAll 47 = .ok (.getfield 190, 3) := by decide +kernel
theorem dX11_readAll_50 : decode cX11_readAll 50 = .ok (.ifCond .eq 13, 3) := by decide +kernel
theorem dX11_readAll_53 : decode cX11_readAll 53 = .ok (.aload_n 0, 1) := by decide +kernel
theorem dX11_readAll_54 : decode cX11_readAll 54 = .ok (.getfield 147, 3) := by decide +kernel
theorem dX11_readAll_57 : decode cX11_readAll 57 = .ok (.getfield 193, 3) := by decide +kernel
theorem dX11_readAll_60 : decode cX11_readAll 60 = .ok (.ifCond .ne 9, 3) := by decide +kernel
theorem dX11_readAll_63 : decode cX11_readAll 63 = .ok (.aload_n 0, 1) := by decide +kernel
theorem dX11_readAll_64 : decode cX11_readAll 64 = .ok (.bipush 6, 2) := by decide +kernel
theorem dX11_readAll_66 : decode cX11_readAll 66 = .ok (.invokevirtual 114, 3) := by decide +kernel
theorem dX11_readAll_69 : decode cX11_readAll 69 = .ok (.return_, 1) := by decide +kernel
theorem dX11_readLine_0 : decode cX11_readLine 0 = .ok (.aload_n 0, 1) := by decide +kernel
theorem dX11_readLine_1 : decode cX11_readLine 1 = .ok (.ldc 130, 2) := by decide +kernel
theorem dX11_readLine_3 : decode cX11_readLine 3 = .ok (.invokevirtual 107, 3) := by decide +kernel
theorem dX11_readLine_6 : decode cX11_readLine 6 = .ok (.ifCond .eq 10, 3) := by decide +kernel
theorem dX11_readLine_9 : decode cX11_readLine 9 = .ok (.aload_n 0, 1) := by decide +kernel
theorem dX11_readLine_10 : decode cX11_readLine 10 = .ok (.invokevirtual 196, 3) := by decide +kernel
theorem dX11_readLine_13 : decode cX11_readLine 13 = .ok (.goto 88, 3) := by decide +kernel
theorem dX11_readLine_16 : decode cX11_readLine 16 = .ok (.aload_n 0, 1) := by decide +kernel
theorem dX11_readLine_17 : decode cX11_readLine 17 = .ok (.ldc 132, 2) := by decide +kernel
theorem dX11_readLine_19 : decode cX11_readLine 19 = .ok (.invokevirtual 107, 3) := by decide +kernel
theorem dX11_readLine_22 : decode cX11_readLine 22 = .ok (.ifCond .eq 10, 3) := by decide +kernel
theorem dX11_readLine_25 : decode cX11_readLine 25 = .ok (.aload_n 0, 1) := by decide +kernel
theorem dX11_readLine_26 : decode cX11_readLine 26 = .ok (.invokevirtual 199, 3) := by decide +kernel
theorem dX11_readLine_29 : decode cX11_readLine 29 = .ok (.goto 72, 3) := by decide +kernel
theorem dX11_readLine_32 : decode cX11_readLine 32 = .ok (.aload_n 0, 1) := by decide +kernel
theorem dX11_readLine_33 : decode cX11_readLine 33 = .ok (.ldc 134, 2) := by decide +kernel
theorem dX11_readLine_35 : decode cX11_readLine 35 = .ok (.invokevirtual 107, 3) := by decide +kernel
theorem dX11_readLine_38 : decode cX11_readLine 38 = .ok (.ifCond .eq 10, 3) := by decide +kernel
theorem dX11_readLine_41 : decode cX11_readLine 41 = .ok (.aload_n 0, 1) := by decide +kernel
theorem dX11_readLine_42 : decode cX11_readLine 42 = .ok (.invokevirtual 202, 3) := by decide +kernel
theorem dX11_readLine_45 : decode cX11_readLine 45 = .ok (.goto 56, 3) := by decide +kernel
theorem dX11_readLine_48 : decode cX11_readLine 48 = .ok (.aload_n 0, 1) := by decide +kernel
theorem dX11_readLine_49 : decode cX11_readLine 49 = .ok (.ldc 135, 2) := by decide +kernel
theorem dX11_readLine_51 : decode cX11_readLine 51 = .ok (.invokevirtual 107, 3) := by decide +kernel
theorem dX11_readLine_54 : decode cX11_readLine 54 = .ok (.ifCond .eq 10, 3) := by decide +kernel
theorem dX11_readLine_57 : decode cX11_readLine 57 = .ok (.aload_n 0, 1) := by decide +kernel
theorem dX11_readLine_58 : decode cX11_readLine 58 = .ok (.invokevirtual 205, 3) := by decide +kernel
theorem dX11_readLine_61 : decode cX11_readLine 61 = .ok (.goto 40, 3) := by decide +kernel
theorem dX11_readLine_64 : decode cX11_readLine 64 = .ok (.aload_n 0, 1) := by decide +kernel
theorem dX11_readLine_65 : decode cX11_readLine 65 = .ok (.ldc 137, 2) := by decide +kernel
theorem dX11_readLine_67 : decode cX11_readLine 67 = .ok (.invokevirtual 107, 3) := by decide +kernel
theorem dX11_readLine_70 : decode cX11_readLine 70 = .ok (.ifCond .eq 10, 3) := by decide +kernel
theorem dX11_readLine_73 : decode cX11_readLine 73 = .ok (.aload_n 0, 1) := by decide +kernel
theorem dX11_readLine_74 : decode cX11_readLine 74 = .ok (.invokevirtual 208, 3) := by decide +kernel
theorem dX11_readLine_77 : decode cX11_readLine 77 = .ok (.goto 24, 3) := by decide +kernel
theorem dX11_readLine_80 : decode cX11_readLine 80 = .ok (.aload_n 0, 1) := by decide +kernel
theorem dX11_readLine_81 : decode cX11_readLine 81 = .ok (.ldc 139, 2) := by decide +kernel
theorem dX11_readLine_83 : decode cX11_readLine 83 = .ok (.invokevirtual 107, 3) := by decide +kernel
theorem dX11_readLine_86 : decode cX11_readLine 86 = .ok (.ifCond .eq 10, 3) := by decide +kernel
theorem dX11_readLine_89 : decode cX11_readLine 89 = .ok (.aload_n 0, 1) := by decide +kernel
theorem dX11_readLine_90 : decode cX11_readLine 90 = .ok (.invokevirtual 211, 3) := by decide +kernel
theorem dX11_readLine_93 : decode cX11_readLine 93 = .ok (.goto 8, 3) := by decide +kernel
theorem dX11_readLine_96 : decode cX11_readLine 96 = .ok (.aload_n 0, 1) := by decide +kernel
theorem dX11_readLine_97 : decode cX11_readLine 97 = .ok (.iconst 1, 1) := by decide +kernel
theorem dX11_readLine_98 : decode cX11_readLine 98 = .ok (.invokevirtual 114, 3) := by decide +kernel
theorem dX11_readLine_101 : decode cX11_readLine 101 = .ok (.return_, 1) := by decide +kernel
theorem dX11_readWorld_0 : decode cX11_readWorld 0 = .ok (.aload_n 0, 1) := by decide +kernel
theorem dX11_readWorld_1 : decode cX11_readWorld 1 = .ok (.getfield 147, 3) := by decide +kernel
theorem dX11_readWorld_4 : decode cX11_readWorld 4 = .ok (.getfield 151, 3) := by decide +kernel
theorem dX11_readWorld_7 : decode cX11_readWorld 7 = .ok (.ifCond .le 8, 3) := by decide +kernel
theorem dX11_readWorld_10 : decode cX11_readWorld 10 = .ok (.aload_n 0, 1) := by decide +kernel
theorem dX11_readWorld_11 : decode cX11_readWorld 11 = .ok (.iconst 3, 1) := by decide +kernel
theorem dX11_readWorld_12 : decode cX11_readWorld 12 = .ok (.invokevirtual 114, 3) := by decide +kernel
theorem dX11_readWorld_15 : decode cX11_readWorld 15 = .ok (.aload_n 0, 1) := by decide +kernel
theorem dX11_readWorld_16 : decode cX11_readWorld 16 = .ok (.invokevirtual 111, 3) := by decide +kernel
theorem dX11_readWorld_19 : decode cX11_readWorld 19 = .ok (.aload_n 0, 1) := by decide +kernel
theorem dX11_readWorld_20 : decode cX11_readWorld 20 = .ok (.ldc 214, 2) := by decide +kernel
theorem dX11_readWorld_22 : decode cX11_readWorld 22 = .ok (.iconst 5, 1) := by decide +kernel
theorem dX11_readWorld_23 : decode cX11_readWorld 23 = .ok (.bipush 60, 2) := by decide +kernel
theorem dX11_readWorld_25 : decode cX11_readWorld 25 = .ok (.invokevirtual 215, 3) := by decide +kernel
theorem dX11_readWorld_28 : decode cX11_readWorld 28 = .ok (.istore_n 1, 1) := by decide +kernel
theorem dX11_readWorld_29 : decode cX11_readWorld 29 = .ok (.aload_n 0, 1) := by decide +kernel
theorem dX11_readWorld_30 : decode cX11_readWorld 30 = .ok (.getfield 68, 3) := by decide +kernel
theorem dX11_readWorld_33 : decode cX11_readWorld 33 = .ok (.iconst 5, 1) := by decide +kernel
theorem dX11_readWorld_34 : decode cX11_readWorld 34 = .ok (.if_icmp .eq 11, 3) := by decide +kernel
theorem dX11_readWorld_37 : decode cX11_readWorld 37 = .ok (.aload_n 0, 1) := by decide +kernel
theorem dX11_readWorld_38 : decode cX11_readWorld 38 = .ok (.getfield 147, 3) := by decide +kernel
theorem dX11_readWorld_41 : decode cX11_readWorld 41 = .ok (.iload_n 1, 1) := by decide +kernel
theorem dX11_readWorld_42 : decode cX11_readWorld 42 = .ok (.putfield 151, 3) := by decide +kernel
theorem dX11_readWorld_45 : decode cX11_readWorld 45 = .ok (.return_, 1) := by decide +kernel
theorem dX11_readRain_0 : decode cX11_readRain 0 = .ok (.aload_n 0, 1) := by decide +kernel
theorem dX11_readRain_1 : decode cX11_readRain 1 = .ok (.aload_n 0, 1) := by decide +kernel
theorem dX11_readRain_2 : decode cX11_readRain 2 = .ok (.getfield 147, 3) := by decide +kernel
theorem dX11_readRain_5 : decode cX11_readRain 5 = .ok (.getfield 219, 3) := by decide +kernel
theorem dX11_readRain_8 : decode cX11_readRain 8 = .ok (.bipush 6, 2) := by decide +kernel
theorem dX11_readRain_10 : decode cX11_readRain 10 = .ok (.invokevirtual 222, 3) := by decide +kernel
theorem dX11_readRain_13 : decode cX11_readRain 13 = .ok (.aload_n 0, 1) := by decide +kernel
theorem dX11_readRain_14 : decode cX11_readRain 14 = .ok (.ldc 226, 2) := by decide +kernel
theorem dX11_readRain_16 : decode cX11_readRain 16 = .ok (.iconst 0, 1) := by decide +kernel
theorem dX11_readRain_17 : decode cX11_readRain 17 = .ok (.bipush 9, 2) := by decide +kernel
theorem dX11_readRain_19 : decode cX11_readRain 19 = .ok (.invokevirtual 215, 3) := by decide +kernel
theorem dX11_readRain_22 : decode cX11_readRain 22 = .ok (.istore_n 1, 1) := by decide +kernel
theorem dX11_readRain_23 : decode cX11_readRain 23 = .ok (.aload_n 0, 1) := by decide +kernel
theorem dX11_readRain_24 : decode cX11_readRain 24 = .ok (.ldc 228, 2) := by decide +kernel
theorem dX11_readRain_26 : decode cX11_readRain 26 = .ok (.iconst 1, 1) := by decide +kernel
theorem dX11_readRain_27 : decode cX11_readRain 27 = .ok (.bipush 9, 2) := by decide +kernel
theorem dX11_readRain_29 : decode cX11_readRain 29 = .ok (.invokevirtual 215, 3) := by decide +kernel
theorem dX11_readRain_32 : decode cX11_readRain 32 = .ok (.istore_n 2, 1) := by decide +kernel
theorem dX11_readRain_33 : decode cX11_readRain 33 = .ok (.aload_n 0, 1) := by decide +kernel
theorem dX11_readRain_34 : decode cX11_readRain 34 = .ok (.ldc 230, 2) := by decide +kernel
theorem dX11_readRain_36 : decode cX11_readRain 36 = .ok (.invokevirtual 122, 3) := by decide +kernel
theorem dX11_readRain_39 : decode cX11_readRain 39 = .ok (.aload_n 0, 1) := by decide +kernel
theorem dX11_readRain_40 : decode cX11_readRain 40 = .ok (.invokevirtual 232, 3) := by decide +kernel
theorem dX11_readRain_43 : decode cX11_readRain 43 = .ok (.istore_n 3, 1) := by decide +kernel
theorem dX11_readRain_44 : decode cX11_readRain 44 = .ok (.aload_n 0, 1) := by decide +kernel
theorem dX11_readRain_45 : decode cX11_readRain 45 = .ok (.iconst 0, 1) := by decide +kernel
theorem dX11_readRain_46 : decode cX11_readRain 46 = .ok (.bipush 9, 2) := by decide +kernel
theorem dX11_readRain_48 : decode cX11_readRain 48 = .ok (.invokevirtual 126, 3) := by decide +kernel
theorem dX11_readRain_51 : decode cX11_readRain 51 = .ok (.istore 4, 2) := by decide +kernel
theorem dX11_readRain_53 : decode cX11_readRain 53 = .ok (.aload_n 0, 1) := by decide +kernel
theorem dX11_readRain_54 : decode cX11_readRain 54 = .ok (.ldc 235, 2) := by decide +kernel
theorem dX11_readRain_56 : decode cX11_readRain 56 = .ok (.iconst 0, 1) := by decide +kernel
theorem dX11_readRain_57 : decode cX11_readRain 57 = .ok (.bipush 100, 2) := by decide +kernel
theorem dX11_readRain_59 : decode cX11_readRain 59 = .ok (.invokevirtual 215, 3) := by decide +kernel
theorem dX11_readRain_62 : decode cX11_readRain 62 = .ok (.istore 5, 2) := by decide +kernel
theorem dX11_readRain_64 : decode cX11_readRain 64 = .ok (.aload_n 0, 1) := by decide +kernel
theorem dX11_readRain_65 : decode cX11_readRain 65 = .ok (.getfield 68, 3) := by decide +kernel
theorem dX11_readRain_68 : decode cX11_readRain 68 = .ok (.iconst 5, 1) := by decide +kernel
theorem dX11_readRain_69 : decode cX11_readRain 69 = .ok (.if_icmp .ne 4, 3) := by decide +kernel
theorem dX11_readRain_72 : decode cX11_readRain 72 = .ok (.return_, 1) := by decide +kernel
theorem dX11_readRain_73 : decode cX11_readRain 73 = .ok (.aload_n 0, 1) := by decide +kernel
theorem dX11_readRain_74 : decode cX11_readRain 74 = .ok (.getfield 147, 3) := by decide +kernel
theorem dX11_readRain_77 : decode cX11_readRain 77 = .ok (.getfield 237, 3) := by decide +kernel
theorem dX11_readRain_80 : decode cX11_readRain 80 = .ok (.aload_n 0, 1) := by decide +kernel
theorem dX11_readRain_81 : decode cX11_readRain 81 = .ok (.getfield 147, 3) := by decide +kernel
theorem dX11_readRain_84 : decode cX11_readRain 84 = .ok (.getfield 219, 3) := by decide +kernel
theorem dX11_readRain_87 : decode cX11_readRain 87 = .ok (.iload_n 1, 1) := by decide +kernel
theorem dX11_readRain_88 : decode cX11_readRain 88 = .ok (.iastore, 1) := by decide +kernel
theorem dX11_readRain_89 : decode cX11_readRain 89 = .ok (.aload_n 0, 1) := by decide +kernel
theorem dX11_readRain_90 : decode cX11_readRain 90 = .ok (.getfield 147, 3) := by decide +kernel
theorem dX11_readRain_93 : decode cX11_readRain 93 = .ok (.getfield 239, 3) := by decide +kernel
theorem dX11_readRain_96 : decode cX11_readRain 96 = .ok (.aload_n 0, 1) := by decide +kernel
theorem dX11_readRain_97 : decode cX11_readRain 97 = .ok (.getfield 147, 3) := by decide +kernel
theorem dX11_readRain_100 : decode cX11_readRain 100 = .ok (.getfield 219, 3) := by decide +kernel
theorem dX11_readRain_103 : decode cX11_readRain 103 = .ok (.iload_n 2, 1) := by decide +kernel
theorem dX11_readRain_104 : decode cX11_readRain 104 = .ok (.iastore, 1) := by decide +kernel
theorem dX11_readRain_105 : decode cX11_readRain 105 = .ok (.aload_n 0, 1) := by decide +kernel
theorem dX11_readRain_106 : decode cX11_readRain 106 = .ok (.getfield 147, 3) := by decide +kernel
theorem dX11_readRain_109 : decode cX11_readRain 109 = .ok (.getfield 241, 3) := by decide +kernel
theorem dX11_readRain_112 : decode cX11_readRain 112 = .ok (.aload_n 0, 1) := by decide +kernel
theorem dX11_readRain_113 : decode cX11_readRain 113 = .ok (.getfield 147, 3) := by decide +kernel
theorem dX11_readRain_116 : decode cX11_readRain 116 = .ok (.getfield 219, 3) := by decide +kernel
theorem dX11_readRain_119 : decode cX11_readRain 119 = .ok (.iload_n 3, 1) := by decide +kernel
theorem dX11_readRain_120 : decode cX11_readRain 120 = .ok (.iastore, 1) := by decide +kernel
theorem dX11_readRain_121 : decode cX11_readRain 121 = .ok (.aload_n 0, 1) := by decide +kernel
theorem dX11_readRain_122 : decode cX11_readRain 122 = .ok (.getfield 147, 3) := by decide +kernel
theorem dX11_readRain_125 : decode cX11_readRain 125 = .ok (.getfield 244, 3) := by decide +kernel
theorem dX11_readRain_128 : decode cX11_readRain 128 = .ok (.aload_n 0, 1) := by decide +kernel
theorem dX11_readRain_129 : decode cX11_readRain 129 = .ok (.getfield 147, 3) := by decide +kernel
theorem dX11_readRain_132 : decode cX11_readRain 132 = .ok (.getfield 219, 3) := by decide +kernel
theorem dX11_readRain_135 : decode cX11_readRain 135 = .ok (.iload 4, 2) := by decide +kernel
theorem dX11_readRain_137 : decode cX11_readRain 137 = .ok (.iastore, 1) := by decide +kernel
theorem dX11_readRain_138 : decode cX11_readRain 138 = .ok (.aload_n 0, 1) := by decide +kernel
theorem dX11_readRain_139 : decode cX11_readRain 139 = .ok (.getfield 147, 3) := by decide +kernel
theorem dX11_readRain_142 : decode cX11_readRain 142 = .ok (.getfield 246, 3) := by decide +kernel
theorem dX11_readRain_145 : decode cX11_readRain 145 = .ok (.aload_n 0, 1) := by decide +kernel
theorem dX11_readRain_146 : decode cX11_readRain 146 = .ok (.getfield 147, 3) := by decide +kernel
theorem dX11_readRain_149 : decode cX11_readRain 149 = .ok (.getfield 219, 3) := by decide +kernel
theorem dX11_readRain_152 : decode cX11_readRain 152 = .ok (.iload 5, 2) := by decide +kernel
theorem dX11_readRain_154 : decode cX11_readRain 154 = .ok (.iastore, 1) := by decide +kernel
theorem dX11_readRain_155 : decode cX11_readRain 155 = .ok (.aload_n 0, 1) := by decide +kernel
theorem dX11_readRain_156 : decode cX11_readRain 156 = .ok (.getfield 147, 3) := by decide +kernel
theorem dX11_readRain_159 : decode cX11_readRain 159 = .ok (.dup, 1) := by decide +kernel
theorem dX11_readRain_160 : decode cX11_readRain 160 = .ok (.getfield 219, 3) := by decide +kernel
theorem dX11_readRain_163 : decode cX11_readRain 163 = .ok (.iconst 1, 1) := by decide +kernel
theorem dX11_readRain_164 : decode cX11_readRain 164 = .ok (.iadd, 1) := by decide +kernel
theorem dX11_readRain_165 : decode cX11_readRain 165 = .ok (.putfield 219, 3) := by decide +kernel
theorem dX11_readRain_168 : decode cX11_readRain 168 = .ok (.return_, 1) := by decide +kernel
theorem dX11_readPlace_0 : decode cX11_readPlace 0 = .ok (.aload_n 0, 1) := by decide +kernel
theorem dX11_readPlace_1 : decode cX11_readPlace 1 = .ok (.aload_n 0, 1) := by decide +kernel
theorem dX11_readPlace_2 : decode cX11_readPlace 2 = .ok (.getfield 147, 3) := by decide +kernel
theorem dX11_readPlace_5 : decode cX11_readPlace 5 = .ok (.getfield 190, 3) := by decide +kernel
theorem dX11_readPlace_8 : decode cX11_readPlace 8 = .ok (.bipush 8, 2) := by decide +kernel
theorem dX11_readPlace_10 : decode cX11_readPlace 10 = .ok (.invokevirtual 222, 3) := by decide +kernel
theorem dX11_readPlace_13 : decode cX11_readPlace 13 = .ok (.aload_n 0, 1) := by decide +kernel
theorem dX11_readPlace_14 : decode cX11_readPlace 14 = .ok (.invokevirtual 248, 3) := by decide +kernel
theorem dX11_readPlace_17 : decode cX11_readPlace 17 = .ok (.lstore_n 1, 1) := by decide +kernel
theorem dX11_readPlace_18 : decode cX11_readPlace 18 = .ok (.aload_n 0, 1) := by decide +kernel
theorem dX11_readPlace_19 : decode cX11_readPlace 19 = .ok (.ldc 141, 2) := by decide +kernel
theorem dX11_readPlace_21 : decode cX11_readPlace 21 = .ok (.invokevirtual 252, 3) := by decide +kernel
theorem dX11_readPlace_24 : decode cX11_readPlace 24 = .ok (.istore_n 3, 1) := by decide +kernel
theorem dX11_readPlace_25 : decode cX11_readPlace 25 = .ok (.iload_n 3, 1) := by decide +kernel
theorem dX11_readPlace_26 : decode cX11_readPlace 26 = .ok (.ifCond .ne 22, 3) := by decide +kernel
theorem dX11_readPlace_29 : decode cX11_readPlace 29 = .ok (.aload_n 0, 1) := by decide +kernel
theorem dX11_readPlace_30 : decode cX11_readPlace 30 = .ok (.ldc 143, 2) := by decide +kernel
theorem dX11_readPlace_32 : decode cX11_readPlace 32 = .ok (.invokevirtual 252, 3) := by decide +kernel
theorem dX11_readPlace_35 : decode cX11_readPlace 35 = .ok (.ifCond .eq 13, 3) := by decide +kernel
theorem dX11_readPlace_38 : decode cX11_readPlace 38 = .ok (.aload_n 0, 1) := by decide +kernel
theorem dX11_readPlace_39 : decode cX11_readPlace 39 = .ok (.iconst 0, 1) := by decide +kernel
theorem dX11_readPlace_40 : decode cX11_readPlace 40 = .ok (.bipush 9, 2) := by decide +kernel
theorem dX11_readPlace_42 : decode cX11_readPlace 42 = .ok (.invokevirtual 126, 3) := by decide +kernel
theorem dX11_readPlace_45 : decode cX11_readPlace 45 = .ok (.goto 5, 3) := by decide +kernel
theorem dX11_readPlace_48 : decode cX11_readPlace 48 = .ok (.bipush (-2), 2) := by decide +kernel
theorem dX11_readPlace_50 : decode cX11_readPlace 50 = .ok (.istore 4, 2) := by decide +kernel
theorem dX11_readPlace_52 : decode cX11_readPlace 52 = .ok (.aload_n 0, 1) := by decide +kernel
theorem dX11_readPlace_53 : decode cX11_readPlace 53 = .ok (.getfield 68, 3) := by decide +kernel
theorem dX11_readPlace_56 : decode cX11_readPlace 56 = .ok (.iconst 5, 1) := by decide +kernel
theorem dX11_readPlace_57 : decode cX11_readPlace 57 = .ok (.if_icmp .ne 4, 3) := by decide +kernel
theorem dX11_readPlace_60 : decode cX11_readPlace 60 = .ok (.return_, 1) := by decide +kernel
theorem dX11_readPlace_61 : decode cX11_readPlace 61 = .ok (.aload_n 0, 1) := by decide +kernel
theorem dX11_readPlace_62 : decode cX11_readPlace 62 = .ok (.lload_n 1, 1) := by decide +kernel
theorem dX11_readPlace_63 : decode cX11_readPlace 63 = .ok (.iconst 0, 1) := by decide +kernel
theorem dX11_readPlace_64 : decode cX11_readPlace 64 = .ok (.aload_n 0, 1) := by decide +kernel
theorem dX11_readPlace_65 : decode cX11_readPlace 65 = .ok (.getfield 147, 3) := by decide +kernel
theorem dX11_readPlace_68 : decode cX11_readPlace 68 = .ok (.getfield 190, 3) := by decide +kernel
theorem dX11_readPlace_71 : decode cX11_readPlace 71 = .ok (.invokevirtual 255, 3) := by decide +kernel
theorem dX11_readPlace_74 : decode cX11_readPlace 74 = .ok (.aload_n 0, 1) := by decide +kernel
theorem dX11_readPlace_75 : decode cX11_readPlace 75 = .ok (.getfield 147, 3) := by decide +kernel
theorem dX11_readPlace_78 : decode cX11_readPlace 78 = .ok (.getfield 258, 3) := by decide +kernel
theorem dX11_readPlace_81 : decode cX11_readPlace 81 = .ok (.aload_n 0, 1) := by decide +kernel
theorem dX11_readPlace_82 : decode cX11_readPlace 82 = .ok (.getfield 147, 3) := by decide +kernel
theorem dX11_readPlace_85 : decode cX11_readPlace 85 = .ok (.getfield 190, 3) := by decide +kernel
theorem dX11_readPlace_88 : decode cX11_readPlace 88 = .ok (.iload_n 3, 1) := by decide +kernel
theorem dX11_readPlace_89 : decode cX11_readPlace 89 = .ok (.bastore, 1) := by decide +kernel
theorem dX11_readPlace_90 : decode cX11_readPlace 90 = .ok (.aload_n 0, 1) := by decide +kernel
theorem dX11_readPlace_91 : decode cX11_readPlace 91 = .ok (.getfield 147, 3) := by decide +kernel
theorem dX11_readPlace_94 : decode cX11_readPlace 94 = .ok (.getfield 262, 3) := by decide +kernel
theorem dX11_readPlace_97 : decode cX11_readPlace 97 = .ok (.aload_n 0, 1) := by decide +kernel
theorem dX11_readPlace_98 : decode cX11_readPlace 98 = .ok (.getfield 147, 3) := by decide +kernel
theorem dX11_readPlace_101 : decode cX11_readPlace 101 = .ok (.getfield 190, 3) := by decide +kernel
theorem dX11_readPlace_104 : decode cX11_readPlace 104 = .ok (.iload 4, 2) := by decide +kernel
theorem dX11_readPlace_106 : decode cX11_readPlace 106 = .ok (.iastore, 1) := by decide +kernel
theorem dX11_readPlace_107 : decode cX11_readPlace 107 = .ok (.aload_n 0, 1) := by decide +kernel
theorem dX11_readPlace_108 : decode cX11_readPlace 108 = .ok (.getfield 147, 3) := by decide +kernel
theorem dX11_readPlace_111 : decode cX11_readPlace 111 = .ok (.dup, 1) := by decide +kernel
theorem dX11_readPlace_112 : decode cX11_readPlace 112 = .ok (.getfield 190, 3) := by decide +kernel
theorem dX11_readPlace_115 : decode cX11_readPlace 115 = .ok (.iconst 1, 1) := by decide +kernel
theorem dX11_readPlace_116 : decode cX11_readPlace 116 = .ok (.iadd, 1) := by decide +kernel
theorem dX11_readPlace_117 : decode cX11_readPlace 117 = .ok (.putfield 190, 3) := by decide +kernel
theorem dX11_readPlace_120 : decode cX11_readPlace 120 = .ok (.return_, 1) := by decide +kernel
theorem dX11_readRoad_0 : decode cX11_readRoad 0 = .ok (.aload_n 0, 1) := by decide +kernel
theorem dX11_readRoad_1 : decode cX11_readRoad 1 = .ok (.aload_n 0, 1) := by decide +kernel
theorem dX11_readRoad_2 : decode cX11_readRoad 2 = .ok (.getfield 147, 3) := by decide +kernel
theorem dX11_readRoad_5 : decode cX11_readRoad 5 = .ok (.getfield 264, 3) := by decide +kernel
theorem dX11_readRoad_8 : decode cX11_readRoad 8 = .ok (.bipush 12, 2) := by decide +kernel
theorem dX11_readRoad_10 : decode cX11_readRoad 10 = .ok (.invokevirtual 222, 3) := by decide +kernel
theorem dX11_readRoad_13 : decode cX11_readRoad 13 = .ok (.aload_n 0, 1) := by decide +kernel
theorem dX11_readRoad_14 : decode cX11_readRoad 14 = .ok (.iconst 0, 1) := by decide +kernel
theorem dX11_readRoad_15 : decode cX11_readRoad 15 = .ok (.invokevirtual 267, 3) := by decide +kernel
theorem dX11_readRoad_18 : decode cX11_readRoad 18 = .ok (.istore_n 1, 1) := by decide +kernel
theorem dX11_readRoad_19 : decode cX11_readRoad 19 = .ok (.aload_n 0, 1) := by decide +kernel
theorem dX11_readRoad_20 : decode cX11_readRoad 20 = .ok (.invokevirtual 111, 3) := by decide +kernel
theorem dX11_readRoad_23 : decode cX11_readRoad 23 = .ok (.aload_n 0, 1) := by decide +kernel
theorem dX11_readRoad_24 : decode cX11_readRoad 24 = .ok (.invokevirtual 232, 3) := by decide +kernel
theorem dX11_readRoad_27 : decode cX11_readRoad 27 = .ok (.istore_n 2, 1) := by decide +kernel
theorem dX11_readRoad_28 : decode cX11_readRoad 28 = .ok (.aload_n 0, 1) := by decide +kernel
theorem dX11_readRoad_29 : decode cX11_readRoad 29 = .ok (.iconst 1, 1) := by decide +kernel
theorem dX11_readRoad_30 : decode cX11_readRoad 30 = .ok (.bipush 60, 2) := by decide +kernel
theorem dX11_readRoad_32 : decode cX11_readRoad 32 = .ok (.invokevirtual 126, 3) := by decide +kernel
theorem dX11_readRoad_35 : decode cX11_readRoad 35 = .ok (.istore_n 3, 1) := by decide +kernel
theorem dX11_readRoad_36 : decode cX11_readRoad 36 = .ok (.aload_n 0, 1) := by decide +kernel
theorem dX11_readRoad_37 : decode cX11_readRoad 37 = .ok (.iconst 0, 1) := by decide +kernel
theorem dX11_readRoad_38 : decode cX11_readRoad 38 = .ok (.invokevirtual 267, 3) := by decide +kernel
theorem dX11_readRoad_41 : decode cX11_readRoad 41 = .ok (.istore 4, 2) := by decide +kernel
theorem dX11_readRoad_43 : decode cX11_readRoad 43 = .ok (.aload_n 0, 1) := by decide +kernel
theorem dX11_readRoad_44 : decode cX11_readRoad 44 = .ok (.getfield 68, 3) := by decide +kernel
theorem dX11_readRoad_47 : decode cX11_readRoad 47 = .ok (.iconst 5, 1) := by decide +kernel
theorem dX11_readRoad_48 : decode cX11_readRoad 48 = .ok (.if_icmp .eq 14, 3) := by decide +kernel
theorem dX11_readRoad_51 : decode cX11_readRoad 51 = .ok (.iload 4, 2) := by decide +kernel
theorem dX11_readRoad_53 : decode cX11_readRoad 53 = .ok (.iload_n 1, 1) := by decide +kernel
theorem dX11_readRoad_54 : decode cX11_readRoad 54 = .ok (.if_icmp .ne 8, 3) := by decide +kernel
theorem dX11_readRoad_57 : decode cX11_readRoad 57 = .ok (.aload_n 0, 1) := by decide +kernel
theorem dX11_readRoad_58 : decode cX11_readRoad 58 = .ok (.iconst 3, 1) := by decide +kernel
theorem dX11_readRoad_59 : decode cX11_readRoad 59 = .ok (.invokevirtual 114, 3) := by decide +kernel
theorem dX11_readRoad_62 : decode cX11_readRoad 62 = .ok (.aload_n 0, 1) := by decide +kernel
theorem dX11_readRoad_63 : decode cX11_readRoad 63 = .ok (.invokevirtual 111, 3) := by decide +kernel
theorem dX11_readRoad_66 : decode cX11_readRoad 66 = .ok (.aload_n 0, 1) := by decide +kernel
theorem dX11_readRoad_67 : decode cX11_readRoad 67 = .ok (.ldc 145, 2) := by decide +kernel
theorem dX11_readRoad_69 : decode cX11_readRoad 69 = .ok (.invokevirtual 252, 3) := by decide +kernel
theorem dX11_readRoad_72 : decode cX11_readRoad 72 = .ok (.ifCond .eq 12, 3) := by decide +kernel
theorem dX11_readRoad_75 : decode cX11_readRoad 75 = .ok (.aload_n 0, 1) := by decide +kernel
theorem dX11_readRoad_76 : decode cX11_readRoad 76 = .ok (.iconst 0, 1) := by decide +kernel
theorem dX11_readRoad_77 : decode cX11_readRoad 77 = .ok (.iload_n 3, 1) := by decide +kernel
theorem dX11_readRoad_78 : decode cX11_readRoad 78 = .ok (.invokevirtual 126, 3) := by decide +kernel
theorem dX11_readRoad_81 : decode cX11_readRoad 81 = .ok (.goto 4, 3) := by decide +kernel
theorem dX11_readRoad_84 : decode cX11_readRoad 84 = .ok (.iconst 0, 1) := by decide +kernel
theorem dX11_readRoad_85 : decode cX11_readRoad 85 = .ok (.istore 5, 2) := by decide +kernel
theorem dX11_readRoad_87 : decode cX11_readRoad 87 = .ok (.aload_n 0, 1) := by decide +kernel
theorem dX11_readRoad_88 : decode cX11_readRoad 88 = .ok (.getfield 68, 3) := by decide +kernel
theorem dX11_readRoad_91 : decode cX11_readRoad 91 = .ok (.iconst 5, 1) := by decide +kernel
theorem dX11_readRoad_92 : decode cX11_readRoad 92 = .ok (.if_icmp .ne 4, 3) := by decide +kernel
theorem dX11_readRoad_95 : decode cX11_readRoad 95 = .ok (.return_, 1) := by decide +kernel
theorem dX11_readRoad_96 : decode cX11_readRoad 96 = .ok (.aload_n 0, 1) := by decide +kernel
theorem dX11_readRoad_97 : decode cX11_readRoad 97 = .ok (.getfield 147, 3) := by decide +kernel
theorem dX11_readRoad_100 : decode cX11_readRoad 100 = .ok (.getfield 264, 3) := by decide +kernel
theorem dX11_readRoad_103 : decode cX11_readRoad 103 = .ok (.istore 6, 2) := by decide +kernel
theorem dX11_readRoad_105 : decode cX11_readRoad 105 = .ok (.aload_n 0, 1) := by decide +kernel
theorem dX11_readRoad_106 : decode cX11_readRoad 106 = .ok (.getfield 147, 3) := by decide +kernel
theorem dX11_readRoad_109 : decode cX11_readRoad 109 = .ok (.getfield 270, 3) := by decide +kernel
theorem dX11_readRoad_112 : decode cX11_readRoad 112 = .ok (.iload 6, 2) := by decide +kernel
theorem dX11_readRoad_114 : decode cX11_readRoad 114 = .ok (.iload_n 1, 1) := by decide +kernel
theorem dX11_readRoad_115 : decode cX11_readRoad 115 = .ok (.iastore, 1) := by decide +kernel
theorem dX11_readRoad_116 : decode cX11_readRoad 116 = .ok (.aload_n 0, 1) := by decide +kernel
theorem dX11_readRoad_117 : decode cX11_readRoad 117 = .ok (.getfield 147, 3) := by decide +kernel
theorem dX11_readRoad_120 : decode cX11_readRoad 120 = .ok (.getfield 273, 3) := by decide +kernel
theorem dX11_readRoad_123 : decode cX11_readRoad 123 = .ok (.iload 6, 2) := by decide +kernel
theorem dX11_readRoad_125 : decode cX11_readRoad 125 = .ok (.iload 4, 2) := by decide +kernel
theorem dX11_readRoad_127 : decode cX11_readRoad 127 = .ok (.iastore, 1) := by decide +kernel
theorem dX11_readRoad_128 : decode cX11_readRoad 128 = .ok (.aload_n 0, 1) := by decide +kernel
theorem dX11_readRoad_129 : decode cX11_readRoad 129 = .ok (.getfield 147, 3) := by decide +kernel
theorem dX11_readRoad_132 : decode cX11_readRoad 132 = .ok (.getfield 276, 3) := by decide +kernel
theorem dX11_readRoad_135 : decode cX11_readRoad 135 = .ok (.iload 6, 2) := by decide +kernel
theorem dX11_readRoad_137 : decode cX11_readRoad 137 = .ok (.iload_n 2, 1) := by decide +kernel
theorem dX11_readRoad_138 : decode cX11_readRoad 138 = .ok (.iastore, 1) := by decide +kernel
theorem dX11_readRoad_139 : decode cX11_readRoad 139 = .ok (.aload_n 0, 1) := by decide +kernel
theorem dX11_readRoad_140 : decode cX11_readRoad 140 = .ok (.getfield 147, 3) := by decide +kernel
theorem dX11_readRoad_143 : decode cX11_readRoad 143 = .ok (.getfield 279, 3) := by decide +kernel
theorem dX11_readRoad_146 : decode cX11_readRoad 146 = .ok (.iload 6, 2) := by decide +kernel
theorem dX11_readRoad_148 : decode cX11_readRoad 148 = .ok (.iload_n 3, 1) := by decide +kernel
theorem dX11_readRoad_149 : decode cX11_readRoad 149 = .ok (.iastore, 1) := by decide +kernel
theorem dX11_readRoad_150 : decode cX11_readRoad 150 = .ok (.aload_n 0, 1) := by decide +kernel
theorem dX11_readRoad_151 : decode cX11_readRoad 151 = .ok (.getfield 147, 3) := by decide +kernel
theorem dX11_readRoad_154 : decode cX11_readRoad 154 = .ok (.getfield 282, 3) := by decide +kernel
theorem dX11_readRoad_157 : decode cX11_readRoad 157 = .ok (.iload 6, 2) := by decide +kernel
theorem dX11_readRoad_159 : decode cX11_readRoad 159 = .ok (.iload 5, 2) := by decide +kernel
theorem dX11_readRoad_161 : decode cX11_readRoad 161 = .ok (.iastore, 1) := by decide +kernel
theorem dX11_readRoad_162 : decode cX11_readRoad 162 = .ok (.aload_n 0, 1) := by decide +kernel
theorem dX11_readRoad_163 : decode cX11_readRoad 163 = .ok (.getfield 147, 3) := by decide +kernel
theorem dX11_readRoad_166 : decode cX11_readRoad 166 = .ok (.dup, 1) := by decide +kernel
theorem dX11_readRoad_167 : decode cX11_readRoad 167 = .ok (.getfield 264, 3) := by decide +kernel
theorem dX11_readRoad_170 : decode cX11_readRoad 170 = .ok (.iconst 1, 1) := by decide +kernel
theorem dX11_readRoad_171 : decode cX11_readRoad 171 = .ok (.iadd, 1) := by decide +kernel
theorem dX11_readRoad_172 : decode cX11_readRoad 172 = .ok (.putfield 264, 3) := by decide +kernel
theorem dX11_readRoad_175 : decode cX11_readRoad 175 = .ok (.return_, 1) := by decide +kernel
theorem dX11_readWalker_0 : decode cX11_readWalker 0 = .ok (.aload_n 0, 1) := by decide +kernel
theorem dX11_readWalker_1 : decode cX11_readWalker 1 = .ok (.aload_n 0, 1) := by decide +kernel
theorem dX11_readWalker_2 : decode cX11_readWalker 2 = .ok (.getfield 147, 3) := by decide +kernel
theorem dX11_readWalker_5 : decode cX11_readWalker 5 = .ok (.getfield 193, 3) := by decide +kernel
theorem dX11_readWalker_8 : decode cX11_readWalker 8 = .ok (.iconst 4, 1) := by decide +kernel
theorem dX11_readWalker_9 : decode cX11_readWalker 9 = .ok (.invokevirtual 222, 3) := by decide +kernel
theorem dX11_readWalker_12 : decode cX11_readWalker 12 = .ok (.aload_n 0, 1) := by decide +kernel
theorem dX11_readWalker_13 : decode cX11_readWalker 13 = .ok (.invokevirtual 248, 3) := by decide +kernel
theorem dX11_readWalker_16 : decode cX11_readWalker 16 = .ok (.lstore_n 1, 1) := by decide +kernel
theorem dX11_readWalker_17 : decode cX11_readWalker 17 = .ok (.aload_n 0, 1) := by decide +kernel
theorem dX11_readWalker_18 : decode cX11_readWalker 18 = .ok (.ldc_w 284, 3) := by decide +kernel
theorem dX11_readWalker_21 : decode cX11_readWalker 21 = .ok (.invokevirtual 107, 3) := by decide +kernel
theorem dX11_readWalker_24 : decode cX11_readWalker 24 = .ok (.ifCond .eq 7, 3) := by decide +kernel
theorem dX11_readWalker_27 : decode cX11_readWalker 27 = .ok (.iconst 0, 1) := by decide +kernel
theorem dX11_readWalker_28 : decode cX11_readWalker 28 = .ok (.goto 46, 3) := by decide +kernel
theorem dX11_readWalker_31 : decode cX11_readWalker 31 = .ok (.aload_n 0, 1) := by decide +kernel
theorem dX11_readWalker_32 : decode cX11_readWalker 32 = .ok (.ldc_w 286, 3) := by decide +kernel
theorem dX11_readWalker_35 : decode cX11_readWalker 35 = .ok (.invokevirtual 107, 3) := by decide +kernel
theorem dX11_readWalker_38 : decode cX11_readWalker 38 = .ok (.ifCond .eq 7, 3) := by decide +kernel
theorem dX11_readWalker_41 : decode cX11_readWalker 41 = .ok (.iconst 1, 1) := by decide +kernel
theorem dX11_readWalker_42 : decode cX11_readWalker 42 = .ok (.goto 32, 3) := by decide +kernel
theorem dX11_readWalker_45 : decode cX11_readWalker 45 = .ok (.aload_n 0, 1) := by decide +kernel
theorem dX11_readWalker_46 : decode cX11_readWalker 46 = .ok (.ldc_w 288, 3) := by decide +kernel
theorem dX11_readWalker_49 : decode cX11_readWalker 49 = .ok (.invokevirtual 107, 3) := by decide +kernel
theorem dX11_readWalker_52 : decode cX11_readWalker 52 = .ok (.ifCond .eq 7, 3) := by decide +kernel
theorem dX11_readWalker_55 : decode cX11_readWalker 55 = .ok (.iconst 2, 1) := by decide +kernel
theorem dX11_readWalker_56 : decode cX11_readWalker 56 = .ok (.goto 18, 3) := by decide +kernel
theorem dX11_readWalker_59 : decode cX11_readWalker 59 = .ok (.aload_n 0, 1) := by decide +kernel
theorem dX11_readWalker_60 : decode cX11_readWalker 60 = .ok (.ldc_w 290, 3) := by decide +kernel
theorem dX11_readWalker_63 : decode cX11_readWalker 63 = .ok (.invokevirtual 107, 3) := by decide +kernel
theorem dX11_readWalker_66 : decode cX11_readWalker 66 = .ok (.ifCond .eq 7, 3) := by decide +kernel
theorem dX11_readWalker_69 : decode cX11_readWalker 69 = .ok (.iconst 3, 1) := by decide +kernel
theorem dX11_readWalker_70 : decode cX11_readWalker 70 = .ok (.goto 4, 3) := by decide +kernel
theorem dX11_readWalker_73 : decode cX11_readWalker 73 = .ok (.iconst (-1), 1) := by decide +kernel
theorem dX11_readWalker_74 : decode cX11_readWalker 74 = .ok (.istore_n 3, 1) := by decide +kernel
theorem dX11_readWalker_75 : decode cX11_readWalker 75 = .ok (.iload_n 3, 1) := by decide +kernel
theorem dX11_readWalker_76 : decode cX11_readWalker 76 = .ok (.iconst (-1), 1) := by decide +kernel
theorem dX11_readWalker_77 : decode cX11_readWalker 77 = .ok (.if_icmp .ne 8, 3) := by decide +kernel
theorem dX11_readWalker_80 : decode cX11_readWalker 80 = .ok (.aload_n 0, 1) := by decide +kernel
theorem dX11_readWalker_81 : decode cX11_readWalker 81 = .ok (.iconst 1, 1) := by decide +kernel
theorem dX11_readWalker_82 : decode cX11_readWalker 82 = .ok (.invokevirtual 114, 3) := by decide +kernel
theorem dX11_readWalker_85 : decode cX11_readWalker 85 = .ok (.aload_n 0, 1) := by decide +kernel
theorem dX11_readWalker_86 : decode cX11_readWalker 86 = .ok (.invokevirtual 111, 3) := by decide +kernel
theorem dX11_readWalker_89 : decode cX11_readWalker 89 = .ok (.iload_n 3, 1) := by decide +kernel
theorem dX11_readWalker_90 : decode cX11_readWalker 90 = .ok (.iconst 1, 1) := by decide +kernel
theorem dX11_readWalker_91 : decode cX11_readWalker 91 = .ok (.if_icmp .ne 13, 3) := by decide +kernel
theorem dX11_readWalker_94 : decode cX11_readWalker 94 = .ok (.aload_n 0, 1) := by decide +kernel
theorem dX11_readWalker_95 : decode cX11_readWalker 95 = .ok (.iconst 1, 1) := by decide +kernel
theorem dX11_readWalker_96 : decode cX11_readWalker 96 = .ok (.bipush 8, 2) := by decide +kernel
theorem dX11_readWalker_98 : decode cX11_readWalker 98 = .ok (.invokevirtual 126, 3) := by decide +kernel
theorem dX11_readWalker_101 : decode cX11_readWalker 101 = .ok (.goto 35, 3) := by decide +kernel
theorem dX11_readWalker_104 : decode cX11_readWalker 104 = .ok (.iload_n 3, 1) := by decide +kernel
theorem dX11_readWalker_105 : decode cX11_readWalker 105 = .ok (.iconst 2, 1) := by decide +kernel
theorem dX11_readWalker_106 : decode cX11_readWalker 106 = .ok (.if_icmp .ne 14, 3) := by decide +kernel
theorem dX11_readWalker_109 : decode cX11_readWalker 109 = .ok (.aload_n 0, 1) := by decide +kernel
theorem dX11_readWalker_110 : decode cX11_readWalker 110 = .ok (.iconst 0, 1) := by decide +kernel
theorem dX11_readWalker_111 : decode cX11_readWalker 111 = .ok (.sipush 999, 3) := by decide +kernel
theorem dX11_readWalker_114 : decode cX11_readWalker 114 = .ok (.invokevirtual 126, 3) := by decide +kernel
theorem dX11_readWalker_117 : decode cX11_readWalker 117 = .ok (.goto 19, 3) := by decide +kernel
theorem dX11_readWalker_120 : decode cX11_readWalker 120 = .ok (.iload_n 3, 1) := by decide +kernel
theorem dX11_readWalker_121 : decode cX11_readWalker 121 = .ok (.iconst 3, 1) := by decide +kernel
theorem dX11_readWalker_122 : decode cX11_readWalker 122 = .ok (.if_icmp .ne 13, 3) := by decide +kernel
theorem dX11_readWalker_125 : decode cX11_readWalker 125 = .ok (.aload_n 0, 1) := by decide +kernel
theorem dX11_readWalker_126 : decode cX11_readWalker 126 = .ok (.iconst 1, 1) := by decide +kernel
theorem dX11_readWalker_127 : decode cX11_readWalker 127 = .ok (.bipush 99, 2) := by decide +kernel
theorem dX11_readWalker_129 : decode cX11_readWalker 129 = .ok (.invokevirtual 126, 3) := by decide +kernel
theorem dX11_readWalker_132 : decode cX11_readWalker 132 = .ok (.goto 4, 3) := by decide +kernel
theorem dX11_readWalker_135 : decode cX11_readWalker 135 = .ok (.iconst 0, 1) := by decide +kernel
theorem dX11_readWalker_136 : decode cX11_readWalker 136 = .ok (.istore 4, 2) := by decide +kernel
theorem dX11_readWalker_138 : decode cX11_readWalker 138 = .ok (.iload_n 3, 1) := by decide +kernel
theorem dX11_readWalker_139 : decode cX11_readWalker 139 = .ok (.iconst 1, 1) := by decide +kernel
theorem dX11_readWalker_140 : decode cX11_readWalker 140 = .ok (.if_icmp .ne 8, 3) := by decide +kernel
theorem dX11_readWalker_143 : decode cX11_readWalker 143 = .ok (.iload 4, 2) := by decide +kernel
theorem dX11_readWalker_145 : decode cX11_readWalker 145 = .ok (.goto 4, 3) := by decide +kernel
theorem dX11_readWalker_148 : decode cX11_readWalker 148 = .ok (.iconst 0, 1) := by decide +kernel
theorem dX11_readWalker_149 : decode cX11_readWalker 149 = .ok (.istore 5, 2) := by decide +kernel
theorem dX11_readWalker_151 : decode cX11_readWalker 151 = .ok (.aload_n 0, 1) := by decide +kernel
theorem dX11_readWalker_152 : decode cX11_readWalker 152 = .ok (.ldc_w 292, 3) := by decide +kernel
theorem dX11_readWalker_155 : decode cX11_readWalker 155 = .ok (.iconst 1, 1) := by decide +kernel
theorem dX11_readWalker_156 : decode cX11_readWalker 156 = .ok (.bipush 9, 2) := by decide +kernel
theorem dX11_readWalker_158 : decode cX11_readWalker 158 = .ok (.invokevirtual 215, 3) := by decide +kernel
theorem dX11_readWalker_161 : decode cX11_readWalker 161 = .ok (.istore 6, 2) := by decide +kernel
theorem dX11_readWalker_163 : decode cX11_readWalker 163 = .ok (.aload_n 0, 1) := by decide +kernel
theorem dX11_readWalker_164 : decode cX11_readWalker 164 = .ok (.ldc_w 294, 3) := by decide +kernel
theorem dX11_readWalker_167 : decode cX11_readWalker 167 = .ok (.iconst 1, 1) := by decide +kernel
theorem dX11_readWalker_168 : decode cX11_readWalker 168 = .ok (.bipush 9, 2) := by decide +kernel
theorem dX11_readWalker_170 : decode cX11_readWalker 170 = .ok (.invokevirtual 215, 3) := by decide +kernel
theorem dX11_readWalker_173 : decode cX11_readWalker 173 = .ok (.istore 7, 2) := by decide +kernel
theorem dX11_readWalker_175 : decode cX11_readWalker 175 = .ok (.aload_n 0, 1) := by decide +kernel
theorem dX11_readWalker_176 : decode cX11_readWalker 176 = .ok (.ldc_w 296, 3) := by decide +kernel
theorem dX11_readWalker_179 : decode cX11_readWalker 179 = .ok (.iload 5, 2) := by decide +kernel
theorem dX11_readWalker_181 : decode cX11_readWalker 181 = .ok (.iconst 1, 1) := by decide +kernel
theorem dX11_readWalker_182 : decode cX11_readWalker 182 = .ok (.iadd, 1) := by decide +kernel
theorem dX11_readWalker_183 : decode cX11_readWalker 183 = .ok (.bipush 9, 2) := by decide +kernel
theorem dX11_readWalker_185 : decode cX11_readWalker 185 = .ok (.invokevirtual 215, 3) := by decide +kernel
theorem dX11_readWalker_188 : decode cX11_readWalker 188 = .ok (.istore 8, 2) := by decide +kernel
theorem dX11_readWalker_190 : decode cX11_readWalker 190 = .ok (.aload_n 0, 1) := by decide +kernel
theorem dX11_readWalker_191 : decode cX11_readWalker 191 = .ok (.ldc_w 298, 3) := by decide +kernel
theorem dX11_readWalker_194 : decode cX11_readWalker 194 = .ok (.iconst 1, 1) := by decide +kernel
theorem dX11_readWalker_195 : decode cX11_readWalker 195 = .ok (.bipush 9, 2) := by decide +kernel
theorem dX11_readWalker_197 : decode cX11_readWalker 197 = .ok (.invokevirtual 215, 3) := by decide +kernel
theorem dX11_readWalker_200 : decode cX11_readWalker 200 = .ok (.istore 9, 2) := by decide +kernel
theorem dX11_readWalker_202 : decode cX11_readWalker 202 = .ok (.aload_n 0, 1) := by decide +kernel
theorem dX11_readWalker_203 : decode cX11_readWalker 203 = .ok (.ldc_w 300, 3) := by decide +kernel
theorem dX11_readWalker_206 : decode cX11_readWalker 206 = .ok (.iload 9, 2) := by decide +kernel
theorem dX11_readWalker_208 : decode cX11_readWalker 208 = .ok (.bipush 9, 2) := by decide +kernel
theorem dX11_readWalker_210 : decode cX11_readWalker 210 = .ok (.invokevirtual 215, 3) := by decide +kernel
theorem dX11_readWalker_213 : decode cX11_readWalker 213 = .ok (.istore 10, 2) := by decide +kernel
theorem dX11_readWalker_215 : decode cX11_readWalker 215 = .ok (.aload_n 0, 1) := by decide +kernel
theorem dX11_readWalker_216 : decode cX11_readWalker 216 = .ok (.getfield 68, 3) := by decide +kernel
theorem dX11_readWalker_219 : decode cX11_readWalker 219 = .ok (.iconst 5, 1) := by decide +kernel
theorem dX11_readWalker_220 : decode cX11_readWalker 220 = .ok (.if_icmp .ne 4, 3) := by decide +kernel
theorem dX11_readWalker_223 : decode cX11_readWalker 223 = .ok (.return_, 1) := by decide +kernel
theorem dX11_readWalker_224 : decode cX11_readWalker 224 = .ok (.aload_n 0, 1) := by decide +kernel
theorem dX11_readWalker_225 : decode cX11_readWalker 225 = .ok (.getfield 147, 3) := by decide +kernel
theorem dX11_readWalker_228 : decode cX11_readWalker 228 = .ok (.getfield 193, 3) := by decide +kernel
theorem dX11_readWalker_231 : decode cX11_readWalker 231 = .ok (.istore 11, 2) := by decide +kernel
theorem dX11_readWalker_233 : decode cX11_readWalker 233 = .ok (.aload_n 0, 1) := by decide +kernel
theorem dX11_readWalker_234 : decode cX11_readWalker 234 = .ok (.lload_n 1, 1) := by decide +kernel
theorem dX11_readWalker_235 : decode cX11_readWalker 235 = .ok (.iconst 1, 1) := by decide +kernel
theorem dX11_readWalker_236 : decode cX11_readWalker 236 = .ok (.iload 11, 2) := by decide +kernel
theorem dX11_readWalker_238 : decode cX11_readWalker 238 = .ok (.invokevirtual 255, 3) := by decide +kernel
theorem dX11_readWalker_241 : decode cX11_readWalker 241 = .ok (.aload_n 0, 1) := by decide +kernel
theorem dX11_readWalker_242 : decode cX11_readWalker 242 = .ok (.getfield 147, 3) := by decide +kernel
theorem dX11_readWalker_245 : decode cX11_readWalker 245 = .ok (.getfield 302, 3) := by decide +kernel
theorem dX11_readWalker_248 : decode cX11_readWalker 248 = .ok (.iload 11, 2) := by decide +kernel
theorem dX11_readWalker_250 : decode cX11_readWalker 250 = .ok (.iload_n 3, 1) := by decide +kernel
theorem dX11_readWalker_251 : decode cX11_readWalker 251 = .ok (.iastore, 1) := by decide +kernel
theorem dX11_readWalker_252 : decode cX11_readWalker 252 = .ok (.aload_n 0, 1) := by decide +kernel
theorem dX11_readWalker_253 : decode cX11_readWalker 253 = .ok (.getfield 147, 3) := by decide +kernel
theorem dX11_readWalker_256 : decode cX11_readWalker 256 = .ok (.getfield 305, 3) := by decide +kernel
theorem dX11_readWalker_259 : decode cX11_readWalker 259 = .ok (.iload 11, 2) := by decide +kernel
theorem dX11_readWalker_261 : decode cX11_readWalker 261 = .ok (.iload 4, 2) := by decide +kernel
theorem dX11_readWalker_263 : decode cX11_readWalker 263 = .ok (.iastore, 1) := by decide +kernel
theorem dX11_readWalker_264 : decode cX11_readWalker 264 = .ok (.aload_n 0, 1) := by decide +kernel
theorem dX11_readWalker_265 : decode cX11_readWalker 265 = .ok (.getfield 147, 3) := by decide +kernel
theorem dX11_readWalker_268 : decode cX11_readWalker 268 = .ok (.getfield 308, 3) := by decide +kernel
theorem dX11_readWalker_271 : decode cX11_readWalker 271 = .ok (.iload 11, 2) := by decide +kernel
theorem dX11_readWalker_273 : decode cX11_readWalker 273 = .ok (.iload 6, 2) := by decide +kernel
theorem dX11_readWalker_275 : decode cX11_readWalker 275 = .ok (.iload 7, 2) := by decide +kernel
theorem dX11_readWalker_277 : decode cX11_readWalker 277 = .ok (.iload 5, 2) := by decide +kernel
theorem dX11_readWalker_279 : decode cX11_readWalker 279 = .ok (.iadd, 1) := by decide +kernel
theorem dX11_readWalker_280 : decode cX11_readWalker 280 = .ok (.imul, 1) := by decide +kernel
theorem dX11_readWalker_281 : decode cX11_readWalker 281 = .ok (.iastore, 1) := by decide +kernel
theorem dX11_readWalker_282 : decode cX11_readWalker 282 = .ok (.aload_n 0, 1) := by decide +kernel
theorem dX11_readWalker_283 : decode cX11_readWalker 283 = .ok (.getfield 147, 3) := by decide +kernel
theorem dX11_readWalker_286 : decode cX11_readWalker 286 = .ok (.getfield 311, 3) := by decide +kernel
theorem dX11_readWalker_289 : decode cX11_readWalker 289 = .ok (.iload 11, 2) := by decide +kernel
theorem dX11_readWalker_291 : decode cX11_readWalker 291 = .ok (.iload 6, 2) := by decide +kernel
theorem dX11_readWalker_293 : decode cX11_readWalker 293 = .ok (.iload 8, 2) := by decide +kernel
theorem dX11_readWalker_295 : decode cX11_readWalker 295 = .ok (.iload 5, 2) := by decide +kernel
theorem dX11_readWalker_297 : decode cX11_readWalker 297 = .ok (.isub, 1) := by decide +kernel
theorem dX11_readWalker_298 : decode cX11_readWalker 298 = .ok (.imul, 1) := by decide +kernel
theorem dX11_readWalker_299 : decode cX11_readWalker 299 = .ok (.iastore, 1) := by decide +kernel
theorem dX11_readWalker_300 : decode cX11_readWalker 300 = .ok (.aload_n 0, 1) := by decide +kernel
theorem dX11_readWalker_301 : decode cX11_readWalker 301 = .ok (.getfield 147, 3) := by decide +kernel
theorem dX11_readWalker_304 : decode cX11_readWalker 304 = .ok (.getfield 314, 3) := by decide +kernel
theorem dX11_readWalker_307 : decode cX11_readWalker 307 = .ok (.iload 11, 2) := by decide +kernel
theorem dX11_readWalker_309 : decode cX11_readWalker 309 = .ok (.iload 7, 2) := by decide +kernel
theorem dX11_readWalker_311 : decode cX11_readWalker 311 = .ok (.iload 5, 2) := by decide +kernel
theorem dX11_readWalker_313 : decode cX11_readWalker 313 = .ok (.iadd, 1) := by decide +kernel
theorem dX11_readWalker_314 : decode cX11_readWalker 314 = .ok (.iload 8, 2) := by decide +kernel
theorem dX11_readWalker_316 : decode cX11_readWalker 316 = .ok (.iload 5, 2) := by decide +kernel
theorem dX11_readWalker_318 : decode cX11_readWalker 318 = .ok (.isub, 1) := by decide +kernel
theorem dX11_readWalker_319 : decode cX11_readWalker 319 = .ok (.imul, 1) := by decide +kernel
theorem dX11_readWalker_320 : decode cX11_readWalker 320 = .ok (.iastore, 1) := by decide +kernel
theorem dX11_readWalker_321 : decode cX11_readWalker 321 = .ok (.aload_n 0, 1) := by decide +kernel
theorem dX11_readWalker_322 : decode cX11_readWalker 322 = .ok (.getfield 147, 3) := by decide +kernel
theorem dX11_readWalker_325 : decode cX11_readWalker 325 = .ok (.getfield 317, 3) := by decide +kernel
theorem dX11_readWalker_328 : decode cX11_readWalker 328 = .ok (.iload 11, 2) := by decide +kernel
theorem dX11_readWalker_330 : decode cX11_readWalker 330 = .ok (.iload 9, 2) := by decide +kernel
theorem dX11_readWalker_332 : decode cX11_readWalker 332 = .ok (.iastore, 1) := by decide +kernel
theorem dX11_readWalker_333 : decode cX11_readWalker 333 = .ok (.aload_n 0, 1) := by decide +kernel
theorem dX11_readWalker_334 : decode cX11_readWalker 334 = .ok (.getfield 147, 3) := by decide +kernel
theorem dX11_readWalker_337 : decode cX11_readWalker 337 = .ok (.getfield 320, 3) := by decide +kernel
theorem dX11_readWalker_340 : decode cX11_readWalker 340 = .ok (.iload 11, 2) := by decide +kernel
theorem dX11_readWalker_342 : decode cX11_readWalker 342 = .ok (.iload 10, 2) := by decide +kernel
theorem dX11_readWalker_344 : decode cX11_readWalker 344 = .ok (.iastore, 1) := by decide +kernel
theorem dX11_readWalker_345 : decode cX11_readWalker 345 = .ok (.aload_n 0, 1) := by decide +kernel
theorem dX11_readWalker_346 : decode cX11_readWalker 346 = .ok (.getfield 147, 3) := by decide +kernel
theorem dX11_readWalker_349 : decode cX11_readWalker 349 = .ok (.dup, 1) := by decide +kernel
theorem dX11_readWalker_350 : decode cX11_readWalker 350 = .ok (.getfield 193, 3) := by decide +kernel
theorem dX11_readWalker_353 : decode cX11_readWalker 353 = .ok (.iconst 1, 1) := by decide +kernel
theorem dX11_readWalker_354 : decode cX11_readWalker 354 = .ok (.iadd, 1) := by decide +kernel
theorem dX11_readWalker_355 : decode cX11_readWalker 355 = .ok (.putfield 193, 3) := by decide +kernel
theorem dX11_readWalker_358 : decode cX11_readWalker 358 = .ok (.return_, 1) := by decide +kernel
theorem dX11_readSeen_0 : decode cX11_readSeen 0 = .ok (.aload_n 0, 1) := by decide +kernel
theorem dX11_readSeen_1 : decode cX11_readSeen 1 = .ok (.aload_n 0, 1) := by decide +kernel
theorem dX11_readSeen_2 : decode cX11_readSeen 2 = .ok (.getfield 147, 3) := by decide +kernel
theorem dX11_readSeen_5 : decode cX11_readSeen 5 = .ok (.getfield 323, 3) := by decide +kernel
theorem dX11_readSeen_8 : decode cX11_readSeen 8 = .ok (.iconst 4, 1) := by decide +kernel
theorem dX11_readSeen_9 : decode cX11_readSeen 9 = .ok (.invokevirtual 222, 3) := by decide +kernel
theorem dX11_readSeen_12 : decode cX11_readSeen 12 = .ok (.aload_n 0, 1) := by decide +kernel
theorem dX11_readSeen_13 : decode cX11_readSeen 13 = .ok (.iconst 1, 1) := by decide +kernel
theorem dX11_readSeen_14 : decode cX11_readSeen 14 = .ok (.invokevirtual 267, 3) := by decide +kernel
theorem dX11_readSeen_17 : decode cX11_readSeen 17 = .ok (.istore_n 1, 1) := by decide +kernel
theorem dX11_readSeen_18 : decode cX11_readSeen 18 = .ok (.aload_n 0, 1) := by decide +kernel
theorem dX11_readSeen_19 : decode cX11_readSeen 19 = .ok (.invokevirtual 111, 3) := by decide +kernel
theorem dX11_readSeen_22 : decode cX11_readSeen 22 = .ok (.iconst 0, 1) := by decide +kernel
theorem dX11_readSeen_23 : decode cX11_readSeen 23 = .ok (.istore_n 2, 1) := by decide +kernel
theorem dX11_readSeen_24 : decode cX11_readSeen 24 = .ok (.iload_n 2, 1) := by decide +kernel
theorem dX11_readSeen_25 : decode cX11_readSeen 25 = .ok (.iconst 5, 1) := by decide +kernel
theorem dX11_readSeen_26 : decode cX11_readSeen 26 = .ok (.if_icmp .ge 65, 3) := by decide +kernel
theorem dX11_readSeen_29 : decode cX11_readSeen 29 = .ok (.iload_n 2, 1) := by decide +kernel
theorem dX11_readSeen_30 : decode cX11_readSeen 30 = .ok (.ifCond .le 17, 3) := by decide +kernel
theorem dX11_readSeen_33 : decode cX11_readSeen 33 = .ok (.aload_n 0, 1) := by decide +kernel
theorem dX11_readSeen_34 : decode cX11_readSeen 34 = .ok (.bipush 44, 2) := by decide +kernel
theorem dX11_readSeen_36 : decode cX11_readSeen 36 = .ok (.invokevirtual 187, 3) := by decide +kernel
theorem dX11_readSeen_39 : decode cX11_readSeen 39 = .ok (.ifCond .ne 8, 3) := by decide +kernel
theorem dX11_readSeen_42 : decode cX11_readSeen 42 = .ok (.aload_n 0, 1) := by decide +kernel
theorem dX11_readSeen_43 : decode cX11_readSeen 43 = .ok (.iconst 1, 1) := by decide +kernel
theorem dX11_readSeen_44 : decode cX11_readSeen 44 = .ok (.invokevirtual 114, 3) := by decide +kernel
theorem dX11_readSeen_47 : decode cX11_readSeen 47 = .ok (.aload_n 0, 1) := by decide +kernel
theorem dX11_readSeen_48 : decode cX11_readSeen 48 = .ok (.iconst 0, 1) := by decide +kernel
theorem dX11_readSeen_49 : decode cX11_readSeen 49 = .ok (.sipush 999, 3) := by decide +kernel
theorem dX11_readSeen_52 : decode cX11_readSeen 52 = .ok (.invokevirtual 126, 3) := by decide +kernel
theorem dX11_readSeen_55 : decode cX11_readSeen 55 = .ok (.istore_n 3, 1) := by decide +kernel
theorem dX11_readSeen_56 : decode cX11_readSeen 56 = .ok (.aload_n 0, 1) := by decide +kernel
theorem dX11_readSeen_57 : decode cX11_readSeen 57 = .ok (.getfield 68, 3) := by decide +kernel
theorem dX11_readSeen_60 : decode cX11_readSeen 60 = .ok (.iconst 5, 1) := by decide +kernel
theorem dX11_readSeen_61 : decode cX11_readSeen 61 = .ok (.if_icmp .ne 4, 3) := by decide +kernel
theorem dX11_readSeen_64 : decode cX11_readSeen 64 = .ok (.return_, 1) := by decide +kernel
theorem dX11_readSeen_65 : decode cX11_readSeen 65 = .ok (.aload_n 0, 1) := by decide +kernel
theorem dX11_readSeen_66 : decode cX11_readSeen 66 = .ok (.getfield 147, 3) := by decide +kernel
theorem dX11_readSeen_69 : decode cX11_readSeen 69 = .ok (.getfield 326, 3) := by decide +kernel
theorem dX11_readSeen_72 : decode cX11_readSeen 72 = .ok (.iconst 5, 1) := by decide +kernel
theorem dX11_readSeen_73 : decode cX11_readSeen 73 = .ok (.aload_n 0, 1) := by decide +kernel
theorem dX11_readSeen_74 : decode cX11_readSeen 74 = .ok (.getfield 147, 3) := by decide +kernel
theorem dX11_readSeen_77 : decode cX11_readSeen 77 = .ok (.getfield 323, 3) := by decide +kernel
theorem dX11_readSeen_80 : decode cX11_readSeen 80 = .ok (.imul, 1) := by decide +kernel
theorem dX11_readSeen_81 : decode cX11_readSeen 81 = .ok (.iload_n 2, 1) := by decide +kernel
theorem dX11_readSeen_82 : decode cX11_readSeen 82 = .ok (.iadd, 1) := by decide +kernel
theorem dX11_readSeen_83 : decode cX11_readSeen 83 = .ok (.iload_n 3, 1) := by decide +kernel
theorem dX11_readSeen_84 : decode cX11_readSeen 84 = .ok (.iastore, 1) := by decide +kernel
theorem dX11_readSeen_85 : decode cX11_readSeen 85 = .ok (.iinc 2 1, 3) := by decide +kernel
theorem dX11_readSeen_88 : decode cX11_readSeen 88 = .ok (.goto (-64), 3) := by decide +kernel
theorem dX11_readSeen_91 : decode cX11_readSeen 91 = .ok (.aload_n 0, 1) := by decide +kernel
theorem dX11_readSeen_92 : decode cX11_readSeen 92 = .ok (.getfield 147, 3) := by decide +kernel
theorem dX11_readSeen_95 : decode cX11_readSeen 95 = .ok (.getfield 328, 3) := by decide +kernel
theorem dX11_readSeen_98 : decode cX11_readSeen 98 = .ok (.aload_n 0, 1) := by decide +kernel
theorem dX11_readSeen_99 : decode cX11_readSeen 99 = .ok (.getfield 147, 3) := by decide +kernel
theorem dX11_readSeen_102 : decode cX11_readSeen 102 = .ok (.getfield 323, 3) := by decide +kernel
theorem dX11_readSeen_105 : decode cX11_readSeen 105 = .ok (.iload_n 1, 1) := by decide +kernel
theorem dX11_readSeen_106 : decode cX11_readSeen 106 = .ok (.iastore, 1) := by decide +kernel
theorem dX11_readSeen_107 : decode cX11_readSeen 107 = .ok (.aload_n 0, 1) := by decide +kernel
theorem dX11_readSeen_108 : decode cX11_readSeen 108 = .ok (.getfield 147, 3) := by decide +kernel
theorem dX11_readSeen_111 : decode cX11_readSeen 111 = .ok (.dup, 1) := by decide +kernel
theorem dX11_readSeen_112 : decode cX11_readSeen 112 = .ok (.getfield 323, 3) := by decide +kernel
theorem dX11_readSeen_115 : decode cX11_readSeen 115 = .ok (.iconst 1, 1) := by decide +kernel
theorem dX11_readSeen_116 : decode cX11_readSeen 116 = .ok (.iadd, 1) := by decide +kernel
theorem dX11_readSeen_117 : decode cX11_readSeen 117 = .ok (.putfield 323, 3) := by decide +kernel
theorem dX11_readSeen_120 : decode cX11_readSeen 120 = .ok (.return_, 1) := by decide +kernel
theorem dX11_feed_0 : decode cX11_feed 0 = .ok (.aload_n 0, 1) := by decide +kernel
theorem dX11_feed_1 : decode cX11_feed 1 = .ok (.iconst 0, 1) := by decide +kernel
theorem dX11_feed_2 : decode cX11_feed 2 = .ok (.putfield 40, 3) := by decide +kernel
theorem dX11_feed_5 : decode cX11_feed 5 = .ok (.aload_n 0, 1) := by decide +kernel
theorem dX11_feed_6 : decode cX11_feed 6 = .ok (.getfield 331, 3) := by decide +kernel
theorem dX11_feed_9 : decode cX11_feed 9 = .ok (.bipush 20, 2) := by decide +kernel
theorem dX11_feed_11 : decode cX11_feed 11 = .ok (.iadd, 1) := by decide +kernel
theorem dX11_feed_12 : decode cX11_feed 12 = .ok (.sipush 900, 3) := by decide +kernel
theorem dX11_feed_15 : decode cX11_feed 15 = .ok (.if_icmp .le 5, 3) := by decide +kernel
theorem dX11_feed_18 : decode cX11_feed 18 = .ok (.iconst (-1), 1) := by decide +kernel
theorem dX11_feed_19 : decode cX11_feed 19 = .ok (.ireturn, 1) := by decide +kernel
theorem dX11_feed_20 : decode cX11_feed 20 = .ok (.iconst 0, 1) := by decide +kernel
theorem dX11_feed_21 : decode cX11_feed 21 = .ok (.istore 6, 2) := by decide +kernel
theorem dX11_feed_23 : decode cX11_feed 23 = .ok (.iload 6, 2) := by decide +kernel
theorem dX11_feed_25 : decode cX11_feed 25 = .ok (.bipush 20, 2) := by decide +kernel
theorem dX11_feed_27 : decode cX11_feed 27 = .ok (.if_icmp .ge 90, 3) := by decide +kernel
theorem dX11_feed_30 : decode cX11_feed 30 = .ok (.iload 6, 2) := by decide +kernel
theorem dX11_feed_32 : decode cX11_feed 32 = .ok (.iconst 4, 1) := by decide +kernel
theorem dX11_feed_33 : decode cX11_feed 33 = .ok (.if_icmp .ge 7, 3) := by decide +kernel
theorem dX11_feed_36 : decode cX11_feed 36 = .ok (.iload_n 1, 1) := by decide +kernel
theorem dX11_feed_37 : decode cX11_feed 37 = .ok (.goto 39, 3) := by decide +kernel
theorem dX11_feed_40 : decode cX11_feed 40 = .ok (.iload 6, 2) := by decide +kernel
theorem dX11_feed_42 : decode cX11_feed 42 = .ok (.bipush 8, 2) := by decide +kernel
theorem dX11_feed_44 : decode cX11_feed 44 = .ok (.if_icmp .ge 7, 3) := by decide +kernel
theorem dX11_feed_47 : decode cX11_feed 47 = .ok (.iload_n 2, 1) := by decide +kernel
theorem dX11_feed_48 : decode cX11_feed 48 = .ok (.goto 28, 3) := by decide +kernel
theorem dX11_feed_51 : decode cX11_feed 51 = .ok (.iload 6, 2) := by decide +kernel
theorem dX11_feed_53 : decode cX11_feed 53 = .ok (.bipush 12, 2) := by decide +kernel
theorem dX11_feed_55 : decode cX11_feed 55 = .ok (.if_icmp .ge 7, 3) := by decide +kernel
theorem dX11_feed_58 : decode cX11_feed 58 = .ok (.iload_n 3, 1) := by decide +kernel
theorem dX11_feed_59 : decode cX11_feed 59 = .ok (.goto 17, 3) := by decide +kernel
theorem dX11_feed_62 : decode cX11_feed 62 = .ok (.iload 6, 2) := by decide +kernel
theorem dX11_feed_64 : decode cX11_feed 64 = .ok (.bipush 16, 2) := by decide +kernel
theorem dX11_feed_66 : decode cX11_feed 66 = .ok (.if_icmp .ge 8, 3) := by decide +kernel
theorem dX11_feed_69 : decode cX11_feed 69 = .ok (.iload 4, 2) := by decide +kernel
theorem dX11_feed_71 : decode cX11_feed 71 = .ok (.goto 5, 3) := by decide +kernel
theorem dX11_feed_74 : decode cX11_feed 74 = .ok (.iload 5, 2) := by decide +kernel
theorem dX11_feed_76 : decode cX11_feed 76 = .ok (.istore 7, 2) := by decide +kernel
theorem dX11_feed_78 : decode cX11_feed 78 = .ok (.aload_n 0, 1) := by decide +kernel
theorem dX11_feed_79 : decode cX11_feed 79 = .ok (.getfield 13, 3) := by decide +kernel
theorem dX11_feed_82 : decode cX11_feed 82 = .ok (.aload_n 0, 1) := by decide +kernel
theorem dX11_feed_83 : decode cX11_feed 83 = .ok (.getfield 331, 3) := by decide +kernel
theorem dX11_feed_86 : decode cX11_feed 86 = .ok (.iload 7, 2) := by decide +kernel
theorem dX11_feed_88 : decode cX11_feed 88 = .ok (.bipush 24, 2) := by decide +kernel
theorem dX11_feed_90 : decode cX11_feed 90 = .ok (.bipush 8, 2) := by decide +kernel
theorem dX11_feed_92 : decode cX11_feed 92 = .ok (.iload 6, 2) := by decide +kernel
theorem dX11_feed_94 : decode cX11_feed 94 = .ok (.iconst 4, 1) := by decide +kernel
theorem dX11_feed_95 : decode cX11_feed 95 = .ok (.irem, 1) := by decide +kernel
theorem dX11_feed_96 : decode cX11_feed 96 = .ok (.imul, 1) := by decide +kernel
theorem dX11_feed_97 : decode cX11_feed 97 = .ok (.isub, 1) := by decide +kernel
theorem dX11_feed_98 : decode cX11_feed 98 = .ok (.ishr, 1) := by decide +kernel
theorem dX11_feed_99 : decode cX11_feed 99 = .ok (.i2b, 1) := by decide +kernel
theorem dX11_feed_100 : decode cX11_feed 100 = .ok (.bastore, 1) := by decide +kernel
theorem dX11_feed_101 : decode cX11_feed 101 = .ok (.aload_n 0, 1) := by decide +kernel
theorem dX11_feed_102 : decode cX11_feed 102 = .ok (.dup, 1) := by decide +kernel
theorem dX11_feed_103 : decode cX11_feed 103 = .ok (.getfield 331, 3) := by decide +kernel
theorem dX11_feed_106 : decode cX11_feed 106 = .ok (.iconst 1, 1) := by decide +kernel
theorem dX11_feed_107 : decode cX11_feed 107 = .ok (.iadd, 1) := by decide +kernel
theorem dX11_feed_108 : decode cX11_feed 108 = .ok (.putfield 331, 3) := by decide +kernel
theorem dX11_feed_111 : decode cX11_feed 111 = .ok (.iinc 6 1, 3) := by decide +kernel
theorem dX11_feed_114 : decode cX11_feed 114 = .ok (.goto (-91), 3) := by decide +kernel
theorem dX11_feed_117 : decode cX11_feed 117 = .ok (.aload_n 0, 1) := by decide +kernel
theorem dX11_feed_118 : decode cX11_feed 118 = .ok (.getfield 331, 3) := by decide +kernel
theorem dX11_feed_121 : decode cX11_feed 121 = .ok (.ireturn, 1) := by decide +kernel
theorem dX11_world_0 : decode cX11_world 0 = .ok (.aload_n 0, 1) := by decide +kernel
theorem dX11_world_1 : decode cX11_world 1 = .ok (.iconst 0, 1) := by decide +kernel
theorem dX11_world_2 : decode cX11_world 2 = .ok (.putfield 40, 3) := by decide +kernel
theorem dX11_world_5 : decode cX11_world 5 = .ok (.iload_n 1, 1) := by decide +kernel
theorem dX11_world_6 : decode cX11_world 6 = .ok (.ifCond .lt 11, 3) := by decide +kernel
theorem dX11_world_9 : decode cX11_world 9 = .ok (.iload_n 1, 1) := by decide +kernel
theorem dX11_world_10 : decode cX11_world 10 = .ok (.aload_n 0, 1) := by decide +kernel
theorem dX11_world_11 : decode cX11_world 11 = .ok (.getfield 331, 3) := by decide +kernel
theorem dX11_world_14 : decode cX11_world 14 = .ok (.if_icmp .le 9, 3) := by decide +kernel
theorem dX11_world_17 : decode cX11_world 17 = .ok (.aload_n 0, 1) := by decide +kernel
theorem dX11_world_18 : decode cX11_world 18 = .ok (.iconst 2, 1) := by decide +kernel
theorem dX11_world_19 : decode cX11_world 19 = .ok (.invokevirtual 46, 3) := by decide +kernel
theorem dX11_world_22 : decode cX11_world 22 = .ok (.ireturn, 1) := by decide +kernel
theorem dX11_world_23 : decode cX11_world 23 = .ok (.aload_n 0, 1) := by decide +kernel
theorem dX11_world_24 : decode cX11_world 24 = .ok (.iload_n 1, 1) := by decide +kernel
theorem dX11_world_25 : decode cX11_world 25 = .ok (.putfield 53, 3) := by decide +kernel
theorem dX11_world_28 : decode cX11_world 28 = .ok (.aload_n 0, 1) := by decide +kernel
theorem dX11_world_29 : decode cX11_world 29 = .ok (.iconst 0, 1) := by decide +kernel
theorem dX11_world_30 : decode cX11_world 30 = .ok (.putfield 331, 3) := by decide +kernel
theorem dX11_world_33 : decode cX11_world 33 = .ok (.aload_n 0, 1) := by decide +kernel
theorem dX11_world_34 : decode cX11_world 34 = .ok (.iconst 0, 1) := by decide +kernel
theorem dX11_world_35 : decode cX11_world 35 = .ok (.putfield 71, 3) := by decide +kernel
theorem dX11_world_38 : decode cX11_world 38 = .ok (.aload_n 0, 1) := by decide +kernel
theorem dX11_world_39 : decode cX11_world 39 = .ok (.iconst 0, 1) := by decide +kernel
theorem dX11_world_40 : decode cX11_world 40 = .ok (.putfield 97, 3) := by decide +kernel
theorem dX11_world_43 : decode cX11_world 43 = .ok (.aload_n 0, 1) := by decide +kernel
theorem dX11_world_44 : decode cX11_world 44 = .ok (.new 152, 3) := by decide +kernel
theorem dX11_world_47 : decode cX11_world 47 = .ok (.dup, 1) := by decide +kernel
theorem dX11_world_48 : decode cX11_world 48 = .ok (.invokespecial 334, 3) := by decide +kernel
theorem dX11_world_51 : decode cX11_world 51 = .ok (.putfield 147, 3) := by decide +kernel
theorem dX11_world_54 : decode cX11_world 54 = .ok (.aload_n 0, 1) := by decide +kernel
theorem dX11_world_55 : decode cX11_world 55 = .ok (.iconst 0, 1) := by decide +kernel
theorem dX11_world_56 : decode cX11_world 56 = .ok (.putfield 68, 3) := by decide +kernel
theorem dX11_world_59 : decode cX11_world 59 = .ok (.aload_n 0, 1) := by decide +kernel
theorem dX11_world_60 : decode cX11_world 60 = .ok (.invokevirtual 111, 3) := by decide +kernel
theorem dX11_world_63 : decode cX11_world 63 = .ok (.aload_n 0, 1) := by decide +kernel
theorem dX11_world_64 : decode cX11_world 64 = .ok (.invokevirtual 335, 3) := by decide +kernel
theorem dX11_world_67 : decode cX11_world 67 = .ok (.aload_n 0, 1) := by decide +kernel
theorem dX11_world_68 : decode cX11_world 68 = .ok (.getfield 97, 3) := by decide +kernel
theorem dX11_world_71 : decode cX11_world 71 = .ok (.ifCond .le 18, 3) := by decide +kernel
theorem dX11_world_74 : decode cX11_world 74 = .ok (.aload_n 0, 1) := by decide +kernel
theorem dX11_world_75 : decode cX11_world 75 = .ok (.iconst 4, 1) := by decide +kernel
theorem dX11_world_76 : decode cX11_world 76 = .ok (.putfield 43, 3) := by decide +kernel
theorem dX11_world_79 : decode cX11_world 79 = .ok (.aload_n 0, 1) := by decide +kernel
theorem dX11_world_80 : decode cX11_world 80 = .ok (.aload_n 0, 1) := by decide +kernel
theorem dX11_world_81 : decode cX11_world 81 = .ok (.getfield 100, 3) := by decide +kernel
theorem dX11_world_84 : decode cX11_world 84 = .ok (.putfield 9, 3) := by decide +kernel
theorem dX11_world_87 : decode cX11_world 87 = .ok (.iconst (-1), 1) := by decide +kernel
theorem dX11_world_88 : decode cX11_world 88 = .ok (.ireturn, 1) := by decide +kernel
theorem dX11_world_89 : decode cX11_world 89 = .ok (.aload_n 0, 1) := by decide +kernel
theorem dX11_world_90 : decode cX11_world 90 = .ok (.aload_n 0, 1) := by decide +kernel
theorem dX11_world_91 : decode cX11_world 91 = .ok (.getfield 147, 3) := by decide +kernel
theorem dX11_world_94 : decode cX11_world 94 = .ok (.putfield 338, 3) := by decide +kernel
theorem dX11_world_97 : decode cX11_world 97 = .ok (.aload_n 0, 1) := by decide +kernel
theorem dX11_world_98 : decode cX11_world 98 = .ok (.bipush (-2), 2) := by decide +kernel
theorem dX11_world_100 : decode cX11_world 100 = .ok (.putfield 28, 3) := by decide +kernel
theorem dX11_world_103 : decode cX11_world 103 = .ok (.aload_n 0, 1) := by decide +kernel
theorem dX11_world_104 : decode cX11_world 104 = .ok (.iconst 0, 1) := by decide +kernel
theorem dX11_world_105 : decode cX11_world 105 = .ok (.putfield 340, 3) := by decide +kernel
theorem dX11_world_108 : decode cX11_world 108 = .ok (.aload_n 0, 1) := by decide +kernel
theorem dX11_world_109 : decode cX11_world 109 = .ok (.iconst 0, 1) := by decide +kernel
theorem dX11_world_110 : decode cX11_world 110 = .ok (.putfield 343, 3) := by decide +kernel
theorem dX11_world_113 : decode cX11_world 113 = .ok (.aload_n 0, 1) := by decide +kernel
theorem dX11_world_114 : decode cX11_world 114 = .ok (.aload_n 0, 1) := by decide +kernel
theorem dX11_world_115 : decode cX11_world 115 = .ok (.getfield 338, 3) := by decide +kernel
theorem dX11_world_118 : decode cX11_world 118 = .ok (.getfield 193, 3) := by decide +kernel
theorem dX11_world_121 : decode cX11_world 121 = .ok (.invokevirtual 50, 3) := by decide +kernel
theorem dX11_world_124 : decode cX11_world 124 = .ok (.ireturn, 1) := by decide +kernel
theorem dX11_fault_0 : decode cX11_fault 0 = .ok (.aload_n 0, 1) := by decide +kernel
theorem dX11_fault_1 : decode cX11_fault 1 = .ok (.iconst 0, 1) := by decide +kernel
theorem dX11_fault_2 : decode cX11_fault 2 = .ok (.putfield 40, 3) := by decide +kernel
theorem dX11_fault_5 : decode cX11_fault 5 = .ok (.aload_n 0, 1) := by decide +kernel
theorem dX11_fault_6 : decode cX11_fault 6 = .ok (.getfield 97, 3) := by decide +kernel
theorem dX11_fault_9 : decode cX11_fault 9 = .ok (.ireturn, 1) := by decide +kernel
theorem dX11_where_0 : decode cX11_where 0 = .ok (.aload_n 0, 1) := by decide +kernel
theorem dX11_where_1 : decode cX11_where 1 = .ok (.iconst 0, 1) := by decide +kernel
theorem dX11_where_2 : decode cX11_where 2 = .ok (.putfield 40, 3) := by decide +kernel
theorem dX11_where_5 : decode cX11_where 5 = .ok (.aload_n 0, 1) := by decide +kernel
theorem dX11_where_6 : decode cX11_where 6 = .ok (.getfield 9, 3) := by decide +kernel
theorem dX11_where_9 : decode cX11_where 9 = .ok (.ireturn, 1) := by decide +kernel
theorem dX11_isWalker_0 : decode cX11_isWalker 0 = .ok (.aload_n 0, 1) := by decide +kernel
theorem dX11_isWalker_1 : decode cX11_isWalker 1 = .ok (.getfield 338, 3) := by decide +kernel
theorem dX11_isWalker_4 : decode cX11_isWalker 4 = .ok (.ifnull 22, 3) := by decide +kernel
theorem dX11_isWalker_7 : decode cX11_isWalker 7 = .ok (.iload_n 1, 1) := by decide +kernel
theorem dX11_isWalker_8 : decode cX11_isWalker 8 = .ok (.ifCond .lt 18, 3) := by decide +kernel
theorem dX11_isWalker_11 : decode cX11_isWalker 11 = .ok (.iload_n 1, 1) := by decide +kernel
theorem dX11_isWalker_12 : decode cX11_isWalker 12 = .ok (.aload_n 0, 1) := by decide +kernel
theorem dX11_isWalker_13 : decode cX11_isWalker 13 = .ok (.getfield 338, 3) := by decide +kernel
theorem dX11_isWalker_16 : decode cX11_isWalker 16 = .ok (.getfield 193, 3) := by decide +kernel
theorem dX11_isWalker_19 : decode cX11_isWalker 19 = .ok (.if_icmp .ge 7, 3) := by decide +kernel
theorem dX11_isWalker_22 : decode cX11_isWalker 22 = .ok (.iconst 1, 1) := by decide +kernel
theorem dX11_isWalker_23 : decode cX11_isWalker 23 = .ok (.goto 4, 3) := by decide +kernel
theorem dX11_isWalker_26 : decode cX11_isWalker 26 = .ok (.iconst 0, 1) := by decide +kernel
theorem dX11_isWalker_27 : decode cX11_isWalker 27 = .ok (.ireturn, 1) := by decide +kernel
theorem dX11_isRoad_0 : decode cX11_isRoad 0 = .ok (.aload_n 0, 1) := by decide +kernel
theorem dX11_isRoad_1 : decode cX11_isRoad 1 = .ok (.getfield 338, 3) := by decide +kernel
theorem dX11_isRoad_4 : decode cX11_isRoad 4 = .ok (.ifnull 22, 3) := by decide +kernel
theorem dX11_isRoad_7 : decode cX11_isRoad 7 = .ok (.iload_n 1, 1) := by decide +kernel
theorem dX11_isRoad_8 : decode cX11_isRoad 8 = .ok (.ifCond .lt 18, 3) := by decide +kernel
theorem dX11_isRoad_11 : decode cX11_isRoad 11 = .ok (.iload_n 1, 1) := by decide +kernel
theorem dX11_isRoad_12 : decode cX11_isRoad 12 = .ok (.aload_n 0, 1) := by decide +kernel
theorem dX11_isRoad_13 : decode cX11_isRoad 13 = .ok (.getfield 338, 3) := by decide +kernel
theorem dX11_isRoad_16 : decode cX11_isRoad 16 = .ok (.getfield 264, 3) := by decide +kernel
theorem dX11_isRoad_19 : decode cX11_isRoad 19 = .ok (.if_icmp .ge 7, 3) := by decide +kernel
theorem dX11_isRoad_22 : decode cX11_isRoad 22 = .ok (.iconst 1, 1) := by decide +kernel
theorem dX11_isRoad_23 : decode cX11_isRoad 23 = .ok (.goto 4, 3) := by decide +kernel
theorem dX11_isRoad_26 : decode cX11_isRoad 26 = .ok (.iconst 0, 1) := by decide +kernel
theorem dX11_isRoad_27 : decode cX11_isRoad 27 = .ok (.ireturn, 1) := by decide +kernel
theorem dX11_isPlace_0 : decode cX11_isPlace 0 = .ok (.aload_n 0, 1) := by decide +kernel
theorem dX11_isPlace_1 : decode cX11_isPlace 1 = .ok (.getfield 338, 3) := by decide +kernel
theorem dX11_isPlace_4 : decode cX11_isPlace 4 = .ok (.ifnull 22, 3) := by decide +kernel
theorem dX11_isPlace_7 : decode cX11_isPlace 7 = .ok (.iload_n 1, 1) := by decide +kernel
theorem dX11_isPlace_8 : decode cX11_isPlace 8 = .ok (.ifCond .lt 18, 3) := by decide +kernel
theorem dX11_isPlace_11 : decode cX11_isPlace 11 = .ok (.iload_n 1, 1) := by decide +kernel
theorem dX11_isPlace_12 : decode cX11_isPlace 12 = .ok (.aload_n 0, 1) := by decide +kernel
theorem dX11_isPlace_13 : decode cX11_isPlace 13 = .ok (.getfield 338, 3) := by decide +kernel
theorem dX11_isPlace_16 : decode cX11_isPlace 16 = .ok (.getfield 190, 3) := by decide +kernel
theorem dX11_isPlace_19 : decode cX11_isPlace 19 = .ok (.if_icmp .ge 7, 3) := by decide +kernel
theorem dX11_isPlace_22 : decode cX11_isPlace 22 = .ok (.iconst 1, 1) := by decide +kernel
theorem dX11_isPlace_23 : decode cX11_isPlace 23 = .ok (.goto 4, 3) := by decide +kernel
theorem dX11_isPlace_26 : decode cX11_isPlace 26 = .ok (.iconst 0, 1) := by decide +kernel
theorem dX11_isPlace_27 : decode cX11_isPlace 27 = .ok (.ireturn, 1) := by decide +kernel
theorem dX11_isHour_0 : decode cX11_isHour 0 = .ok (.aload_n 0, 1) := by decide +kernel
theorem dX11_isHour_1 : decode cX11_isHour 1 = .ok (.getfield 338, 3) := by decide +kernel
theorem dX11_isHour_4 : decode cX11_isHour 4 = .ok (.ifnull 22, 3) := by decide +kernel
theorem dX11_isHour_7 : decode cX11_isHour 7 = .ok (.iload_n 1, 1) := by decide +kernel
theorem dX11_isHour_8 : decode cX11_isHour 8 = .ok (.ifCond .lt 18, 3) := by decide +kernel
theorem dX11_isHour_11 : decode cX11_isHour 11 = .ok (.iload_n 1, 1) := by decide +kernel
theorem dX11_isHour_12 : decode cX11_isHour 12 = .ok (.aload_n 0, 1) := by decide +kernel
theorem dX11_isHour_13 : decode cX11_isHour 13 = .ok (.getfield 338, 3) := by decide +kernel
theorem dX11_isHour_16 : decode cX11_isHour 16 = .ok (.getfield 219, 3) := by decide +kernel
theorem dX11_isHour_19 : decode cX11_isHour 19 = .ok (.if_icmp .ge 7, 3) := by decide +kernel
theorem dX11_isHour_22 : decode cX11_isHour 22 = .ok (.iconst 1, 1) := by decide +kernel
theorem dX11_isHour_23 : decode cX11_isHour 23 = .ok (.goto 4, 3) := by decide +kernel
theorem dX11_isHour_26 : decode cX11_isHour 26 = .ok (.iconst 0, 1) := by decide +kernel
theorem dX11_isHour_27 : decode cX11_isHour 27 = .ok (.ireturn, 1) := by decide +kernel
theorem dX11_isSpeed_0 : decode cX11_isSpeed 0 = .ok (.iload_n 2, 1) := by decide +kernel
theorem dX11_isSpeed_1 : decode cX11_isSpeed 1 = .ok (.aload_n 0, 1) := by decide +kernel
theorem dX11_isSpeed_2 : decode cX11_isSpeed 2 = .ok (.getfield 338, 3) := by decide +kernel
theorem dX11_isSpeed_5 : decode cX11_isSpeed 5 = .ok (.getfield 317, 3) := by decide +kernel
theorem dX11_isSpeed_8 : decode cX11_isSpeed 8 = .ok (.iload_n 1, 1) := by decide +kernel
theorem dX11_isSpeed_9 : decode cX11_isSpeed 9 = .ok (.iaload, 1) := by decide +kernel
theorem dX11_isSpeed_10 : decode cX11_isSpeed 10 = .ok (.aload_n 0, 1) := by decide +kernel
theorem dX11_isSpeed_11 : decode cX11_isSpeed 11 = .ok (.getfield 338, 3) := by decide +kernel
theorem dX11_isSpeed_14 : decode cX11_isSpeed 14 = .ok (.getfield 320, 3) := by decide +kernel
theorem dX11_isSpeed_17 : decode cX11_isSpeed 17 = .ok (.iload_n 1, 1) := by decide +kernel
theorem dX11_isSpeed_18 : decode cX11_isSpeed 18 = .ok (.iaload, 1) := by decide +kernel
theorem dX11_isSpeed_19 : decode cX11_isSpeed 19 = .ok (.invokestatic 118, 3) := by decide +kernel
theorem dX11_isSpeed_22 : decode cX11_isSpeed 22 = .ok (.ireturn, 1) := by decide +kernel
theorem dX11_refuses_0 : decode cX11_refuses 0 = .ok (.aload_n 0, 1) := by decide +kernel
theorem dX11_refuses_1 : decode cX11_refuses 1 = .ok (.iload_n 1, 1) := by decide +kernel
theorem dX11_refuses_2 : decode cX11_refuses 2 = .ok (.invokevirtual 346, 3) := by decide +kernel
theorem dX11_refuses_5 : decode cX11_refuses 5 = .ok (.ifCond .eq 29, 3) := by decide +kernel
theorem dX11_refuses_8 : decode cX11_refuses 8 = .ok (.aload_n 0, 1) := by decide +kernel
theorem dX11_refuses_9 : decode cX11_refuses 9 = .ok (.iload_n 2, 1) := by decide +kernel
theorem dX11_refuses_10 : decode cX11_refuses 10 = .ok (.invokevirtual 349, 3) := by decide +kernel
theorem dX11_refuses_13 : decode cX11_refuses 13 = .ok (.ifCond .eq 21, 3) := by decide +kernel
theorem dX11_refuses_16 : decode cX11_refuses 16 = .ok (.iload_n 3, 1) := by decide +kernel
theorem dX11_refuses_17 : decode cX11_refuses 17 = .ok (.iconst 0, 1) := by decide +kernel
theorem dX11_refuses_18 : decode cX11_refuses 18 = .ok (.iconst 1, 1) := by decide +kernel
theorem dX11_refuses_19 : decode cX11_refuses 19 = .ok (.invokestatic 118, 3) := by decide +kernel
theorem dX11_refuses_22 : decode cX11_refuses 22 = .ok (.ifCond .eq 12, 3) := by decide +kernel
theorem dX11_refuses_25 : decode cX11_refuses 25 = .ok (.aload_n 0, 1) := by decide +kernel
theorem dX11_refuses_26 : decode cX11_refuses 26 = .ok (.iload 4, 2) := by decide +kernel
theorem dX11_refuses_28 : decode cX11_refuses 28 = .ok (.invokevirtual 352, 3) := by decide +kernel
theorem dX11_refuses_31 : decode cX11_refuses 31 = .ok (.ifCond .ne 5, 3) := by decide +kernel
theorem dX11_refuses_34 : decode cX11_refuses 34 = .ok (.iconst 1, 1) := by decide +kernel
theorem dX11_refuses_35 : decode cX11_refuses 35 = .ok (.ireturn, 1) := by decide +kernel
theorem dX11_refuses_36 : decode cX11_refuses 36 = .ok (.aload_n 0, 1) := by decide +kernel
theorem dX11_refuses_37 : decode cX11_refuses 37 = .ok (.iload_n 1, 1) := by decide +kernel
theorem dX11_refuses_38 : decode cX11_refuses 38 = .ok (.iload 5, 2) := by decide +kernel
theorem dX11_refuses_40 : decode cX11_refuses 40 = .ok (.invokevirtual 355, 3) := by decide +kernel
theorem dX11_refuses_43 : decode cX11_refuses 43 = .ok (.ifCond .eq 7, 3) := by decide +kernel
theorem dX11_refuses_46 : decode cX11_refuses 46 = .ok (.iconst 0, 1) := by decide +kernel
theorem dX11_refuses_47 : decode cX11_refuses 47 = .ok (.goto 4, 3) := by decide +kernel
theorem dX11_refuses_50 : decode cX11_refuses 50 = .ok (.iconst 2, 1) := by decide +kernel
theorem dX11_refuses_51 : decode cX11_refuses 51 = .ok (.ireturn, 1) := by decide +kernel
theorem dX11_isForward_0 : decode cX11_isForward 0 = .ok (.aload_n 0, 1) := by decide +kernel
theorem dX11_isForward_1 : decode cX11_isForward 1 = .ok (.getfield 338, 3) := by decide +kernel
theorem dX11_isForward_4 : decode cX11_isForward 4 = .ok (.iload_n 1, 1) := by decide +kernel
theorem dX11_isForward_5 : decode cX11_isForward 5 = .ok (.invokevirtual 359, 3) := by decide +kernel
theorem dX11_isForward_8 : decode cX11_isForward 8 = .ok (.istore 6, 2) := by decide +kernel
theorem dX11_isForward_10 : decode cX11_isForward 10 = .ok (.iload 5, 2) := by decide +kernel
theorem dX11_isForward_12 : decode cX11_isForward 12 = .ok (.aload_n 0, 1) := by decide +kernel
theorem dX11_isForward_13 : decode cX11_isForward 13 = .ok (.getfield 338, 3) := by decide +kernel
theorem dX11_isForward_16 : decode cX11_isForward 16 = .ok (.iload_n 2, 1) := by decide +kernel
theorem dX11_isForward_17 : decode cX11_isForward 17 = .ok (.iload_n 3, 1) := by decide +kernel
theorem dX11_isForward_18 : decode cX11_isForward 18 = .ok (.iload 4, 2) := by decide +kernel
theorem dX11_isForward_20 : decode cX11_isForward 20 = .ok (.invokevirtual 361, 3) := by decide +kernel
theorem dX11_isForward_23 : decode cX11_isForward 23 = .ok (.isub, 1) := by decide +kernel
theorem dX11_isForward_24 : decode cX11_isForward 24 = .ok (.istore 7, 2) := by decide +kernel
theorem dX11_isForward_26 : decode cX11_isForward 26 = .ok (.iload 6, 2) := by decide +kernel
theorem dX11_isForward_28 : decode cX11_isForward 28 = .ok (.aload_n 0, 1) := by decide +kernel
theorem dX11_isForward_29 : decode cX11_isForward 29 = .ok (.getfield 338, 3) := by decide +kernel
theorem dX11_isForward_32 : decode cX11_isForward 32 = .ok (.getfield 311, 3) := by decide +kernel
theorem dX11_isForward_35 : decode cX11_isForward 35 = .ok (.iload_n 1, 1) := by decide +kernel
theorem dX11_isForward_36 : decode cX11_isForward 36 = .ok (.iaload, 1) := by decide +kernel
theorem dX11_isForward_37 : decode cX11_isForward 37 = .ok (.if_icmp .ge 8, 3) := by decide +kernel
theorem dX11_isForward_40 : decode cX11_isForward 40 = .ok (.iload 6, 2) := by decide +kernel
theorem dX11_isForward_42 : decode cX11_isForward 42 = .ok (.goto 12, 3) := by decide +kernel
theorem dX11_isForward_45 : decode cX11_isForward 45 = .ok (.aload_n 0, 1) := by decide +kernel
theorem dX11_isForward_46 : decode cX11_isForward 46 = .ok (.getfield 338, 3) := by decide +kernel
theorem dX11_isForward_49 : decode cX11_isForward 49 = .ok (.getfield 311, 3) := by decide +kernel
theorem dX11_isForward_52 : decode cX11_isForward 52 = .ok (.iload_n 1, 1) := by decide +kernel
theorem dX11_isForward_53 : decode cX11_isForward 53 = .ok (.iaload, 1) := by decide +kernel
theorem dX11_isForward_54 : decode cX11_isForward 54 = .ok (.istore 8, 2) := by decide +kernel
theorem dX11_isForward_56 : decode cX11_isForward 56 = .ok (.iload 6, 2) := by decide +kernel
theorem dX11_isForward_58 : decode cX11_isForward 58 = .ok (.aload_n 0, 1) := by decide +kernel
theorem dX11_isForward_59 : decode cX11_isForward 59 = .ok (.getfield 338, 3) := by decide +kernel
theorem dX11_isForward_62 : decode cX11_isForward 62 = .ok (.getfield 308, 3) := by decide +kernel
theorem dX11_isForward_65 : decode cX11_isForward 65 = .ok (.iload_n 1, 1) := by decide +kernel
theorem dX11_isForward_66 : decode cX11_isForward 66 = .ok (.iaload, 1) := by decide +kernel
theorem dX11_isForward_67 : decode cX11_isForward 67 = .ok (.if_icmp .ge 8, 3) := by decide +kernel
theorem dX11_isForward_70 : decode cX11_isForward 70 = .ok (.iload 6, 2) := by decide +kernel
theorem dX11_isForward_72 : decode cX11_isForward 72 = .ok (.goto 12, 3) := by decide +kernel
theorem dX11_isForward_75 : decode cX11_isForward 75 = .ok (.aload_n 0, 1) := by decide +kernel
theorem dX11_isForward_76 : decode cX11_isForward 76 = .ok (.getfield 338, 3) := by decide +kernel
theorem dX11_isForward_79 : decode cX11_isForward 79 = .ok (.getfield 308, 3) := by decide +kernel
theorem dX11_isForward_82 : decode cX11_isForward 82 = .ok (.iload_n 1, 1) := by decide +kernel
theorem dX11_isForward_83 : decode cX11_isForward 83 = .ok (.iaload, 1) := by decide +kernel
theorem dX11_isForward_84 : decode cX11_isForward 84 = .ok (.istore 9, 2) := by decide +kernel
theorem dX11_isForward_86 : decode cX11_isForward 86 = .ok (.aload_n 0, 1) := by decide +kernel
theorem dX11_isForward_87 : decode cX11_isForward 87 = .ok (.getfield 338, 3) := by decide +kernel
theorem dX11_isForward_90 : decode cX11_isForward 90 = .ok (.getfield 282, 3) := by decide +kernel
theorem dX11_isForward_93 : decode cX11_isForward 93 = .ok (.iload_n 2, 1) := by decide +kernel
theorem dX11_isForward_94 : decode cX11_isForward 94 = .ok (.iaload, 1) := by decide +kernel
theorem dX11_isForward_95 : decode cX11_isForward 95 = .ok (.aload_n 0, 1) := by decide +kernel
theorem dX11_isForward_96 : decode cX11_isForward 96 = .ok (.getfield 338, 3) := by decide +kernel
theorem dX11_isForward_99 : decode cX11_isForward 99 = .ok (.getfield 279, 3) := by decide +kernel
theorem dX11_isForward_102 : decode cX11_isForward 102 = .ok (.iload_n 2, 1) := by decide +kernel
theorem dX11_isForward_103 : decode cX11_isForward 103 = .ok (.iaload, 1) := by decide +kernel
theorem dX11_isForward_104 : decode cX11_isForward 104 = .ok (.if_icmp .ge 7, 3) := by decide +kernel
theorem dX11_isForward_107 : decode cX11_isForward 107 = .ok (.iconst 1, 1) := by decide +kernel
theorem dX11_isForward_108 : decode cX11_isForward 108 = .ok (.goto 4, 3) := by decide +kernel
theorem dX11_isForward_111 : decode cX11_isForward 111 = .ok (.iconst 0, 1) := by decide +kernel
theorem dX11_isForward_112 : decode cX11_isForward 112 = .ok (.istore 10, 2) := by decide +kernel
theorem dX11_isForward_114 : decode cX11_isForward 114 = .ok (.iload 10, 2) := by decide +kernel
theorem dX11_isForward_116 : decode cX11_isForward 116 = .ok (.ifCond .eq 55, 3) := by decide +kernel
theorem dX11_isForward_119 : decode cX11_isForward 119 = .ok (.iload 7, 2) := by decide +kernel
theorem dX11_isForward_121 : decode cX11_isForward 121 = .ok (.ifCond .le 50, 3) := by decide +kernel
theorem dX11_isForward_124 : decode cX11_isForward 124 = .ok (.aload_n 0, 1) := by decide +kernel
theorem dX11_isForward_125 : decode cX11_isForward 125 = .ok (.getfield 338, 3) := by decide +kernel
theorem dX11_isForward_128 : decode cX11_isForward 128 = .ok (.getfield 237, 3) := by decide +kernel
theorem dX11_isForward_131 : decode cX11_isForward 131 = .ok (.iload 4, 2) := by decide +kernel
theorem dX11_isForward_133 : decode cX11_isForward 133 = .ok (.iaload, 1) := by decide +kernel
theorem dX11_isForward_134 : decode cX11_isForward 134 = .ok (.iload 7, 2) := by decide +kernel
theorem dX11_isForward_136 : decode cX11_isForward 136 = .ok (.imul, 1) := by decide +kernel
theorem dX11_isForward_137 : decode cX11_isForward 137 = .ok (.iload 8, 2) := by decide +kernel
theorem dX11_isForward_139 : decode cX11_isForward 139 = .ok (.imul, 1) := by decide +kernel
theorem dX11_isForward_140 : decode cX11_isForward 140 = .ok (.aload_n 0, 1) := by decide +kernel
theorem dX11_isForward_141 : decode cX11_isForward 141 = .ok (.getfield 338, 3) := by decide +kernel
theorem dX11_isForward_144 : decode cX11_isForward 144 = .ok (.getfield 237, 3) := by decide +kernel
theorem dX11_isForward_147 : decode cX11_isForward 147 = .ok (.iload 4, 2) := by decide +kernel
theorem dX11_isForward_149 : decode cX11_isForward 149 = .ok (.iaload, 1) := by decide +kernel
theorem dX11_isForward_150 : decode cX11_isForward 150 = .ok (.aload_n 0, 1) := by decide +kernel
theorem dX11_isForward_151 : decode cX11_isForward 151 = .ok (.getfield 338, 3) := by decide +kernel
theorem dX11_isForward_154 : decode cX11_isForward 154 = .ok (.getfield 239, 3) := by decide +kernel
theorem dX11_isForward_157 : decode cX11_isForward 157 = .ok (.iload 4, 2) := by decide +kernel
theorem dX11_isForward_159 : decode cX11_isForward 159 = .ok (.iaload, 1) := by decide +kernel
theorem dX11_isForward_160 : decode cX11_isForward 160 = .ok (.imul, 1) := by decide +kernel
theorem dX11_isForward_161 : decode cX11_isForward 161 = .ok (.iload 9, 2) := by decide +kernel
theorem dX11_isForward_163 : decode cX11_isForward 163 = .ok (.imul, 1) := by decide +kernel
theorem dX11_isForward_164 : decode cX11_isForward 164 = .ok (.if_icmp .le 7, 3) := by decide +kernel
theorem dX11_isForward_167 : decode cX11_isForward 167 = .ok (.iconst 1, 1) := by decide +kernel
theorem dX11_isForward_168 : decode cX11_isForward 168 = .ok (.goto 4, 3) := by decide +kernel
theorem dX11_isForward_171 : decode cX11_isForward 171 = .ok (.iconst 0, 1) := by decide +kernel
theorem dX11_isForward_172 : decode cX11_isForward 172 = .ok (.ireturn, 1) := by decide +kernel
theorem dX11_less_0 : decode cX11_less 0 = .ok (.iload_n 0, 1) := by decide +kernel
theorem dX11_less_1 : decode cX11_less 1 = .ok (.iload_n 1, 1) := by decide +kernel
theorem dX11_less_2 : decode cX11_less 2 = .ok (.if_icmp .le 9, 3) := by decide +kernel
theorem dX11_less_5 : decode cX11_less 5 = .ok (.iload_n 0, 1) := by decide +kernel
theorem dX11_less_6 : decode cX11_less 6 = .ok (.iload_n 1, 1) := by decide +kernel
theorem dX11_less_7 : decode cX11_less 7 = .ok (.isub, 1) := by decide +kernel
theorem dX11_less_8 : decode cX11_less 8 = .ok (.goto 4, 3) := by decide +kernel
theorem dX11_less_11 : decode cX11_less 11 = .ok (.iconst 0, 1) := by decide +kernel
theorem dX11_less_12 : decode cX11_less 12 = .ok (.ireturn, 1) := by decide +kernel
theorem dX11_inTime_0 : decode cX11_inTime 0 = .ok (.aload_n 0, 1) := by decide +kernel
theorem dX11_inTime_1 : decode cX11_inTime 1 = .ok (.getfield 338, 3) := by decide +kernel
theorem dX11_inTime_4 : decode cX11_inTime 4 = .ok (.getfield 237, 3) := by decide +kernel
theorem dX11_inTime_7 : decode cX11_inTime 7 = .ok (.iload 4, 2) := by decide +kernel
theorem dX11_inTime_9 : decode cX11_inTime 9 = .ok (.iaload, 1) := by decide +kernel
theorem dX11_inTime_10 : decode cX11_inTime 10 = .ok (.istore 9, 2) := by decide +kernel
theorem dX11_inTime_12 : decode cX11_inTime 12 = .ok (.iload 5, 2) := by decide +kernel
theorem dX11_inTime_14 : decode cX11_inTime 14 = .ok (.aload_n 0, 1) := by decide +kernel
theorem dX11_inTime_15 : decode cX11_inTime 15 = .ok (.getfield 338, 3) := by decide +kernel
theorem dX11_inTime_18 : decode cX11_inTime 18 = .ok (.iload_n 2, 1) := by decide +kernel
theorem dX11_inTime_19 : decode cX11_inTime 19 = .ok (.iload_n 3, 1) := by decide +kernel
theorem dX11_inTime_20 : decode cX11_inTime 20 = .ok (.iload 4, 2) := by decide +kernel
theorem dX11_inTime_22 : decode cX11_inTime 22 = .ok (.invokevirtual 361, 3) := by decide +kernel
theorem dX11_inTime_25 : decode cX11_inTime 25 = .ok (.isub, 1) := by decide +kernel
theorem dX11_inTime_26 : decode cX11_inTime 26 = .ok (.istore 10, 2) := by decide +kernel
theorem dX11_inTime_28 : decode cX11_inTime 28 = .ok (.aload_n 0, 1) := by decide +kernel
theorem dX11_inTime_29 : decode cX11_inTime 29 = .ok (.getfield 338, 3) := by decide +kernel
theorem dX11_inTime_32 : decode cX11_inTime 32 = .ok (.iload_n 2, 1) := by decide +kernel
theorem dX11_inTime_33 : decode cX11_inTime 33 = .ok (.iload_n 3, 1) := by decide +kernel
theorem dX11_inTime_34 : decode cX11_inTime 34 = .ok (.iload 4, 2) := by decide +kernel
theorem dX11_inTime_36 : decode cX11_inTime 36 = .ok (.invokevirtual 365, 3) := by decide +kernel
theorem dX11_inTime_39 : decode cX11_inTime 39 = .ok (.istore 11, 2) := by decide +kernel
theorem dX11_inTime_41 : decode cX11_inTime 41 = .ok (.aload_n 0, 1) := by decide +kernel
theorem dX11_inTime_42 : decode cX11_inTime 42 = .ok (.iload_n 1, 1) := by decide +kernel
theorem dX11_inTime_43 : decode cX11_inTime 43 = .ok (.iload_n 2, 1) := by decide +kernel
theorem dX11_inTime_44 : decode cX11_inTime 44 = .ok (.iload_n 3, 1) := by decide +kernel
theorem dX11_inTime_45 : decode cX11_inTime 45 = .ok (.iload 4, 2) := by decide +kernel
theorem dX11_inTime_47 : decode cX11_inTime 47 = .ok (.iload 5, 2) := by decide +kernel
theorem dX11_inTime_49 : decode cX11_inTime 49 = .ok (.invokevirtual 368, 3) := by decide +kernel
theorem dX11_inTime_52 : decode cX11_inTime 52 = .ok (.istore 12, 2) := by decide +kernel
theorem dX11_inTime_54 : decode cX11_inTime 54 = .ok (.aload_n 0, 1) := by decide +kernel
theorem dX11_inTime_55 : decode cX11_inTime 55 = .ok (.getfield 338, 3) := by decide +kernel
theorem dX11_inTime_58 : decode cX11_inTime 58 = .ok (.iload_n 1, 1) := by decide +kernel
theorem dX11_inTime_59 : decode cX11_inTime 59 = .ok (.invokevirtual 359, 3) := by decide +kernel
theorem dX11_inTime_62 : decode cX11_inTime 62 = .ok (.istore 13, 2) := by decide +kernel
theorem dX11_inTime_64 : decode cX11_inTime 64 = .ok (.iload 6, 2) := by decide +kernel
theorem dX11_inTime_66 : decode cX11_inTime 66 = .ok (.tableswitch 168 0 3 #[30, 68, 112, 143], 30) := by decide +kernel
theorem dX11_inTime_96 : decode cX11_inTime 96 = .ok (.iload 9, 2) := by decide +kernel
theorem dX11_inTime_98 : decode cX11_inTime 98 = .ok (.aload_n 0, 1) := by decide +kernel
theorem dX11_inTime_99 : decode cX11_inTime 99 = .ok (.getfield 338, 3) := by decide +kernel
theorem dX11_inTime_102 : decode cX11_inTime 102 = .ok (.getfield 239, 3) := by decide +kernel
theorem dX11_inTime_105 : decode cX11_inTime 105 = .ok (.iload 4, 2) := by decide +kernel
theorem dX11_inTime_107 : decode cX11_inTime 107 = .ok (.iaload, 1) := by decide +kernel
theorem dX11_inTime_108 : decode cX11_inTime 108 = .ok (.imul, 1) := by decide +kernel
theorem dX11_inTime_109 : decode cX11_inTime 109 = .ok (.aload_n 0, 1) := by decide +kernel
theorem dX11_inTime_110 : decode cX11_inTime 110 = .ok (.getfield 338, 3) := by decide +kernel
theorem dX11_inTime_113 : decode cX11_inTime 113 = .ok (.getfield 308, 3) := by decide +kernel
theorem dX11_inTime_116 : decode cX11_inTime 116 = .ok (.iload_n 1, 1) := by decide +kernel
theorem dX11_inTime_117 : decode cX11_inTime 117 = .ok (.iaload, 1) := by decide +kernel
theorem dX11_inTime_118 : decode cX11_inTime 118 = .ok (.iload 12, 2) := by decide +kernel
theorem dX11_inTime_120 : decode cX11_inTime 120 = .ok (.ifCond .eq 7, 3) := by decide +kernel
theorem dX11_inTime_123 : decode cX11_inTime 123 = .ok (.iconst 0, 1) := by decide +kernel
theorem dX11_inTime_124 : decode cX11_inTime 124 = .ok (.goto 5, 3) := by decide +kernel
theorem dX11_inTime_127 : decode cX11_inTime 127 = .ok (.iload 13, 2) := by decide +kernel
theorem dX11_inTime_129 : decode cX11_inTime 129 = .ok (.invokestatic 372, 3) := by decide +kernel
theorem dX11_inTime_132 : decode cX11_inTime 132 = .ok (.imul, 1) := by decide +kernel
theorem dX11_inTime_133 : decode cX11_inTime 133 = .ok (.ireturn, 1) := by decide +kernel
theorem dX11_inTime_134 : decode cX11_inTime 134 = .ok (.iload 10, 2) := by decide +kernel
theorem dX11_inTime_136 : decode cX11_inTime 136 = .ok (.ifCond .le 40, 3) := by decide +kernel
theorem dX11_inTime_139 : decode cX11_inTime 139 = .ok (.iload 9, 2) := by decide +kernel
theorem dX11_inTime_141 : decode cX11_inTime 141 = .ok (.iload 10, 2) := by decide +kernel
theorem dX11_inTime_143 : decode cX11_inTime 143 = .ok (.imul, 1) := by decide +kernel
theorem dX11_inTime_144 : decode cX11_inTime 144 = .ok (.aload_n 0, 1) := by decide +kernel
theorem dX11_inTime_145 : decode cX11_inTime 145 = .ok (.getfield 338, 3) := by decide +kernel
theorem dX11_inTime_148 : decode cX11_inTime 148 = .ok (.getfield 311, 3) := by decide +kernel
theorem dX11_inTime_151 : decode cX11_inTime 151 = .ok (.iload_n 1, 1) := by decide +kernel
theorem dX11_inTime_152 : decode cX11_inTime 152 = .ok (.iaload, 1) := by decide +kernel
theorem dX11_inTime_153 : decode cX11_inTime 153 = .ok (.iload 12, 2) := by decide +kernel
theorem dX11_inTime_155 : decode cX11_inTime 155 = .ok (.ifCond .eq 8, 3) := by decide +kernel
theorem dX11_inTime_158 : decode cX11_inTime 158 = .ok (.iload 13, 2) := by decide +kernel
theorem dX11_inTime_160 : decode cX11_inTime 160 = .ok (.goto 4, 3) := by decide +kernel
theorem dX11_inTime_163 : decode cX11_inTime 163 = .ok (.iconst 0, 1) := by decide +kernel
theorem dX11_inTime_164 : decode cX11_inTime 164 = .ok (.invokestatic 372, 3) := by decide +kernel
theorem dX11_inTime_167 : decode cX11_inTime 167 = .ok (.iload 7, 2) := by decide +kernel
theorem dX11_inTime_169 : decode cX11_inTime 169 = .ok (.invokestatic 372, 3) := by decide +kernel
theorem dX11_inTime_172 : decode cX11_inTime 172 = .ok (.imul, 1) := by decide +kernel
theorem dX11_inTime_173 : decode cX11_inTime 173 = .ok (.goto 4, 3) := by decide +kernel
theorem dX11_inTime_176 : decode cX11_inTime 176 = .ok (.iconst 0, 1) := by decide +kernel
theorem dX11_inTime_177 : decode cX11_inTime 177 = .ok (.ireturn, 1) := by decide +kernel
theorem dX11_inTime_178 : decode cX11_inTime 178 = .ok (.iload 10, 2) := by decide +kernel
theorem dX11_inTime_180 : decode cX11_inTime 180 = .ok (.ifCond .ge 27, 3) := by decide +kernel
theorem dX11_inTime_183 : decode cX11_inTime 183 = .ok (.iload 9, 2) := by decide +kernel
theorem dX11_inTime_185 : decode cX11_inTime 185 = .ok (.iload 10, 2) := by decide +kernel
theorem dX11_inTime_187 : decode cX11_inTime 187 = .ok (.ineg, 1) := by decide +kernel
theorem dX11_inTime_188 : decode cX11_inTime 188 = .ok (.imul, 1) := by decide +kernel
theorem dX11_inTime_189 : decode cX11_inTime 189 = .ok (.aload_n 0, 1) := by decide +kernel
theorem dX11_inTime_190 : decode cX11_inTime 190 = .ok (.getfield 338, 3) := by decide +kernel
theorem dX11_inTime_193 : decode cX11_inTime 193 = .ok (.getfield 311, 3) := by decide +kernel
theorem dX11_inTime_196 : decode cX11_inTime 196 = .ok (.iload_n 1, 1) := by decide +kernel
theorem dX11_inTime_197 : decode cX11_inTime 197 = .ok (.iaload, 1) := by decide +kernel
theorem dX11_inTime_198 : decode cX11_inTime 198 = .ok (.iload 8, 2) := by decide +kernel
theorem dX11_inTime_200 : decode cX11_inTime 200 = .ok (.invokestatic 372, 3) := by decide +kernel
theorem dX11_inTime_203 : decode cX11_inTime 203 = .ok (.imul, 1) := by decide +kernel
theorem dX11_inTime_204 : decode cX11_inTime 204 = .ok (.goto 4, 3) := by decide +kernel
theorem dX11_inTime_207 : decode cX11_inTime 207 = .ok (.iconst 0, 1) := by decide +kernel
theorem dX11_inTime_208 : decode cX11_inTime 208 = .ok (.ireturn, 1) := by decide +kernel
theorem dX11_inTime_209 : decode cX11_inTime 209 = .ok (.iload 11, 2) := by decide +kernel
theorem dX11_inTime_211 : decode cX11_inTime 211 = .ok (.ifCond .le 21, 3) := by decide +kernel
theorem dX11_inTime_214 : decode cX11_inTime 214 = .ok (.iload 9, 2) := by decide +kernel
theorem dX11_inTime_216 : decode cX11_inTime 216 = .ok (.iload 11, 2) := by decide +kernel
theorem dX11_inTime_218 : decode cX11_inTime 218 = .ok (.imul, 1) := by decide +kernel
theorem dX11_inTime_219 : decode cX11_inTime 219 = .ok (.aload_n 0, 1) := by decide +kernel
theorem dX11_inTime_220 : decode cX11_inTime 220 = .ok (.getfield 338, 3) := by decide +kernel
theorem dX11_inTime_223 : decode cX11_inTime 223 = .ok (.getfield 314, 3) := by decide +kernel
theorem dX11_inTime_226 : decode cX11_inTime 226 = .ok (.iload_n 1, 1) := by decide +kernel
theorem dX11_inTime_227 : decode cX11_inTime 227 = .ok (.iaload, 1) := by decide +kernel
theorem dX11_inTime_228 : decode cX11_inTime 228 = .ok (.imul, 1) := by decide +kernel
theorem dX11_inTime_229 : decode cX11_inTime 229 = .ok (.goto 4, 3) := by decide +kernel
theorem dX11_inTime_232 : decode cX11_inTime 232 = .ok (.iconst 0, 1) := by decide +kernel
theorem dX11_inTime_233 : decode cX11_inTime 233 = .ok (.ireturn, 1) := by decide +kernel
theorem dX11_inTime_234 : decode cX11_inTime 234 = .ok (.iload 11, 2) := by decide +kernel
theorem dX11_inTime_236 : decode cX11_inTime 236 = .ok (.ifCond .ge 22, 3) := by decide +kernel
theorem dX11_inTime_239 : decode cX11_inTime 239 = .ok (.iload 9, 2) := by decide +kernel
theorem dX11_inTime_241 : decode cX11_inTime 241 = .ok (.iload 11, 2) := by decide +kernel
theorem dX11_inTime_243 : decode cX11_inTime 243 = .ok (.ineg, 1) := by decide +kernel
theorem dX11_inTime_244 : decode cX11_inTime 244 = .ok (.imul, 1) := by decide +kernel
theorem dX11_inTime_245 : decode cX11_inTime 245 = .ok (.aload_n 0, 1) := by decide +kernel
theorem dX11_inTime_246 : decode cX11_inTime 246 = .ok (.getfield 338, 3) := by decide +kernel
theorem dX11_inTime_249 : decode cX11_inTime 249 = .ok (.getfield 314, 3) := by decide +kernel
theorem dX11_inTime_252 : decode cX11_inTime 252 = .ok (.iload_n 1, 1) := by decide +kernel
theorem dX11_inTime_253 : decode cX11_inTime 253 = .ok (.iaload, 1) := by decide +kernel
theorem dX11_inTime_254 : decode cX11_inTime 254 = .ok (.imul, 1) := by decide +kernel
theorem dX11_inTime_255 : decode cX11_inTime 255 = .ok (.goto 4, 3) := by decide +kernel
theorem dX11_inTime_258 : decode cX11_inTime 258 = .ok (.iconst 0, 1) := by decide +kernel
theorem dX11_inTime_259 : decode cX11_inTime 259 = .ok (.ireturn, 1) := by decide +kernel
theorem dX11_partsOf_0 : decode cX11_partsOf 0 = .ok (.aload_n 0, 1) := by decide +kernel
theorem dX11_partsOf_1 : decode cX11_partsOf 1 = .ok (.iload_n 1, 1) := by decide +kernel
theorem dX11_partsOf_2 : decode cX11_partsOf 2 = .ok (.iload_n 2, 1) := by decide +kernel
theorem dX11_partsOf_3 : decode cX11_partsOf 3 = .ok (.iload_n 3, 1) := by decide +kernel
theorem dX11_partsOf_4 : decode cX11_partsOf 4 = .ok (.iload 4, 2) := by decide +kernel
theorem dX11_partsOf_6 : decode cX11_partsOf 6 = .ok (.iload 5, 2) := by decide +kernel
theorem dX11_partsOf_8 : decode cX11_partsOf 8 = .ok (.iload 6, 2) := by decide +kernel
theorem dX11_partsOf_10 : decode cX11_partsOf 10 = .ok (.iconst 0, 1) := by decide +kernel
theorem dX11_partsOf_11 : decode cX11_partsOf 11 = .ok (.iconst 0, 1) := by decide +kernel
theorem dX11_partsOf_12 : decode cX11_partsOf 12 = .ok (.invokevirtual 375, 3) := by decide +kernel
theorem dX11_partsOf_15 : decode cX11_partsOf 15 = .ok (.i2l, 1) := by decide +kernel
theorem dX11_partsOf_16 : decode cX11_partsOf 16 = .ok (.aload_n 0, 1) := by decide +kernel
theorem dX11_partsOf_17 : decode cX11_partsOf 17 = .ok (.getfield 338, 3) := by decide +kernel
theorem dX11_partsOf_20 : decode cX11_partsOf 20 = .ok (.getfield 279, 3) := by decide +kernel
theorem dX11_partsOf_23 : decode cX11_partsOf 23 = .ok (.iload_n 2, 1) := by decide +kernel
theorem dX11_partsOf_24 : decode cX11_partsOf 24 = .ok (.iaload, 1) := by decide +kernel
theorem dX11_partsOf_25 : decode cX11_partsOf 25 = .ok (.aload_n 0, 1) := by decide +kernel
theorem dX11_partsOf_26 : decode cX11_partsOf 26 = .ok (.getfield 338, 3) := by decide +kernel
theorem dX11_partsOf_29 : decode cX11_partsOf 29 = .ok (.getfield 282, 3) := by decide +kernel
theorem dX11_partsOf_32 : decode cX11_partsOf 32 = .ok (.iload_n 2, 1) := by decide +kernel
theorem dX11_partsOf_33 : decode cX11_partsOf 33 = .ok (.iaload, 1) := by decide +kernel
theorem dX11_partsOf_34 : decode cX11_partsOf 34 = .ok (.isub, 1) := by decide +kernel
theorem dX11_partsOf_35 : decode cX11_partsOf 35 = .ok (.i2l, 1) := by decide +kernel
theorem dX11_partsOf_36 : decode cX11_partsOf 36 = .ok (.lmul, 1) := by decide +kernel
theorem dX11_partsOf_37 : decode cX11_partsOf 37 = .ok (.sipush 2520, 3) := by decide +kernel
theorem dX11_partsOf_40 : decode cX11_partsOf 40 = .ok (.iload 5, 2) := by decide +kernel
theorem dX11_partsOf_42 : decode cX11_partsOf 42 = .ok (.idiv, 1) := by decide +kernel
theorem dX11_partsOf_43 : decode cX11_partsOf 43 = .ok (.i2l, 1) := by decide +kernel
theorem dX11_partsOf_44 : decode cX11_partsOf 44 = .ok (.lmul, 1) := by decide +kernel
theorem dX11_partsOf_45 : decode cX11_partsOf 45 = .ok (.lreturn, 1) := by decide +kernel
theorem dX11_wetOf_0 : decode cX11_wetOf 0 = .ok (.lconst 0, 1) := by decide +kernel
theorem dX11_wetOf_1 : decode cX11_wetOf 1 = .ok (.lstore 6, 2) := by decide +kernel
theorem dX11_wetOf_3 : decode cX11_wetOf 3 = .ok (.iconst 0, 1) := by decide +kernel
theorem dX11_wetOf_4 : decode cX11_wetOf 4 = .ok (.istore 8, 2) := by decide +kernel
theorem dX11_wetOf_6 : decode cX11_wetOf 6 = .ok (.iload 8, 2) := by decide +kernel
theorem dX11_wetOf_8 : decode cX11_wetOf 8 = .ok (.iconst 5, 1) := by decide +kernel
theorem dX11_wetOf_9 : decode cX11_wetOf 9 = .ok (.if_icmp .ge 27, 3) := by decide +kernel
theorem dX11_wetOf_12 : decode cX11_wetOf 12 = .ok (.lload 6, 2) := by decide +kernel
theorem dX11_wetOf_14 : decode cX11_wetOf 14 = .ok (.aload_n 0, 1) := by decide +kernel
theorem dX11_wetOf_15 : decode cX11_wetOf 15 = .ok (.iload_n 1, 1) := by decide +kernel
theorem dX11_wetOf_16 : decode cX11_wetOf 16 = .ok (.iload_n 2, 1) := by decide +kernel
theorem dX11_wetOf_17 : decode cX11_wetOf 17 = .ok (.iload_n 3, 1) := by decide +kernel
theorem dX11_wetOf_18 : decode cX11_wetOf 18 = .ok (.iload 4, 2) := by decide +kernel
theorem dX11_wetOf_20 : decode cX11_wetOf 20 = .ok (.iload 5, 2) := by decide +kernel
theorem dX11_wetOf_22 : decode cX11_wetOf 22 = .ok (.iload 8, 2) := by decide +kernel
theorem dX11_wetOf_24 : decode cX11_wetOf 24 = .ok (.invokevirtual 379, 3) := by decide +kernel
theorem dX11_wetOf_27 : decode cX11_wetOf 27 = .ok (.ladd, 1) := by decide +kernel
theorem dX11_wetOf_28 : decode cX11_wetOf 28 = .ok (.lstore 6, 2) := by decide +kernel
theorem dX11_wetOf_30 : decode cX11_wetOf 30 = .ok (.iinc 8 1, 3) := by decide +kernel
theorem dX11_wetOf_33 : decode cX11_wetOf 33 = .ok (.goto (-27), 3) := by decide +kernel
theorem dX11_wetOf_36 : decode cX11_wetOf 36 = .ok (.lload 6, 2) := by decide +kernel
theorem dX11_wetOf_38 : decode cX11_wetOf 38 = .ok (.lreturn, 1) := by decide +kernel
theorem dX11_face_0 : decode cX11_face 0 = .ok (.aload_n 0, 1) := by decide +kernel
theorem dX11_face_1 : decode cX11_face 1 = .ok (.iconst 0, 1) := by decide +kernel
theorem dX11_face_2 : decode cX11_face 2 = .ok (.putfield 40, 3) := by decide +kernel
theorem dX11_face_5 : decode cX11_face 5 = .ok (.iload 6, 2) := by decide +kernel
theorem dX11_face_7 : decode cX11_face 7 = .ok (.iconst 0, 1) := by decide +kernel
theorem dX11_face_8 : decode cX11_face 8 = .ok (.iconst 4, 1) := by decide +kernel
theorem dX11_face_9 : decode cX11_face 9 = .ok (.invokestatic 118, 3) := by decide +kernel
theorem dX11_face_12 : decode cX11_face 12 = .ok (.ifCond .eq 17, 3) := by decide +kernel
theorem dX11_face_15 : decode cX11_face 15 = .ok (.aload_n 0, 1) := by decide +kernel
theorem dX11_face_16 : decode cX11_face 16 = .ok (.iload_n 1, 1) := by decide +kernel
theorem dX11_face_17 : decode cX11_face 17 = .ok (.iload_n 2, 1) := by decide +kernel
theorem dX11_face_18 : decode cX11_face 18 = .ok (.iload_n 3, 1) := by decide +kernel
theorem dX11_face_19 : decode cX11_face 19 = .ok (.iload 4, 2) := by decide +kernel
theorem dX11_face_21 : decode cX11_face 21 = .ok (.iload 5, 2) := by decide +kernel
theorem dX11_face_23 : decode cX11_face 23 = .ok (.invokevirtual 383, 3) := by decide +kernel
theorem dX11_face_26 : decode cX11_face 26 = .ok (.goto 4, 3) := by decide +kernel
theorem dX11_face_29 : decode cX11_face 29 = .ok (.iconst 1, 1) := by decide +kernel
theorem dX11_face_30 : decode cX11_face 30 = .ok (.istore 8, 2) := by decide +kernel
theorem dX11_face_32 : decode cX11_face 32 = .ok (.iload 8, 2) := by decide +kernel
theorem dX11_face_34 : decode cX11_face 34 = .ok (.ifCond .le 13, 3) := by decide +kernel
theorem dX11_face_37 : decode cX11_face 37 = .ok (.aload_n 0, 1) := by decide +kernel
theorem dX11_face_38 : decode cX11_face 38 = .ok (.iload 8, 2) := by decide +kernel
theorem dX11_face_40 : decode cX11_face 40 = .ok (.invokevirtual 46, 3) := by decide +kernel
theorem dX11_face_43 : decode cX11_face 43 = .ok (.i2l, 1) := by decide +kernel
theorem dX11_face_44 : decode cX11_face 44 = .ok (.goto 25, 3) := by decide +kernel
theorem dX11_face_47 : decode cX11_face 47 = .ok (.aload_n 0, 1) := by decide +kernel
theorem dX11_face_48 : decode cX11_face 48 = .ok (.aload_n 0, 1) := by decide +kernel
theorem dX11_face_49 : decode cX11_face 49 = .ok (.iload_n 1, 1) := by decide +kernel
theorem dX11_face_50 : decode cX11_face 50 = .ok (.iload_n 2, 1) := by decide +kernel
theorem dX11_face_51 : decode cX11_face 51 = .ok (.iload_n 3, 1) := by decide +kernel
theorem dX11_face_52 : decode cX11_face 52 = .ok (.iload 4, 2) := by decide +kernel
theorem dX11_face_54 : decode cX11_face 54 = .ok (.iload 5, 2) := by decide +kernel
theorem dX11_face_56 : decode cX11_face 56 = .ok (.iload 6, 2) := by decide +kernel
theorem dX11_face_58 : decode cX11_face 58 = .ok (.invokevirtual 379, 3) := by decide +kernel
theorem dX11_face_61 : decode cX11_face 61 = .ok (.ldc2_w 387, 3) := by decide +kernel
theorem dX11_face_64 : decode cX11_face 64 = .ok (.iload 7, 2) := by decide +kernel
theorem dX11_face_66 : decode cX11_face 66 = .ok (.invokevirtual 389, 3) := by decide +kernel
theorem dX11_face_69 : decode cX11_face 69 = .ok (.lreturn, 1) := by decide +kernel
theorem dX11_wet_0 : decode cX11_wet 0 = .ok (.aload_n 0, 1) := by decide +kernel
theorem dX11_wet_1 : decode cX11_wet 1 = .ok (.iconst 0, 1) := by decide +kernel
theorem dX11_wet_2 : decode cX11_wet 2 = .ok (.putfield 40, 3) := by decide +kernel
theorem dX11_wet_5 : decode cX11_wet 5 = .ok (.aload_n 0, 1) := by decide +kernel
theorem dX11_wet_6 : decode cX11_wet 6 = .ok (.iload_n 1, 1) := by decide +kernel
theorem dX11_wet_7 : decode cX11_wet 7 = .ok (.iload_n 2, 1) := by decide +kernel
theorem dX11_wet_8 : decode cX11_wet 8 = .ok (.iload_n 3, 1) := by decide +kernel
theorem dX11_wet_9 : decode cX11_wet 9 = .ok (.iload 4, 2) := by decide +kernel
theorem dX11_wet_11 : decode cX11_wet 11 = .ok (.iload 5, 2) := by decide +kernel
theorem dX11_wet_13 : decode cX11_wet 13 = .ok (.invokevirtual 383, 3) := by decide +kernel
theorem dX11_wet_16 : decode cX11_wet 16 = .ok (.istore 7, 2) := by decide +kernel
theorem dX11_wet_18 : decode cX11_wet 18 = .ok (.iload 7, 2) := by decide +kernel
theorem dX11_wet_20 : decode cX11_wet 20 = .ok (.ifCond .le 13, 3) := by decide +kernel
theorem dX11_wet_23 : decode cX11_wet 23 = .ok (.aload_n 0, 1) := by decide +kernel
theorem dX11_wet_24 : decode cX11_wet 24 = .ok (.iload 7, 2) := by decide +kernel
theorem dX11_wet_26 : decode cX11_wet 26 = .ok (.invokevirtual 46, 3) := by decide +kernel
theorem dX11_wet_29 : decode cX11_wet 29 = .ok (.i2l, 1) := by decide +kernel
theorem dX11_wet_30 : decode cX11_wet 30 = .ok (.goto 23, 3) := by decide +kernel
theorem dX11_wet_33 : decode cX11_wet 33 = .ok (.aload_n 0, 1) := by decide +kernel
theorem dX11_wet_34 : decode cX11_wet 34 = .ok (.aload_n 0, 1) := by decide +kernel
theorem dX11_wet_35 : decode cX11_wet 35 = .ok (.iload_n 1, 1) := by decide +kernel
theorem dX11_wet_36 : decode cX11_wet 36 = .ok (.iload_n 2, 1) := by decide +kernel
theorem dX11_wet_37 : decode cX11_wet 37 = .ok (.iload_n 3, 1) := by decide +kernel
theorem dX11_wet_38 : decode cX11_wet 38 = .ok (.iload 4, 2) := by decide +kernel
theorem dX11_wet_40 : decode cX11_wet 40 = .ok (.iload 5, 2) := by decide +kernel
theorem dX11_wet_42 : decode cX11_wet 42 = .ok (.invokevirtual 393, 3) := by decide +kernel
theorem dX11_wet_45 : decode cX11_wet 45 = .ok (.ldc2_w 387, 3) := by decide +kernel
theorem dX11_wet_48 : decode cX11_wet 48 = .ok (.iload 6, 2) := by decide +kernel
theorem dX11_wet_50 : decode cX11_wet 50 = .ok (.invokevirtual 389, 3) := by decide +kernel
theorem dX11_wet_53 : decode cX11_wet 53 = .ok (.lreturn, 1) := by decide +kernel
theorem dX11_mean_0 : decode cX11_mean 0 = .ok (.aload_n 0, 1) := by decide +kernel
theorem dX11_mean_1 : decode cX11_mean 1 = .ok (.iconst 0, 1) := by decide +kernel
theorem dX11_mean_2 : decode cX11_mean 2 = .ok (.putfield 40, 3) := by decide +kernel
theorem dX11_mean_5 : decode cX11_mean 5 = .ok (.aload_n 0, 1) := by decide +kernel
theorem dX11_mean_6 : decode cX11_mean 6 = .ok (.iload_n 1, 1) := by decide +kernel
theorem dX11_mean_7 : decode cX11_mean 7 = .ok (.iload_n 2, 1) := by decide +kernel
theorem dX11_mean_8 : decode cX11_mean 8 = .ok (.iload_n 3, 1) := by decide +kernel
theorem dX11_mean_9 : decode cX11_mean 9 = .ok (.iload 4, 2) := by decide +kernel
theorem dX11_mean_11 : decode cX11_mean 11 = .ok (.iload 5, 2) := by decide +kernel
theorem dX11_mean_13 : decode cX11_mean 13 = .ok (.invokevirtual 383, 3) := by decide +kernel
theorem dX11_mean_16 : decode cX11_mean 16 = .ok (.istore 7, 2) := by decide +kernel
theorem dX11_mean_18 : decode cX11_mean 18 = .ok (.iload 7, 2) := by decide +kernel
theorem dX11_mean_20 : decode cX11_mean 20 = .ok (.ifCond .le 13, 3) := by decide +kernel
theorem dX11_mean_23 : decode cX11_mean 23 = .ok (.aload_n 0, 1) := by decide +kernel
theorem dX11_mean_24 : decode cX11_mean 24 = .ok (.iload 7, 2) := by decide +kernel
theorem dX11_mean_26 : decode cX11_mean 26 = .ok (.invokevirtual 46, 3) := by decide +kernel
theorem dX11_mean_29 : decode cX11_mean 29 = .ok (.i2l, 1) := by decide +kernel
theorem dX11_mean_30 : decode cX11_mean 30 = .ok (.goto 35, 3) := by decide +kernel
theorem dX11_mean_33 : decode cX11_mean 33 = .ok (.aload_n 0, 1) := by decide +kernel
theorem dX11_mean_34 : decode cX11_mean 34 = .ok (.aload_n 0, 1) := by decide +kernel
theorem dX11_mean_35 : decode cX11_mean 35 = .ok (.iload_n 1, 1) := by decide +kernel
theorem dX11_mean_36 : decode cX11_mean 36 = .ok (.iload_n 2, 1) := by decide +kernel
theorem dX11_mean_37 : decode cX11_mean 37 = .ok (.iload_n 3, 1) := by decide +kernel
theorem dX11_mean_38 : decode cX11_mean 38 = .ok (.iload 4, 2) := by decide +kernel
theorem dX11_mean_40 : decode cX11_mean 40 = .ok (.iload 5, 2) := by decide +kernel
theorem dX11_mean_42 : decode cX11_mean 42 = .ok (.invokevirtual 393, 3) := by decide +kernel
theorem dX11_mean_45 : decode cX11_mean 45 = .ok (.aload_n 0, 1) := by decide +kernel
theorem dX11_mean_46 : decode cX11_mean 46 = .ok (.getfield 338, 3) := by decide +kernel
theorem dX11_mean_49 : decode cX11_mean 49 = .ok (.getfield 246, 3) := by decide +kernel
theorem dX11_mean_52 : decode cX11_mean 52 = .ok (.iload 4, 2) := by decide +kernel
theorem dX11_mean_54 : decode cX11_mean 54 = .ok (.iaload, 1) := by decide +kernel
theorem dX11_mean_55 : decode cX11_mean 55 = .ok (.i2l, 1) := by decide +kernel
theorem dX11_mean_56 : decode cX11_mean 56 = .ok (.lmul, 1) := by decide +kernel
theorem dX11_mean_57 : decode cX11_mean 57 = .ok (.ldc2_w 397, 3) := by decide +kernel
theorem dX11_mean_60 : decode cX11_mean 60 = .ok (.iload 6, 2) := by decide +kernel
theorem dX11_mean_62 : decode cX11_mean 62 = .ok (.invokevirtual 389, 3) := by decide +kernel
theorem dX11_mean_65 : decode cX11_mean 65 = .ok (.lreturn, 1) := by decide +kernel
theorem dX11_minutes_0 : decode cX11_minutes 0 = .ok (.aload_n 0, 1) := by decide +kernel
theorem dX11_minutes_1 : decode cX11_minutes 1 = .ok (.iconst 0, 1) := by decide +kernel
theorem dX11_minutes_2 : decode cX11_minutes 2 = .ok (.putfield 40, 3) := by decide +kernel
theorem dX11_minutes_5 : decode cX11_minutes 5 = .ok (.aload_n 0, 1) := by decide +kernel
theorem dX11_minutes_6 : decode cX11_minutes 6 = .ok (.iload_n 1, 1) := by decide +kernel
theorem dX11_minutes_7 : decode cX11_minutes 7 = .ok (.invokevirtual 346, 3) := by decide +kernel
theorem dX11_minutes_10 : decode cX11_minutes 10 = .ok (.ifCond .eq 11, 3) := by decide +kernel
theorem dX11_minutes_13 : decode cX11_minutes 13 = .ok (.aload_n 0, 1) := by decide +kernel
theorem dX11_minutes_14 : decode cX11_minutes 14 = .ok (.iload_n 2, 1) := by decide +kernel
theorem dX11_minutes_15 : decode cX11_minutes 15 = .ok (.invokevirtual 349, 3) := by decide +kernel
theorem dX11_minutes_18 : decode cX11_minutes 18 = .ok (.ifCond .ne 9, 3) := by decide +kernel
theorem dX11_minutes_21 : decode cX11_minutes 21 = .ok (.aload_n 0, 1) := by decide +kernel
theorem dX11_minutes_22 : decode cX11_minutes 22 = .ok (.iconst 1, 1) := by decide +kernel
theorem dX11_minutes_23 : decode cX11_minutes 23 = .ok (.invokevirtual 46, 3) := by decide +kernel
theorem dX11_minutes_26 : decode cX11_minutes 26 = .ok (.ireturn, 1) := by decide +kernel
theorem dX11_minutes_27 : decode cX11_minutes 27 = .ok (.aload_n 0, 1) := by decide +kernel
theorem dX11_minutes_28 : decode cX11_minutes 28 = .ok (.iload_n 1, 1) := by decide +kernel
theorem dX11_minutes_29 : decode cX11_minutes 29 = .ok (.iload_n 3, 1) := by decide +kernel
theorem dX11_minutes_30 : decode cX11_minutes 30 = .ok (.invokevirtual 355, 3) := by decide +kernel
theorem dX11_minutes_33 : decode cX11_minutes 33 = .ok (.ifCond .eq 19, 3) := by decide +kernel
theorem dX11_minutes_36 : decode cX11_minutes 36 = .ok (.aload_n 0, 1) := by decide +kernel
theorem dX11_minutes_37 : decode cX11_minutes 37 = .ok (.aload_n 0, 1) := by decide +kernel
theorem dX11_minutes_38 : decode cX11_minutes 38 = .ok (.getfield 338, 3) := by decide +kernel
theorem dX11_minutes_41 : decode cX11_minutes 41 = .ok (.iload_n 2, 1) := by decide +kernel
theorem dX11_minutes_42 : decode cX11_minutes 42 = .ok (.iload_n 3, 1) := by decide +kernel
theorem dX11_minutes_43 : decode cX11_minutes 43 = .ok (.invokevirtual 399, 3) := by decide +kernel
theorem dX11_minutes_46 : decode cX11_minutes 46 = .ok (.invokevirtual 50, 3) := by decide +kernel
theorem dX11_minutes_49 : decode cX11_minutes 49 = .ok (.goto 8, 3) := by decide +kernel
theorem dX11_minutes_52 : decode cX11_minutes 52 = .ok (.aload_n 0, 1) := by decide +kernel
theorem dX11_minutes_53 : decode cX11_minutes 53 = .ok (.iconst 2, 1) := by decide +kernel
theorem dX11_minutes_54 : decode cX11_minutes 54 = .ok (.invokevirtual 46, 3) := by decide +kernel
theorem dX11_minutes_57 : decode cX11_minutes 57 = .ok (.ireturn, 1) := by decide +kernel
theorem dX11_air_0 : decode cX11_air 0 = .ok (.aload_n 0, 1) := by decide +kernel
theorem dX11_air_1 : decode cX11_air 1 = .ok (.iconst 0, 1) := by decide +kernel
theorem dX11_air_2 : decode cX11_air 2 = .ok (.putfield 40, 3) := by decide +kernel
theorem dX11_air_5 : decode cX11_air 5 = .ok (.aload_n 0, 1) := by decide +kernel
theorem dX11_air_6 : decode cX11_air 6 = .ok (.iload_n 1, 1) := by decide +kernel
theorem dX11_air_7 : decode cX11_air 7 = .ok (.invokevirtual 349, 3) := by decide +kernel
theorem dX11_air_10 : decode cX11_air 10 = .ok (.ifCond .eq 20, 3) := by decide +kernel
theorem dX11_air_13 : decode cX11_air 13 = .ok (.iload_n 2, 1) := by decide +kernel
theorem dX11_air_14 : decode cX11_air 14 = .ok (.iconst 0, 1) := by decide +kernel
theorem dX11_air_15 : decode cX11_air 15 = .ok (.iconst 1, 1) := by decide +kernel
theorem dX11_air_16 : decode cX11_air 16 = .ok (.invokestatic 118, 3) := by decide +kernel
theorem dX11_air_19 : decode cX11_air 19 = .ok (.ifCond .eq 11, 3) := by decide +kernel
theorem dX11_air_22 : decode cX11_air 22 = .ok (.aload_n 0, 1) := by decide +kernel
theorem dX11_air_23 : decode cX11_air 23 = .ok (.iload_n 3, 1) := by decide +kernel
theorem dX11_air_24 : decode cX11_air 24 = .ok (.invokevirtual 352, 3) := by decide +kernel
theorem dX11_air_27 : decode cX11_air 27 = .ok (.ifCond .ne 9, 3) := by decide +kernel
theorem dX11_air_30 : decode cX11_air 30 = .ok (.aload_n 0, 1) := by decide +kernel
theorem dX11_air_31 : decode cX11_air 31 = .ok (.iconst 1, 1) := by decide +kernel
theorem dX11_air_32 : decode cX11_air 32 = .ok (.invokevirtual 402, 3) := by decide +kernel
theorem dX11_air_35 : decode cX11_air 35 = .ok (.ireturn, 1) := by decide +kernel
theorem dX11_air_36 : decode cX11_air 36 = .ok (.aload_n 0, 1) := by decide +kernel
theorem dX11_air_37 : decode cX11_air 37 = .ok (.aload_n 0, 1) := by decide +kernel
theorem dX11_air_38 : decode cX11_air 38 = .ok (.getfield 338, 3) := by decide +kernel
theorem dX11_air_41 : decode cX11_air 41 = .ok (.iload_n 1, 1) := by decide +kernel
theorem dX11_air_42 : decode cX11_air 42 = .ok (.iload_n 2, 1) := by decide +kernel
theorem dX11_air_43 : decode cX11_air 43 = .ok (.iload_n 3, 1) := by decide +kernel
theorem dX11_air_44 : decode cX11_air 44 = .ok (.invokevirtual 361, 3) := by decide +kernel
theorem dX11_air_47 : decode cX11_air 47 = .ok (.invokevirtual 50, 3) := by decide +kernel
theorem dX11_air_50 : decode cX11_air 50 = .ok (.ireturn, 1) := by decide +kernel
theorem dX11_held_0 : decode cX11_held 0 = .ok (.aload_n 0, 1) := by decide +kernel
theorem dX11_held_1 : decode cX11_held 1 = .ok (.iconst 0, 1) := by decide +kernel
theorem dX11_held_2 : decode cX11_held 2 = .ok (.putfield 40, 3) := by decide +kernel
theorem dX11_held_5 : decode cX11_held 5 = .ok (.aload_n 0, 1) := by decide +kernel
theorem dX11_held_6 : decode cX11_held 6 = .ok (.iload_n 1, 1) := by decide +kernel
theorem dX11_held_7 : decode cX11_held 7 = .ok (.iload_n 2, 1) := by decide +kernel
theorem dX11_held_8 : decode cX11_held 8 = .ok (.iload_n 3, 1) := by decide +kernel
theorem dX11_held_9 : decode cX11_held 9 = .ok (.iload 4, 2) := by decide +kernel
theorem dX11_held_11 : decode cX11_held 11 = .ok (.iload 5, 2) := by decide +kernel
theorem dX11_held_13 : decode cX11_held 13 = .ok (.invokevirtual 383, 3) := by decide +kernel
theorem dX11_held_16 : decode cX11_held 16 = .ok (.istore 6, 2) := by decide +kernel
theorem dX11_held_18 : decode cX11_held 18 = .ok (.iload 6, 2) := by decide +kernel
theorem dX11_held_20 : decode cX11_held 20 = .ok (.ifCond .le 10, 3) := by decide +kernel
theorem dX11_held_23 : decode cX11_held 23 = .ok (.aload_n 0, 1) := by decide +kernel
theorem dX11_held_24 : decode cX11_held 24 = .ok (.iload 6, 2) := by decide +kernel
theorem dX11_held_26 : decode cX11_held 26 = .ok (.invokevirtual 46, 3) := by decide +kernel
theorem dX11_held_29 : decode cX11_held 29 = .ok (.ireturn, 1) := by decide +kernel
theorem dX11_held_30 : decode cX11_held 30 = .ok (.aload_n 0, 1) := by decide +kernel
theorem dX11_held_31 : decode cX11_held 31 = .ok (.aload_n 0, 1) := by decide +kernel
theorem dX11_held_32 : decode cX11_held 32 = .ok (.getfield 338, 3) := by decide +kernel
theorem dX11_held_35 : decode cX11_held 35 = .ok (.getfield 302, 3) := by decide +kernel
theorem dX11_held_38 : decode cX11_held 38 = .ok (.iload_n 1, 1) := by decide +kernel
theorem dX11_held_39 : decode cX11_held 39 = .ok (.iaload, 1) := by decide +kernel
theorem dX11_held_40 : decode cX11_held 40 = .ok (.iconst 3, 1) := by decide +kernel
theorem dX11_held_41 : decode cX11_held 41 = .ok (.if_icmp .eq 8, 3) := by decide +kernel
theorem dX11_held_44 : decode cX11_held 44 = .ok (.bipush (-2), 2) := by decide +kernel
theorem dX11_held_46 : decode cX11_held 46 = .ok (.goto 22, 3) := by decide +kernel
theorem dX11_held_49 : decode cX11_held 49 = .ok (.aload_n 0, 1) := by decide +kernel
theorem dX11_held_50 : decode cX11_held 50 = .ok (.iload_n 1, 1) := by decide +kernel
theorem dX11_held_51 : decode cX11_held 51 = .ok (.iload_n 2, 1) := by decide +kernel
theorem dX11_held_52 : decode cX11_held 52 = .ok (.iload_n 3, 1) := by decide +kernel
theorem dX11_held_53 : decode cX11_held 53 = .ok (.iload 4, 2) := by decide +kernel
theorem dX11_held_55 : decode cX11_held 55 = .ok (.iload 5, 2) := by decide +kernel
theorem dX11_held_57 : decode cX11_held 57 = .ok (.invokevirtual 368, 3) := by decide +kernel
theorem dX11_held_60 : decode cX11_held 60 = .ok (.ifCond .eq 7, 3) := by decide +kernel
theorem dX11_held_63 : decode cX11_held 63 = .ok (.iconst 1, 1) := by decide +kernel
theorem dX11_held_64 : decode cX11_held 64 = .ok (.goto 4, 3) := by decide +kernel
theorem dX11_held_67 : decode cX11_held 67 = .ok (.iconst 0, 1) := by decide +kernel
theorem dX11_held_68 : decode cX11_held 68 = .ok (.invokevirtual 50, 3) := by decide +kernel
theorem dX11_held_71 : decode cX11_held 71 = .ok (.ireturn, 1) := by decide +kernel
theorem dX11_bestOf_0 : decode cX11_bestOf 0 = .ok (.aload_n 0, 1) := by decide +kernel
theorem dX11_bestOf_1 : decode cX11_bestOf 1 = .ok (.getfield 338, 3) := by decide +kernel
theorem dX11_bestOf_4 : decode cX11_bestOf 4 = .ok (.getfield 317, 3) := by decide +kernel
theorem dX11_bestOf_7 : decode cX11_bestOf 7 = .ok (.iload_n 1, 1) := by decide +kernel
theorem dX11_bestOf_8 : decode cX11_bestOf 8 = .ok (.iaload, 1) := by decide +kernel
theorem dX11_bestOf_9 : decode cX11_bestOf 9 = .ok (.istore 5, 2) := by decide +kernel
theorem dX11_bestOf_11 : decode cX11_bestOf 11 = .ok (.iload 5, 2) := by decide +kernel
theorem dX11_bestOf_13 : decode cX11_bestOf 13 = .ok (.iconst 1, 1) := by decide +kernel
theorem dX11_bestOf_14 : decode cX11_bestOf 14 = .ok (.iadd, 1) := by decide +kernel
theorem dX11_bestOf_15 : decode cX11_bestOf 15 = .ok (.istore 6, 2) := by decide +kernel
theorem dX11_bestOf_17 : decode cX11_bestOf 17 = .ok (.iload 6, 2) := by decide +kernel
theorem dX11_bestOf_19 : decode cX11_bestOf 19 = .ok (.aload_n 0, 1) := by decide +kernel
theorem dX11_bestOf_20 : decode cX11_bestOf 20 = .ok (.getfield 338, 3) := by decide +kernel
theorem dX11_bestOf_23 : decode cX11_bestOf 23 = .ok (.getfield 320, 3) := by decide +kernel
theorem dX11_bestOf_26 : decode cX11_bestOf 26 = .ok (.iload_n 1, 1) := by decide +kernel
theorem dX11_bestOf_27 : decode cX11_bestOf 27 = .ok (.iaload, 1) := by decide +kernel
theorem dX11_bestOf_28 : decode cX11_bestOf 28 = .ok (.if_icmp .gt 39, 3) := by decide +kernel
theorem dX11_bestOf_31 : decode cX11_bestOf 31 = .ok (.aload_n 0, 1) := by decide +kernel
theorem dX11_bestOf_32 : decode cX11_bestOf 32 = .ok (.iload_n 1, 1) := by decide +kernel
theorem dX11_bestOf_33 : decode cX11_bestOf 33 = .ok (.iload_n 2, 1) := by decide +kernel
theorem dX11_bestOf_34 : decode cX11_bestOf 34 = .ok (.iload_n 3, 1) := by decide +kernel
theorem dX11_bestOf_35 : decode cX11_bestOf 35 = .ok (.iload 4, 2) := by decide +kernel
theorem dX11_bestOf_37 : decode cX11_bestOf 37 = .ok (.iload 6, 2) := by decide +kernel
theorem dX11_bestOf_39 : decode cX11_bestOf 39 = .ok (.invokevirtual 393, 3) := by decide +kernel
theorem dX11_bestOf_42 : decode cX11_bestOf 42 = .ok (.aload_n 0, 1) := by decide +kernel
theorem dX11_bestOf_43 : decode cX11_bestOf 43 = .ok (.iload_n 1, 1) := by decide +kernel
theorem dX11_bestOf_44 : decode cX11_bestOf 44 = .ok (.iload_n 2, 1) := by decide +kernel
theorem dX11_bestOf_45 : decode cX11_bestOf 45 = .ok (.iload_n 3, 1) := by decide +kernel
theorem dX11_bestOf_46 : decode cX11_bestOf 46 = .ok (.iload 4, 2) := by decide +kernel
theorem dX11_bestOf_48 : decode cX11_bestOf 48 = .ok (.iload 5, 2) := by decide +kernel
theorem dX11_bestOf_50 : decode cX11_bestOf 50 = .ok (.invokevirtual 393, 3) := by decide +kernel
theorem dX11_bestOf_53 : decode cX11_bestOf 53 = .ok (.lcmp, 1) := by decide +kernel
theorem dX11_bestOf_54 : decode cX11_bestOf 54 = .ok (.ifCond .ge 7, 3) := by decide +kernel
theorem dX11_bestOf_57 : decode cX11_bestOf 57 = .ok (.iload 6, 2) := by decide +kernel
theorem dX11_bestOf_59 : decode cX11_bestOf 59 = .ok (.istore 5, 2) := by decide +kernel
theorem dX11_bestOf_61 : decode cX11_bestOf 61 = .ok (.iinc 6 1, 3) := by decide +kernel
theorem dX11_bestOf_64 : decode cX11_bestOf 64 = .ok (.goto (-47), 3) := by decide +kernel
theorem dX11_bestOf_67 : decode cX11_bestOf 67 = .ok (.iload 5, 2) := by decide +kernel
theorem dX11_bestOf_69 : decode cX11_bestOf 69 = .ok (.ireturn, 1) := by decide +kernel
theorem dX11_best_0 : decode cX11_best 0 = .ok (.aload_n 0, 1) := by decide +kernel
theorem dX11_best_1 : decode cX11_best 1 = .ok (.iconst 0, 1) := by decide +kernel
theorem dX11_best_2 : decode cX11_best 2 = .ok (.putfield 40, 3) := by decide +kernel
theorem dX11_best_5 : decode cX11_best 5 = .ok (.aload_n 0, 1) := by decide +kernel
theorem dX11_best_6 : decode cX11_best 6 = .ok (.iload_n 1, 1) := by decide +kernel
theorem dX11_best_7 : decode cX11_best 7 = .ok (.invokevirtual 346, 3) := by decide +kernel
theorem dX11_best_10 : decode cX11_best 10 = .ok (.ifCond .eq 29, 3) := by decide +kernel
theorem dX11_best_13 : decode cX11_best 13 = .ok (.aload_n 0, 1) := by decide +kernel
theorem dX11_best_14 : decode cX11_best 14 = .ok (.iload_n 2, 1) := by decide +kernel
theorem dX11_best_15 : decode cX11_best 15 = .ok (.invokevirtual 349, 3) := by decide +kernel
theorem dX11_best_18 : decode cX11_best 18 = .ok (.ifCond .eq 21, 3) := by decide +kernel
theorem dX11_best_21 : decode cX11_best 21 = .ok (.iload_n 3, 1) := by decide +kernel
theorem dX11_best_22 : decode cX11_best 22 = .ok (.iconst 0, 1) := by decide +kernel
theorem dX11_best_23 : decode cX11_best 23 = .ok (.iconst 1, 1) := by decide +kernel
theorem dX11_best_24 : decode cX11_best 24 = .ok (.invokestatic 118, 3) := by decide +kernel
theorem dX11_best_27 : decode cX11_best 27 = .ok (.ifCond .eq 12, 3) := by decide +kernel
theorem dX11_best_30 : decode cX11_best 30 = .ok (.aload_n 0, 1) := by decide +kernel
theorem dX11_best_31 : decode cX11_best 31 = .ok (.iload 4, 2) := by decide +kernel
theorem dX11_best_33 : decode cX11_best 33 = .ok (.invokevirtual 352, 3) := by decide +kernel
theorem dX11_best_36 : decode cX11_best 36 = .ok (.ifCond .ne 9, 3) := by decide +kernel
theorem dX11_best_39 : decode cX11_best 39 = .ok (.aload_n 0, 1) := by decide +kernel
theorem dX11_best_40 : decode cX11_best 40 = .ok (.iconst 1, 1) := by decide +kernel
theorem dX11_best_41 : decode cX11_best 41 = .ok (.invokevirtual 46, 3) := by decide +kernel
theorem dX11_best_44 : decode cX11_best 44 = .ok (.ireturn, 1) := by decide +kernel
theorem dX11_best_45 : decode cX11_best 45 = .ok (.aload_n 0, 1) := by decide +kernel
theorem dX11_best_46 : decode cX11_best 46 = .ok (.aload_n 0, 1) := by decide +kernel
theorem dX11_best_47 : decode cX11_best 47 = .ok (.iload_n 1, 1) := by decide +kernel
theorem dX11_best_48 : decode cX11_best 48 = .ok (.iload_n 2, 1) := by decide +kernel
theorem dX11_best_49 : decode cX11_best 49 = .ok (.iload_n 3, 1) := by decide +kernel
theorem dX11_best_50 : decode cX11_best 50 = .ok (.iload 4, 2) := by decide +kernel
theorem dX11_best_52 : decode cX11_best 52 = .ok (.invokevirtual 405, 3) := by decide +kernel
theorem dX11_best_55 : decode cX11_best 55 = .ok (.invokevirtual 50, 3) := by decide +kernel
theorem dX11_best_58 : decode cX11_best 58 = .ok (.ireturn, 1) := by decide +kernel
theorem dX11_saves_0 : decode cX11_saves 0 = .ok (.aload_n 0, 1) := by decide +kernel
theorem dX11_saves_1 : decode cX11_saves 1 = .ok (.iconst 0, 1) := by decide +kernel
theorem dX11_saves_2 : decode cX11_saves 2 = .ok (.putfield 40, 3) := by decide +kernel
theorem dX11_saves_5 : decode cX11_saves 5 = .ok (.aload_n 0, 1) := by decide +kernel
theorem dX11_saves_6 : decode cX11_saves 6 = .ok (.iload_n 1, 1) := by decide +kernel
theorem dX11_saves_7 : decode cX11_saves 7 = .ok (.invokevirtual 346, 3) := by decide +kernel
theorem dX11_saves_10 : decode cX11_saves 10 = .ok (.ifCond .eq 29, 3) := by decide +kernel
theorem dX11_saves_13 : decode cX11_saves 13 = .ok (.aload_n 0, 1) := by decide +kernel
theorem dX11_saves_14 : decode cX11_saves 14 = .ok (.iload_n 2, 1) := by decide +kernel
theorem dX11_saves_15 : decode cX11_saves 15 = .ok (.invokevirtual 349, 3) := by decide +kernel
theorem dX11_saves_18 : decode cX11_saves 18 = .ok (.ifCond .eq 21, 3) := by decide +kernel
theorem dX11_saves_21 : decode cX11_saves 21 = .ok (.iload_n 3, 1) := by decide +kernel
theorem dX11_saves_22 : decode cX11_saves 22 = .ok (.iconst 0, 1) := by decide +kernel
theorem dX11_saves_23 : decode cX11_saves 23 = .ok (.iconst 1, 1) := by decide +kernel
theorem dX11_saves_24 : decode cX11_saves 24 = .ok (.invokestatic 118, 3) := by decide +kernel
theorem dX11_saves_27 : decode cX11_saves 27 = .ok (.ifCond .eq 12, 3) := by decide +kernel
theorem dX11_saves_30 : decode cX11_saves 30 = .ok (.aload_n 0, 1) := by decide +kernel
theorem dX11_saves_31 : decode cX11_saves 31 = .ok (.iload 4, 2) := by decide +kernel
theorem dX11_saves_33 : decode cX11_saves 33 = .ok (.invokevirtual 352, 3) := by decide +kernel
theorem dX11_saves_36 : decode cX11_saves 36 = .ok (.ifCond .ne 10, 3) := by decide +kernel
theorem dX11_saves_39 : decode cX11_saves 39 = .ok (.aload_n 0, 1) := by decide +kernel
theorem dX11_saves_40 : decode cX11_saves 40 = .ok (.iconst 1, 1) := by decide +kernel
theorem dX11_saves_41 : decode cX11_saves 41 = .ok (.invokevirtual 46, 3) := by decide +kernel
theorem dX11_saves_44 : decode cX11_saves 44 = .ok (.i2l, 1) := by decide +kernel
theorem dX11_saves_45 : decode cX11_saves 45 = .ok (.lreturn, 1) := by decide +kernel
theorem dX11_saves_46 : decode cX11_saves 46 = .ok (.aload_n 0, 1) := by decide +kernel
theorem dX11_saves_47 : decode cX11_saves 47 = .ok (.aload_n 0, 1) := by decide +kernel
theorem dX11_saves_48 : decode cX11_saves 48 = .ok (.iload_n 1, 1) := by decide +kernel
theorem dX11_saves_49 : decode cX11_saves 49 = .ok (.iload_n 2, 1) := by decide +kernel
theorem dX11_saves_50 : decode cX11_saves 50 = .ok (.iload_n 3, 1) := by decide +kernel
theorem dX11_saves_51 : decode cX11_saves 51 = .ok (.iload 4, 2) := by decide +kernel
theorem dX11_saves_53 : decode cX11_saves 53 = .ok (.aload_n 0, 1) := by decide +kernel
theorem dX11_saves_54 : decode cX11_saves 54 = .ok (.getfield 338, 3) := by decide +kernel
theorem dX11_saves_57 : decode cX11_saves 57 = .ok (.getfield 317, 3) := by decide +kernel
theorem dX11_saves_60 : decode cX11_saves 60 = .ok (.iload_n 1, 1) := by decide +kernel
theorem dX11_saves_61 : decode cX11_saves 61 = .ok (.iaload, 1) := by decide +kernel
theorem dX11_saves_62 : decode cX11_saves 62 = .ok (.invokevirtual 393, 3) := by decide +kernel
theorem dX11_saves_65 : decode cX11_saves 65 = .ok (.aload_n 0, 1) := by decide +kernel
theorem dX11_saves_66 : decode cX11_saves 66 = .ok (.iload_n 1, 1) := by decide +kernel
theorem dX11_saves_67 : decode cX11_saves 67 = .ok (.iload_n 2, 1) := by decide +kernel
theorem dX11_saves_68 : decode cX11_saves 68 = .ok (.iload_n 3, 1) := by decide +kernel
theorem dX11_saves_69 : decode cX11_saves 69 = .ok (.iload 4, 2) := by decide +kernel
theorem dX11_saves_71 : decode cX11_saves 71 = .ok (.aload_n 0, 1) := by decide +kernel
theorem dX11_saves_72 : decode cX11_saves 72 = .ok (.iload_n 1, 1) := by decide +kernel
theorem dX11_saves_73 : decode cX11_saves 73 = .ok (.iload_n 2, 1) := by decide +kernel
theorem dX11_saves_74 : decode cX11_saves 74 = .ok (.iload_n 3, 1) := by decide +kernel
theorem dX11_saves_75 : decode cX11_saves 75 = .ok (.iload 4, 2) := by decide +kernel
theorem dX11_saves_77 : decode cX11_saves 77 = .ok (.invokevirtual 405, 3) := by decide +kernel
theorem dX11_saves_80 : decode cX11_saves 80 = .ok (.invokevirtual 393, 3) := by decide +kernel
theorem dX11_saves_83 : decode cX11_saves 83 = .ok (.lsub, 1) := by decide +kernel
theorem dX11_saves_84 : decode cX11_saves 84 = .ok (.ldc2_w 387, 3) := by decide +kernel
theorem dX11_saves_87 : decode cX11_saves 87 = .ok (.iload 5, 2) := by decide +kernel
theorem dX11_saves_89 : decode cX11_saves 89 = .ok (.invokevirtual 389, 3) := by decide +kernel
theorem dX11_saves_92 : decode cX11_saves 92 = .ok (.lreturn, 1) := by decide +kernel
theorem dX11_worst_0 : decode cX11_worst 0 = .ok (.aload_n 0, 1) := by decide +kernel
theorem dX11_worst_1 : decode cX11_worst 1 = .ok (.iconst 0, 1) := by decide +kernel
theorem dX11_worst_2 : decode cX11_worst 2 = .ok (.putfield 40, 3) := by decide +kernel
theorem dX11_worst_5 : decode cX11_worst 5 = .ok (.aload_n 0, 1) := by decide +kernel
theorem dX11_worst_6 : decode cX11_worst 6 = .ok (.iload_n 1, 1) := by decide +kernel
theorem dX11_worst_7 : decode cX11_worst 7 = .ok (.invokevirtual 346, 3) := by decide +kernel
theorem dX11_worst_10 : decode cX11_worst 10 = .ok (.ifCond .eq 29, 3) := by decide +kernel
theorem dX11_worst_13 : decode cX11_worst 13 = .ok (.aload_n 0, 1) := by decide +kernel
theorem dX11_worst_14 : decode cX11_worst 14 = .ok (.iload_n 2, 1) := by decide +kernel
theorem dX11_worst_15 : decode cX11_worst 15 = .ok (.invokevirtual 349, 3) := by decide +kernel
theorem dX11_worst_18 : decode cX11_worst 18 = .ok (.ifCond .eq 21, 3) := by decide +kernel
theorem dX11_worst_21 : decode cX11_worst 21 = .ok (.iload_n 3, 1) := by decide +kernel
theorem dX11_worst_22 : decode cX11_worst 22 = .ok (.iconst 0, 1) := by decide +kernel
theorem dX11_worst_23 : decode cX11_worst 23 = .ok (.iconst 1, 1) := by decide +kernel
theorem dX11_worst_24 : decode cX11_worst 24 = .ok (.invokestatic 118, 3) := by decide +kernel
theorem dX11_worst_27 : decode cX11_worst 27 = .ok (.ifCond .eq 12, 3) := by decide +kernel
theorem dX11_worst_30 : decode cX11_worst 30 = .ok (.aload_n 0, 1) := by decide +kernel
theorem dX11_worst_31 : decode cX11_worst 31 = .ok (.iload 4, 2) := by decide +kernel
theorem dX11_worst_33 : decode cX11_worst 33 = .ok (.invokevirtual 352, 3) := by decide +kernel
theorem dX11_worst_36 : decode cX11_worst 36 = .ok (.ifCond .ne 9, 3) := by decide +kernel
theorem dX11_worst_39 : decode cX11_worst 39 = .ok (.aload_n 0, 1) := by decide +kernel
theorem dX11_worst_40 : decode cX11_worst 40 = .ok (.iconst 1, 1) := by decide +kernel
theorem dX11_worst_41 : decode cX11_worst 41 = .ok (.invokevirtual 46, 3) := by decide +kernel
theorem dX11_worst_44 : decode cX11_worst 44 = .ok (.ireturn, 1) := by decide +kernel
theorem dX11_worst_45 : decode cX11_worst 45 = .ok (.aload_n 0, 1) := by decide +kernel
theorem dX11_worst_46 : decode cX11_worst 46 = .ok (.getfield 338, 3) := by decide +kernel
theorem dX11_worst_49 : decode cX11_worst 49 = .ok (.getfield 317, 3) := by decide +kernel
theorem dX11_worst_52 : decode cX11_worst 52 = .ok (.iload_n 1, 1) := by decide +kernel
theorem dX11_worst_53 : decode cX11_worst 53 = .ok (.iaload, 1) := by decide +kernel
theorem dX11_worst_54 : decode cX11_worst 54 = .ok (.istore 5, 2) := by decide +kernel
theorem dX11_worst_56 : decode cX11_worst 56 = .ok (.iload 5, 2) := by decide +kernel
theorem dX11_worst_58 : decode cX11_worst 58 = .ok (.iconst 1, 1) := by decide +kernel
theorem dX11_worst_59 : decode cX11_worst 59 = .ok (.iadd, 1) := by decide +kernel
theorem dX11_worst_60 : decode cX11_worst 60 = .ok (.istore 6, 2) := by decide +kernel
theorem dX11_worst_62 : decode cX11_worst 62 = .ok (.iload 6, 2) := by decide +kernel
theorem dX11_worst_64 : decode cX11_worst 64 = .ok (.aload_n 0, 1) := by decide +kernel
theorem dX11_worst_65 : decode cX11_worst 65 = .ok (.getfield 338, 3) := by decide +kernel
theorem dX11_worst_68 : decode cX11_worst 68 = .ok (.getfield 320, 3) := by decide +kernel
theorem dX11_worst_71 : decode cX11_worst 71 = .ok (.iload_n 1, 1) := by decide +kernel
theorem dX11_worst_72 : decode cX11_worst 72 = .ok (.iaload, 1) := by decide +kernel
theorem dX11_worst_73 : decode cX11_worst 73 = .ok (.if_icmp .gt 39, 3) := by decide +kernel
theorem dX11_worst_76 : decode cX11_worst 76 = .ok (.aload_n 0, 1) := by decide +kernel
theorem dX11_worst_77 : decode cX11_worst 77 = .ok (.iload_n 1, 1) := by decide +kernel
theorem dX11_worst_78 : decode cX11_worst 78 = .ok (.iload_n 2, 1) := by decide +kernel
theorem dX11_worst_79 : decode cX11_worst 79 = .ok (.iload_n 3, 1) := by decide +kernel
theorem dX11_worst_80 : decode cX11_worst 80 = .ok (.iload 4, 2) := by decide +kernel
theorem dX11_worst_82 : decode cX11_worst 82 = .ok (.iload 6, 2) := by decide +kernel
theorem dX11_worst_84 : decode cX11_worst 84 = .ok (.invokevirtual 393, 3) := by decide +kernel
theorem dX11_worst_87 : decode cX11_worst 87 = .ok (.aload_n 0, 1) := by decide +kernel
theorem dX11_worst_88 : decode cX11_worst 88 = .ok (.iload_n 1, 1) := by decide +kernel
theorem dX11_worst_89 : decode cX11_worst 89 = .ok (.iload_n 2, 1) := by decide +kernel
theorem dX11_worst_90 : decode cX11_worst 90 = .ok (.iload_n 3, 1) := by decide +kernel
theorem dX11_worst_91 : decode cX11_worst 91 = .ok (.iload 4, 2) := by decide +kernel
theorem dX11_worst_93 : decode cX11_worst 93 = .ok (.iload 5, 2) := by decide +kernel
theorem dX11_worst_95 : decode cX11_worst 95 = .ok (.invokevirtual 393, 3) := by decide +kernel
theorem dX11_worst_98 : decode cX11_worst 98 = .ok (.lcmp, 1) := by decide +kernel
theorem dX11_worst_99 : decode cX11_worst 99 = .ok (.ifCond .le 7, 3) := by decide +kernel
theorem dX11_worst_102 : decode cX11_worst 102 = .ok (.iload 6, 2) := by decide +kernel
theorem dX11_worst_104 : decode cX11_worst 104 = .ok (.istore 5, 2) := by decide +kernel
theorem dX11_worst_106 : decode cX11_worst 106 = .ok (.iinc 6 1, 3) := by decide +kernel
theorem dX11_worst_109 : decode cX11_worst 109 = .ok (.goto (-47), 3) := by decide +kernel
theorem dX11_worst_112 : decode cX11_worst 112 = .ok (.aload_n 0, 1) := by decide +kernel
theorem dX11_worst_113 : decode cX11_worst 113 = .ok (.iload 5, 2) := by decide +kernel
theorem dX11_worst_115 : decode cX11_worst 115 = .ok (.invokevirtual 50, 3) := by decide +kernel
theorem dX11_worst_118 : decode cX11_worst 118 = .ok (.ireturn, 1) := by decide +kernel
theorem dX11_even_0 : decode cX11_even 0 = .ok (.aload_n 0, 1) := by decide +kernel
theorem dX11_even_1 : decode cX11_even 1 = .ok (.iconst 0, 1) := by decide +kernel
theorem dX11_even_2 : decode cX11_even 2 = .ok (.putfield 40, 3) := by decide +kernel
theorem dX11_even_5 : decode cX11_even 5 = .ok (.aload_n 0, 1) := by decide +kernel
theorem dX11_even_6 : decode cX11_even 6 = .ok (.iload_n 1, 1) := by decide +kernel
theorem dX11_even_7 : decode cX11_even 7 = .ok (.invokevirtual 346, 3) := by decide +kernel
theorem dX11_even_10 : decode cX11_even 10 = .ok (.ifCond .eq 29, 3) := by decide +kernel
theorem dX11_even_13 : decode cX11_even 13 = .ok (.aload_n 0, 1) := by decide +kernel
theorem dX11_even_14 : decode cX11_even 14 = .ok (.iload_n 2, 1) := by decide +kernel
theorem dX11_even_15 : decode cX11_even 15 = .ok (.invokevirtual 349, 3) := by decide +kernel
theorem dX11_even_18 : decode cX11_even 18 = .ok (.ifCond .eq 21, 3) := by decide +kernel
theorem dX11_even_21 : decode cX11_even 21 = .ok (.iload_n 3, 1) := by decide +kernel
theorem dX11_even_22 : decode cX11_even 22 = .ok (.iconst 0, 1) := by decide +kernel
theorem dX11_even_23 : decode cX11_even 23 = .ok (.iconst 1, 1) := by decide +kernel
theorem dX11_even_24 : decode cX11_even 24 = .ok (.invokestatic 118, 3) := by decide +kernel
theorem dX11_even_27 : decode cX11_even 27 = .ok (.ifCond .eq 12, 3) := by decide +kernel
theorem dX11_even_30 : decode cX11_even 30 = .ok (.aload_n 0, 1) := by decide +kernel
theorem dX11_even_31 : decode cX11_even 31 = .ok (.iload 4, 2) := by decide +kernel
theorem dX11_even_33 : decode cX11_even 33 = .ok (.invokevirtual 352, 3) := by decide +kernel
theorem dX11_even_36 : decode cX11_even 36 = .ok (.ifCond .ne 9, 3) := by decide +kernel
theorem dX11_even_39 : decode cX11_even 39 = .ok (.aload_n 0, 1) := by decide +kernel
theorem dX11_even_40 : decode cX11_even 40 = .ok (.iconst 1, 1) := by decide +kernel
theorem dX11_even_41 : decode cX11_even 41 = .ok (.invokevirtual 46, 3) := by decide +kernel
theorem dX11_even_44 : decode cX11_even 44 = .ok (.ireturn, 1) := by decide +kernel
theorem dX11_even_45 : decode cX11_even 45 = .ok (.iconst 1, 1) := by decide +kernel
theorem dX11_even_46 : decode cX11_even 46 = .ok (.istore 5, 2) := by decide +kernel
theorem dX11_even_48 : decode cX11_even 48 = .ok (.aload_n 0, 1) := by decide +kernel
theorem dX11_even_49 : decode cX11_even 49 = .ok (.getfield 338, 3) := by decide +kernel
theorem dX11_even_52 : decode cX11_even 52 = .ok (.getfield 317, 3) := by decide +kernel
theorem dX11_even_55 : decode cX11_even 55 = .ok (.iload_n 1, 1) := by decide +kernel
theorem dX11_even_56 : decode cX11_even 56 = .ok (.iaload, 1) := by decide +kernel
theorem dX11_even_57 : decode cX11_even 57 = .ok (.istore 6, 2) := by decide +kernel
theorem dX11_even_59 : decode cX11_even 59 = .ok (.iload 6, 2) := by decide +kernel
theorem dX11_even_61 : decode cX11_even 61 = .ok (.aload_n 0, 1) := by decide +kernel
theorem dX11_even_62 : decode cX11_even 62 = .ok (.getfield 338, 3) := by decide +kernel
theorem dX11_even_65 : decode cX11_even 65 = .ok (.getfield 320, 3) := by decide +kernel
theorem dX11_even_68 : decode cX11_even 68 = .ok (.iload_n 1, 1) := by decide +kernel
theorem dX11_even_69 : decode cX11_even 69 = .ok (.iaload, 1) := by decide +kernel
theorem dX11_even_70 : decode cX11_even 70 = .ok (.if_icmp .ge 49, 3) := by decide +kernel
theorem dX11_even_73 : decode cX11_even 73 = .ok (.iload 5, 2) := by decide +kernel
theorem dX11_even_75 : decode cX11_even 75 = .ok (.ifCond .eq 35, 3) := by decide +kernel
theorem dX11_even_78 : decode cX11_even 78 = .ok (.aload_n 0, 1) := by decide +kernel
theorem dX11_even_79 : decode cX11_even 79 = .ok (.iload_n 1, 1) := by decide +kernel
theorem dX11_even_80 : decode cX11_even 80 = .ok (.iload_n 2, 1) := by decide +kernel
theorem dX11_even_81 : decode cX11_even 81 = .ok (.iload_n 3, 1) := by decide +kernel
theorem dX11_even_82 : decode cX11_even 82 = .ok (.iload 4, 2) := by decide +kernel
theorem dX11_even_84 : decode cX11_even 84 = .ok (.iload 6, 2) := by decide +kernel
theorem dX11_even_86 : decode cX11_even 86 = .ok (.invokevirtual 393, 3) := by decide +kernel
theorem dX11_even_89 : decode cX11_even 89 = .ok (.aload_n 0, 1) := by decide +kernel
theorem dX11_even_90 : decode cX11_even 90 = .ok (.iload_n 1, 1) := by decide +kernel
theorem dX11_even_91 : decode cX11_even 91 = .ok (.iload_n 2, 1) := by decide +kernel
theorem dX11_even_92 : decode cX11_even 92 = .ok (.iload_n 3, 1) := by decide +kernel
theorem dX11_even_93 : decode cX11_even 93 = .ok (.iload 4, 2) := by decide +kernel
theorem dX11_even_95 : decode cX11_even 95 = .ok (.iload 6, 2) := by decide +kernel
theorem dX11_even_97 : decode cX11_even 97 = .ok (.iconst 1, 1) := by decide +kernel
theorem dX11_even_98 : decode cX11_even 98 = .ok (.iadd, 1) := by decide +kernel
theorem dX11_even_99 : decode cX11_even 99 = .ok (.invokevirtual 393, 3) := by decide +kernel
theorem dX11_even_102 : decode cX11_even 102 = .ok (.lcmp, 1) := by decide +kernel
theorem dX11_even_103 : decode cX11_even 103 = .ok (.ifCond .ne 7, 3) := by decide +kernel
theorem dX11_even_106 : decode cX11_even 106 = .ok (.iconst 1, 1) := by decide +kernel
theorem dX11_even_107 : decode cX11_even 107 = .ok (.goto 4, 3) := by decide +kernel
theorem dX11_even_110 : decode cX11_even 110 = .ok (.iconst 0, 1) := by decide +kernel
theorem dX11_even_111 : decode cX11_even 111 = .ok (.istore 5, 2) := by decide +kernel
theorem dX11_even_113 : decode cX11_even 113 = .ok (.iinc 6 1, 3) := by decide +kernel
theorem dX11_even_116 : decode cX11_even 116 = .ok (.goto (-57), 3) := by decide +kernel
theorem dX11_even_119 : decode cX11_even 119 = .ok (.aload_n 0, 1) := by decide +kernel
theorem dX11_even_120 : decode cX11_even 120 = .ok (.iload 5, 2) := by decide +kernel
theorem dX11_even_122 : decode cX11_even 122 = .ok (.ifCond .eq 7, 3) := by decide +kernel
theorem dX11_even_125 : decode cX11_even 125 = .ok (.iconst 1, 1) := by decide +kernel
theorem dX11_even_126 : decode cX11_even 126 = .ok (.goto 4, 3) := by decide +kernel
theorem dX11_even_129 : decode cX11_even 129 = .ok (.iconst 0, 1) := by decide +kernel
theorem dX11_even_130 : decode cX11_even 130 = .ok (.invokevirtual 50, 3) := by decide +kernel
theorem dX11_even_133 : decode cX11_even 133 = .ok (.ireturn, 1) := by decide +kernel
theorem dX11_wetAtBest_0 : decode cX11_wetAtBest 0 = .ok (.aload_n 0, 1) := by decide +kernel
theorem dX11_wetAtBest_1 : decode cX11_wetAtBest 1 = .ok (.iload_n 1, 1) := by decide +kernel
theorem dX11_wetAtBest_2 : decode cX11_wetAtBest 2 = .ok (.iload_n 2, 1) := by decide +kernel
theorem dX11_wetAtBest_3 : decode cX11_wetAtBest 3 = .ok (.iload_n 3, 1) := by decide +kernel
theorem dX11_wetAtBest_4 : decode cX11_wetAtBest 4 = .ok (.iload 4, 2) := by decide +kernel
theorem dX11_wetAtBest_6 : decode cX11_wetAtBest 6 = .ok (.aload_n 0, 1) := by decide +kernel
theorem dX11_wetAtBest_7 : decode cX11_wetAtBest 7 = .ok (.iload_n 1, 1) := by decide +kernel
theorem dX11_wetAtBest_8 : decode cX11_wetAtBest 8 = .ok (.iload_n 2, 1) := by decide +kernel
theorem dX11_wetAtBest_9 : decode cX11_wetAtBest 9 = .ok (.iload_n 3, 1) := by decide +kernel
theorem dX11_wetAtBest_10 : decode cX11_wetAtBest 10 = .ok (.iload 4, 2) := by decide +kernel
theorem dX11_wetAtBest_12 : decode cX11_wetAtBest 12 = .ok (.invokevirtual 405, 3) := by decide +kernel
theorem dX11_wetAtBest_15 : decode cX11_wetAtBest 15 = .ok (.invokevirtual 393, 3) := by decide +kernel
theorem dX11_wetAtBest_18 : decode cX11_wetAtBest 18 = .ok (.lreturn, 1) := by decide +kernel
theorem dX11_round_0 : decode cX11_round 0 = .ok (.aload_n 0, 1) := by decide +kernel
theorem dX11_round_1 : decode cX11_round 1 = .ok (.iconst 0, 1) := by decide +kernel
theorem dX11_round_2 : decode cX11_round 2 = .ok (.putfield 40, 3) := by decide +kernel
theorem dX11_round_5 : decode cX11_round 5 = .ok (.aload_n 0, 1) := by decide +kernel
theorem dX11_round_6 : decode cX11_round 6 = .ok (.iload_n 1, 1) := by decide +kernel
theorem dX11_round_7 : decode cX11_round 7 = .ok (.invokevirtual 346, 3) := by decide +kernel
theorem dX11_round_10 : decode cX11_round 10 = .ok (.ifCond .eq 19, 3) := by decide +kernel
theorem dX11_round_13 : decode cX11_round 13 = .ok (.aload_n 0, 1) := by decide +kernel
theorem dX11_round_14 : decode cX11_round 14 = .ok (.iload_n 2, 1) := by decide +kernel
theorem dX11_round_15 : decode cX11_round 15 = .ok (.invokevirtual 349, 3) := by decide +kernel
theorem dX11_round_18 : decode cX11_round 18 = .ok (.ifCond .eq 11, 3) := by decide +kernel
theorem dX11_round_21 : decode cX11_round 21 = .ok (.aload_n 0, 1) := by decide +kernel
theorem dX11_round_22 : decode cX11_round 22 = .ok (.iload_n 3, 1) := by decide +kernel
theorem dX11_round_23 : decode cX11_round 23 = .ok (.invokevirtual 352, 3) := by decide +kernel
theorem dX11_round_26 : decode cX11_round 26 = .ok (.ifCond .ne 10, 3) := by decide +kernel
theorem dX11_round_29 : decode cX11_round 29 = .ok (.aload_n 0, 1) := by decide +kernel
theorem dX11_round_30 : decode cX11_round 30 = .ok (.iconst 1, 1) := by decide +kernel
theorem dX11_round_31 : decode cX11_round 31 = .ok (.invokevirtual 46, 3) := by decide +kernel
theorem dX11_round_34 : decode cX11_round 34 = .ok (.i2l, 1) := by decide +kernel
theorem dX11_round_35 : decode cX11_round 35 = .ok (.lreturn, 1) := by decide +kernel
theorem dX11_round_36 : decode cX11_round 36 = .ok (.aload_n 0, 1) := by decide +kernel
theorem dX11_round_37 : decode cX11_round 37 = .ok (.aload_n 0, 1) := by decide +kernel
theorem dX11_round_38 : decode cX11_round 38 = .ok (.iload_n 1, 1) := by decide +kernel
theorem dX11_round_39 : decode cX11_round 39 = .ok (.iload_n 2, 1) := by decide +kernel
theorem dX11_round_40 : decode cX11_round 40 = .ok (.iconst 0, 1) := by decide +kernel
theorem dX11_round_41 : decode cX11_round 41 = .ok (.iload_n 3, 1) := by decide +kernel
theorem dX11_round_42 : decode cX11_round 42 = .ok (.invokevirtual 409, 3) := by decide +kernel
theorem dX11_round_45 : decode cX11_round 45 = .ok (.aload_n 0, 1) := by decide +kernel
theorem dX11_round_46 : decode cX11_round 46 = .ok (.iload_n 1, 1) := by decide +kernel
theorem dX11_round_47 : decode cX11_round 47 = .ok (.iload_n 2, 1) := by decide +kernel
theorem dX11_round_48 : decode cX11_round 48 = .ok (.iconst 1, 1) := by decide +kernel
theorem dX11_round_49 : decode cX11_round 49 = .ok (.iload_n 3, 1) := by decide +kernel
theorem dX11_round_50 : decode cX11_round 50 = .ok (.invokevirtual 409, 3) := by decide +kernel
theorem dX11_round_53 : decode cX11_round 53 = .ok (.ladd, 1) := by decide +kernel
theorem dX11_round_54 : decode cX11_round 54 = .ok (.ldc2_w 387, 3) := by decide +kernel
theorem dX11_round_57 : decode cX11_round 57 = .ok (.iload 4, 2) := by decide +kernel
theorem dX11_round_59 : decode cX11_round 59 = .ok (.invokevirtual 389, 3) := by decide +kernel
theorem dX11_round_62 : decode cX11_round 62 = .ok (.lreturn, 1) := by decide +kernel
theorem dX11_driest_0 : decode cX11_driest 0 = .ok (.aload_n 0, 1) := by decide +kernel
theorem dX11_driest_1 : decode cX11_driest 1 = .ok (.iconst 0, 1) := by decide +kernel
theorem dX11_driest_2 : decode cX11_driest 2 = .ok (.putfield 40, 3) := by decide +kernel
theorem dX11_driest_5 : decode cX11_driest 5 = .ok (.aload_n 0, 1) := by decide +kernel
theorem dX11_driest_6 : decode cX11_driest 6 = .ok (.iload_n 1, 1) := by decide +kernel
theorem dX11_driest_7 : decode cX11_driest 7 = .ok (.invokevirtual 346, 3) := by decide +kernel
theorem dX11_driest_10 : decode cX11_driest 10 = .ok (.ifCond .eq 20, 3) := by decide +kernel
theorem dX11_driest_13 : decode cX11_driest 13 = .ok (.aload_n 0, 1) := by decide +kernel
theorem dX11_driest_14 : decode cX11_driest 14 = .ok (.iload_n 2, 1) := by decide +kernel
theorem dX11_driest_15 : decode cX11_driest 15 = .ok (.invokevirtual 349, 3) := by decide +kernel
theorem dX11_driest_18 : decode cX11_driest 18 = .ok (.ifCond .eq 12, 3) := by decide +kernel
theorem dX11_driest_21 : decode cX11_driest 21 = .ok (.iload_n 3, 1) := by decide +kernel
theorem dX11_driest_22 : decode cX11_driest 22 = .ok (.iconst 0, 1) := by decide +kernel
theorem dX11_driest_23 : decode cX11_driest 23 = .ok (.iconst 1, 1) := by decide +kernel
theorem dX11_driest_24 : decode cX11_driest 24 = .ok (.invokestatic 118, 3) := by decide +kernel
theorem dX11_driest_27 : decode cX11_driest 27 = .ok (.ifCond .ne 9, 3) := by decide +kernel
theorem dX11_driest_30 : decode cX11_driest 30 = .ok (.aload_n 0, 1) := by decide +kernel
theorem dX11_driest_31 : decode cX11_driest 31 = .ok (.iconst 1, 1) := by decide +kernel
theorem dX11_driest_32 : decode cX11_driest 32 = .ok (.invokevirtual 46, 3) := by decide +kernel
theorem dX11_driest_35 : decode cX11_driest 35 = .ok (.ireturn, 1) := by decide +kernel
theorem dX11_driest_36 : decode cX11_driest 36 = .ok (.iconst (-1), 1) := by decide +kernel
theorem dX11_driest_37 : decode cX11_driest 37 = .ok (.istore 4, 2) := by decide +kernel
theorem dX11_driest_39 : decode cX11_driest 39 = .ok (.lconst 0, 1) := by decide +kernel
theorem dX11_driest_40 : decode cX11_driest 40 = .ok (.lstore 5, 2) := by decide +kernel
theorem dX11_driest_42 : decode cX11_driest 42 = .ok (.iconst 0, 1) := by decide +kernel
theorem dX11_driest_43 : decode cX11_driest 43 = .ok (.istore 7, 2) := by decide +kernel
theorem dX11_driest_45 : decode cX11_driest 45 = .ok (.iload 7, 2) := by decide +kernel
theorem dX11_driest_47 : decode cX11_driest 47 = .ok (.aload_n 0, 1) := by decide +kernel
theorem dX11_driest_48 : decode cX11_driest 48 = .ok (.getfield 338, 3) := by decide +kernel
theorem dX11_driest_51 : decode cX11_driest 51 = .ok (.getfield 219, 3) := by decide +kernel
theorem dX11_driest_54 : decode cX11_driest 54 = .ok (.if_icmp .ge 57, 3) := by decide +kernel
theorem dX11_driest_57 : decode cX11_driest 57 = .ok (.aload_n 0, 1) := by decide +kernel
theorem dX11_driest_58 : decode cX11_driest 58 = .ok (.iload_n 1, 1) := by decide +kernel
theorem dX11_driest_59 : decode cX11_driest 59 = .ok (.iload_n 2, 1) := by decide +kernel
theorem dX11_driest_60 : decode cX11_driest 60 = .ok (.iload_n 3, 1) := by decide +kernel
theorem dX11_driest_61 : decode cX11_driest 61 = .ok (.iload 7, 2) := by decide +kernel
theorem dX11_driest_63 : decode cX11_driest 63 = .ok (.invokevirtual 409, 3) := by decide +kernel
theorem dX11_driest_66 : decode cX11_driest 66 = .ok (.aload_n 0, 1) := by decide +kernel
theorem dX11_driest_67 : decode cX11_driest 67 = .ok (.getfield 338, 3) := by decide +kernel
theorem dX11_driest_70 : decode cX11_driest 70 = .ok (.getfield 246, 3) := by decide +kernel
theorem dX11_driest_73 : decode cX11_driest 73 = .ok (.iload 7, 2) := by decide +kernel
theorem dX11_driest_75 : decode cX11_driest 75 = .ok (.iaload, 1) := by decide +kernel
theorem dX11_driest_76 : decode cX11_driest 76 = .ok (.i2l, 1) := by decide +kernel
theorem dX11_driest_77 : decode cX11_driest 77 = .ok (.lmul, 1) := by decide +kernel
theorem dX11_driest_78 : decode cX11_driest 78 = .ok (.lstore 8, 2) := by decide +kernel
theorem dX11_driest_80 : decode cX11_driest 80 = .ok (.iload 4, 2) := by decide +kernel
theorem dX11_driest_82 : decode cX11_driest 82 = .ok (.iconst (-1), 1) := by decide +kernel
theorem dX11_driest_83 : decode cX11_driest 83 = .ok (.if_icmp .eq 14, 3) := by decide +kernel
theorem dX11_driest_86 : decode cX11_driest 86 = .ok (.lload 8, 2) := by decide +kernel
theorem dX11_driest_88 : decode cX11_driest 88 = .ok (.lload 5, 2) := by decide +kernel
theorem dX11_driest_90 : decode cX11_driest 90 = .ok (.lcmp, 1) := by decide +kernel
theorem dX11_driest_91 : decode cX11_driest 91 = .ok (.ifCond .lt 6, 3) := by decide +kernel
theorem dX11_driest_94 : decode cX11_driest 94 = .ok (.goto 11, 3) := by decide +kernel
theorem dX11_driest_97 : decode cX11_driest 97 = .ok (.iload 7, 2) := by decide +kernel
theorem dX11_driest_99 : decode cX11_driest 99 = .ok (.istore 4, 2) := by decide +kernel
theorem dX11_driest_101 : decode cX11_driest 101 = .ok (.lload 8, 2) := by decide +kernel
theorem dX11_driest_103 : decode cX11_driest 103 = .ok (.lstore 5, 2) := by decide +kernel
theorem dX11_driest_105 : decode cX11_driest 105 = .ok (.iinc 7 1, 3) := by decide +kernel
theorem dX11_driest_108 : decode cX11_driest 108 = .ok (.goto (-63), 3) := by decide +kernel
theorem dX11_driest_111 : decode cX11_driest 111 = .ok (.iload 4, 2) := by decide +kernel
theorem dX11_driest_113 : decode cX11_driest 113 = .ok (.iconst (-1), 1) := by decide +kernel
theorem dX11_driest_114 : decode cX11_driest 114 = .ok (.if_icmp .ne 12, 3) := by decide +kernel
theorem dX11_driest_117 : decode cX11_driest 117 = .ok (.aload_n 0, 1) := by decide +kernel
theorem dX11_driest_118 : decode cX11_driest 118 = .ok (.bipush 6, 2) := by decide +kernel
theorem dX11_driest_120 : decode cX11_driest 120 = .ok (.invokevirtual 46, 3) := by decide +kernel
theorem dX11_driest_123 : decode cX11_driest 123 = .ok (.goto 9, 3) := by decide +kernel
theorem dX11_driest_126 : decode cX11_driest 126 = .ok (.aload_n 0, 1) := by decide +kernel
theorem dX11_driest_127 : decode cX11_driest 127 = .ok (.iload 4, 2) := by decide +kernel
theorem dX11_driest_129 : decode cX11_driest 129 = .ok (.invokevirtual 50, 3) := by decide +kernel
theorem dX11_driest_132 : decode cX11_driest 132 = .ok (.ireturn, 1) := by decide +kernel
theorem dX11_together_0 : decode cX11_together 0 = .ok (.lconst 0, 1) := by decide +kernel
theorem dX11_together_1 : decode cX11_together 1 = .ok (.lstore 7, 2) := by decide +kernel
theorem dX11_together_3 : decode cX11_together 3 = .ok (.iconst 0, 1) := by decide +kernel
theorem dX11_together_4 : decode cX11_together 4 = .ok (.istore 9, 2) := by decide +kernel
theorem dX11_together_6 : decode cX11_together 6 = .ok (.iload 9, 2) := by decide +kernel
theorem dX11_together_8 : decode cX11_together 8 = .ok (.iconst 5, 1) := by decide +kernel
theorem dX11_together_9 : decode cX11_together 9 = .ok (.if_icmp .ge 69, 3) := by decide +kernel
theorem dX11_together_12 : decode cX11_together 12 = .ok (.lload 7, 2) := by decide +kernel
theorem dX11_together_14 : decode cX11_together 14 = .ok (.aload_n 0, 1) := by decide +kernel
theorem dX11_together_15 : decode cX11_together 15 = .ok (.iload_n 1, 1) := by decide +kernel
theorem dX11_together_16 : decode cX11_together 16 = .ok (.iload_n 3, 1) := by decide +kernel
theorem dX11_together_17 : decode cX11_together 17 = .ok (.iload 4, 2) := by decide +kernel
theorem dX11_together_19 : decode cX11_together 19 = .ok (.iload 5, 2) := by decide +kernel
theorem dX11_together_21 : decode cX11_together 21 = .ok (.iload 6, 2) := by decide +kernel
theorem dX11_together_23 : decode cX11_together 23 = .ok (.iload 9, 2) := by decide +kernel
theorem dX11_together_25 : decode cX11_together 25 = .ok (.iconst 0, 1) := by decide +kernel
theorem dX11_together_26 : decode cX11_together 26 = .ok (.aload_n 0, 1) := by decide +kernel
theorem dX11_together_27 : decode cX11_together 27 = .ok (.getfield 338, 3) := by decide +kernel
theorem dX11_together_30 : decode cX11_together 30 = .ok (.getfield 311, 3) := by decide +kernel
theorem dX11_together_33 : decode cX11_together 33 = .ok (.iload_n 2, 1) := by decide +kernel
theorem dX11_together_34 : decode cX11_together 34 = .ok (.iaload, 1) := by decide +kernel
theorem dX11_together_35 : decode cX11_together 35 = .ok (.invokevirtual 375, 3) := by decide +kernel
theorem dX11_together_38 : decode cX11_together 38 = .ok (.i2l, 1) := by decide +kernel
theorem dX11_together_39 : decode cX11_together 39 = .ok (.ladd, 1) := by decide +kernel
theorem dX11_together_40 : decode cX11_together 40 = .ok (.lstore 7, 2) := by decide +kernel
theorem dX11_together_42 : decode cX11_together 42 = .ok (.lload 7, 2) := by decide +kernel
theorem dX11_together_44 : decode cX11_together 44 = .ok (.aload_n 0, 1) := by decide +kernel
theorem dX11_together_45 : decode cX11_together 45 = .ok (.iload_n 2, 1) := by decide +kernel
theorem dX11_together_46 : decode cX11_together 46 = .ok (.iload_n 3, 1) := by decide +kernel
theorem dX11_together_47 : decode cX11_together 47 = .ok (.iload 4, 2) := by decide +kernel
theorem dX11_together_49 : decode cX11_together 49 = .ok (.iload 5, 2) := by decide +kernel
theorem dX11_together_51 : decode cX11_together 51 = .ok (.iload 6, 2) := by decide +kernel
theorem dX11_together_53 : decode cX11_together 53 = .ok (.iload 9, 2) := by decide +kernel
theorem dX11_together_55 : decode cX11_together 55 = .ok (.aload_n 0, 1) := by decide +kernel
theorem dX11_together_56 : decode cX11_together 56 = .ok (.getfield 338, 3) := by decide +kernel
theorem dX11_together_59 : decode cX11_together 59 = .ok (.getfield 311, 3) := by decide +kernel
theorem dX11_together_62 : decode cX11_together 62 = .ok (.iload_n 1, 1) := by decide +kernel
theorem dX11_together_63 : decode cX11_together 63 = .ok (.iaload, 1) := by decide +kernel
theorem dX11_together_64 : decode cX11_together 64 = .ok (.iconst 0, 1) := by decide +kernel
theorem dX11_together_65 : decode cX11_together 65 = .ok (.invokevirtual 375, 3) := by decide +kernel
theorem dX11_together_68 : decode cX11_together 68 = .ok (.i2l, 1) := by decide +kernel
theorem dX11_together_69 : decode cX11_together 69 = .ok (.ladd, 1) := by decide +kernel
theorem dX11_together_70 : decode cX11_together 70 = .ok (.lstore 7, 2) := by decide +kernel
theorem dX11_together_72 : decode cX11_together 72 = .ok (.iinc 9 1, 3) := by decide +kernel
theorem dX11_together_75 : decode cX11_together 75 = .ok (.goto (-69), 3) := by decide +kernel
theorem dX11_together_78 : decode cX11_together 78 = .ok (.lload 7, 2) := by decide +kernel
theorem dX11_together_80 : decode cX11_together 80 = .ok (.aload_n 0, 1) := by decide +kernel
theorem dX11_together_81 : decode cX11_together 81 = .ok (.getfield 338, 3) := by decide +kernel
theorem dX11_together_84 : decode cX11_together 84 = .ok (.getfield 279, 3) := by decide +kernel
theorem dX11_together_87 : decode cX11_together 87 = .ok (.iload_n 3, 1) := by decide +kernel
theorem dX11_together_88 : decode cX11_together 88 = .ok (.iaload, 1) := by decide +kernel
theorem dX11_together_89 : decode cX11_together 89 = .ok (.aload_n 0, 1) := by decide +kernel
theorem dX11_together_90 : decode cX11_together 90 = .ok (.getfield 338, 3) := by decide +kernel
theorem dX11_together_93 : decode cX11_together 93 = .ok (.getfield 282, 3) := by decide +kernel
theorem dX11_together_96 : decode cX11_together 96 = .ok (.iload_n 3, 1) := by decide +kernel
theorem dX11_together_97 : decode cX11_together 97 = .ok (.iaload, 1) := by decide +kernel
theorem dX11_together_98 : decode cX11_together 98 = .ok (.isub, 1) := by decide +kernel
theorem dX11_together_99 : decode cX11_together 99 = .ok (.i2l, 1) := by decide +kernel
theorem dX11_together_100 : decode cX11_together 100 = .ok (.lmul, 1) := by decide +kernel
theorem dX11_together_101 : decode cX11_together 101 = .ok (.sipush 2520, 3) := by decide +kernel
theorem dX11_together_104 : decode cX11_together 104 = .ok (.iload 6, 2) := by decide +kernel
theorem dX11_together_106 : decode cX11_together 106 = .ok (.idiv, 1) := by decide +kernel
theorem dX11_together_107 : decode cX11_together 107 = .ok (.i2l, 1) := by decide +kernel
theorem dX11_together_108 : decode cX11_together 108 = .ok (.lmul, 1) := by decide +kernel
theorem dX11_together_109 : decode cX11_together 109 = .ok (.lreturn, 1) := by decide +kernel
theorem dX11_refusesTwo_0 : decode cX11_refusesTwo 0 = .ok (.iload_n 1, 1) := by decide +kernel
theorem dX11_refusesTwo_1 : decode cX11_refusesTwo 1 = .ok (.iload_n 2, 1) := by decide +kernel
theorem dX11_refusesTwo_2 : decode cX11_refusesTwo 2 = .ok (.if_icmp .eq 11, 3) := by decide +kernel
theorem dX11_refusesTwo_5 : decode cX11_refusesTwo 5 = .ok (.aload_n 0, 1) := by decide +kernel
theorem dX11_refusesTwo_6 : decode cX11_refusesTwo 6 = .ok (.iload_n 2, 1) := by decide +kernel
theorem dX11_refusesTwo_7 : decode cX11_refusesTwo 7 = .ok (.invokevirtual 346, 3) := by decide +kernel
theorem dX11_refusesTwo_10 : decode cX11_refusesTwo 10 = .ok (.ifCond .ne 5, 3) := by decide +kernel
theorem dX11_refusesTwo_13 : decode cX11_refusesTwo 13 = .ok (.iconst 1, 1) := by decide +kernel
theorem dX11_refusesTwo_14 : decode cX11_refusesTwo 14 = .ok (.ireturn, 1) := by decide +kernel
theorem dX11_refusesTwo_15 : decode cX11_refusesTwo 15 = .ok (.aload_n 0, 1) := by decide +kernel
theorem dX11_refusesTwo_16 : decode cX11_refusesTwo 16 = .ok (.iload_n 1, 1) := by decide +kernel
theorem dX11_refusesTwo_17 : decode cX11_refusesTwo 17 = .ok (.iload_n 3, 1) := by decide +kernel
theorem dX11_refusesTwo_18 : decode cX11_refusesTwo 18 = .ok (.iload 4, 2) := by decide +kernel
theorem dX11_refusesTwo_20 : decode cX11_refusesTwo 20 = .ok (.iload 5, 2) := by decide +kernel
theorem dX11_refusesTwo_22 : decode cX11_refusesTwo 22 = .ok (.iload 6, 2) := by decide +kernel
theorem dX11_refusesTwo_24 : decode cX11_refusesTwo 24 = .ok (.invokevirtual 383, 3) := by decide +kernel
theorem dX11_refusesTwo_27 : decode cX11_refusesTwo 27 = .ok (.istore 7, 2) := by decide +kernel
theorem dX11_refusesTwo_29 : decode cX11_refusesTwo 29 = .ok (.iload 7, 2) := by decide +kernel
theorem dX11_refusesTwo_31 : decode cX11_refusesTwo 31 = .ok (.ifCond .le 8, 3) := by decide +kernel
theorem dX11_refusesTwo_34 : decode cX11_refusesTwo 34 = .ok (.iload 7, 2) := by decide +kernel
theorem dX11_refusesTwo_36 : decode cX11_refusesTwo 36 = .ok (.goto 18, 3) := by decide +kernel
theorem dX11_refusesTwo_39 : decode cX11_refusesTwo 39 = .ok (.aload_n 0, 1) := by decide +kernel
theorem dX11_refusesTwo_40 : decode cX11_refusesTwo 40 = .ok (.iload_n 2, 1) := by decide +kernel
theorem dX11_refusesTwo_41 : decode cX11_refusesTwo 41 = .ok (.iload 6, 2) := by decide +kernel
theorem dX11_refusesTwo_43 : decode cX11_refusesTwo 43 = .ok (.invokevirtual 355, 3) := by decide +kernel
theorem dX11_refusesTwo_46 : decode cX11_refusesTwo 46 = .ok (.ifCond .eq 7, 3) := by decide +kernel
theorem dX11_refusesTwo_49 : decode cX11_refusesTwo 49 = .ok (.iconst 0, 1) := by decide +kernel
theorem dX11_refusesTwo_50 : decode cX11_refusesTwo 50 = .ok (.goto 4, 3) := by decide +kernel
theorem dX11_refusesTwo_53 : decode cX11_refusesTwo 53 = .ok (.iconst 2, 1) := by decide +kernel
theorem dX11_refusesTwo_54 : decode cX11_refusesTwo 54 = .ok (.ireturn, 1) := by decide +kernel
theorem dX11_lee_0 : decode cX11_lee 0 = .ok (.aload_n 0, 1) := by decide +kernel
theorem dX11_lee_1 : decode cX11_lee 1 = .ok (.iconst 0, 1) := by decide +kernel
theorem dX11_lee_2 : decode cX11_lee 2 = .ok (.putfield 40, 3) := by decide +kernel
theorem dX11_lee_5 : decode cX11_lee 5 = .ok (.aload_n 0, 1) := by decide +kernel
theorem dX11_lee_6 : decode cX11_lee 6 = .ok (.iload_n 1, 1) := by decide +kernel
theorem dX11_lee_7 : decode cX11_lee 7 = .ok (.iload_n 2, 1) := by decide +kernel
theorem dX11_lee_8 : decode cX11_lee 8 = .ok (.iload_n 3, 1) := by decide +kernel
theorem dX11_lee_9 : decode cX11_lee 9 = .ok (.iload 4, 2) := by decide +kernel
theorem dX11_lee_11 : decode cX11_lee 11 = .ok (.iload 5, 2) := by decide +kernel
theorem dX11_lee_13 : decode cX11_lee 13 = .ok (.iload 6, 2) := by decide +kernel
theorem dX11_lee_15 : decode cX11_lee 15 = .ok (.invokevirtual 413, 3) := by decide +kernel
theorem dX11_lee_18 : decode cX11_lee 18 = .ok (.istore 8, 2) := by decide +kernel
theorem dX11_lee_20 : decode cX11_lee 20 = .ok (.iload 8, 2) := by decide +kernel
theorem dX11_lee_22 : decode cX11_lee 22 = .ok (.ifCond .le 13, 3) := by decide +kernel
theorem dX11_lee_25 : decode cX11_lee 25 = .ok (.aload_n 0, 1) := by decide +kernel
theorem dX11_lee_26 : decode cX11_lee 26 = .ok (.iload 8, 2) := by decide +kernel
theorem dX11_lee_28 : decode cX11_lee 28 = .ok (.invokevirtual 46, 3) := by decide +kernel
theorem dX11_lee_31 : decode cX11_lee 31 = .ok (.i2l, 1) := by decide +kernel
theorem dX11_lee_32 : decode cX11_lee 32 = .ok (.goto 25, 3) := by decide +kernel
theorem dX11_lee_35 : decode cX11_lee 35 = .ok (.aload_n 0, 1) := by decide +kernel
theorem dX11_lee_36 : decode cX11_lee 36 = .ok (.aload_n 0, 1) := by decide +kernel
theorem dX11_lee_37 : decode cX11_lee 37 = .ok (.iload_n 1, 1) := by decide +kernel
theorem dX11_lee_38 : decode cX11_lee 38 = .ok (.iload_n 2, 1) := by decide +kernel
theorem dX11_lee_39 : decode cX11_lee 39 = .ok (.iload_n 3, 1) := by decide +kernel
theorem dX11_lee_40 : decode cX11_lee 40 = .ok (.iload 4, 2) := by decide +kernel
theorem dX11_lee_42 : decode cX11_lee 42 = .ok (.iload 5, 2) := by decide +kernel
theorem dX11_lee_44 : decode cX11_lee 44 = .ok (.iload 6, 2) := by decide +kernel
theorem dX11_lee_46 : decode cX11_lee 46 = .ok (.invokevirtual 417, 3) := by decide +kernel
theorem dX11_lee_49 : decode cX11_lee 49 = .ok (.ldc2_w 387, 3) := by decide +kernel
theorem dX11_lee_52 : decode cX11_lee 52 = .ok (.iload 7, 2) := by decide +kernel
theorem dX11_lee_54 : decode cX11_lee 54 = .ok (.invokevirtual 389, 3) := by decide +kernel
theorem dX11_lee_57 : decode cX11_lee 57 = .ok (.lreturn, 1) := by decide +kernel
theorem dX11_first_0 : decode cX11_first 0 = .ok (.aload_n 0, 1) := by decide +kernel
theorem dX11_first_1 : decode cX11_first 1 = .ok (.iconst 0, 1) := by decide +kernel
theorem dX11_first_2 : decode cX11_first 2 = .ok (.putfield 40, 3) := by decide +kernel
theorem dX11_first_5 : decode cX11_first 5 = .ok (.aload_n 0, 1) := by decide +kernel
theorem dX11_first_6 : decode cX11_first 6 = .ok (.iload_n 1, 1) := by decide +kernel
theorem dX11_first_7 : decode cX11_first 7 = .ok (.iload_n 2, 1) := by decide +kernel
theorem dX11_first_8 : decode cX11_first 8 = .ok (.iload_n 3, 1) := by decide +kernel
theorem dX11_first_9 : decode cX11_first 9 = .ok (.iload 4, 2) := by decide +kernel
theorem dX11_first_11 : decode cX11_first 11 = .ok (.iload 5, 2) := by decide +kernel
theorem dX11_first_13 : decode cX11_first 13 = .ok (.iload 6, 2) := by decide +kernel
theorem dX11_first_15 : decode cX11_first 15 = .ok (.invokevirtual 413, 3) := by decide +kernel
theorem dX11_first_18 : decode cX11_first 18 = .ok (.istore 7, 2) := by decide +kernel
theorem dX11_first_20 : decode cX11_first 20 = .ok (.iload 7, 2) := by decide +kernel
theorem dX11_first_22 : decode cX11_first 22 = .ok (.ifCond .le 10, 3) := by decide +kernel
theorem dX11_first_25 : decode cX11_first 25 = .ok (.aload_n 0, 1) := by decide +kernel
theorem dX11_first_26 : decode cX11_first 26 = .ok (.iload 7, 2) := by decide +kernel
theorem dX11_first_28 : decode cX11_first 28 = .ok (.invokevirtual 46, 3) := by decide +kernel
theorem dX11_first_31 : decode cX11_first 31 = .ok (.ireturn, 1) := by decide +kernel
theorem dX11_first_32 : decode cX11_first 32 = .ok (.aload_n 0, 1) := by decide +kernel
theorem dX11_first_33 : decode cX11_first 33 = .ok (.iload_n 1, 1) := by decide +kernel
theorem dX11_first_34 : decode cX11_first 34 = .ok (.iload_n 2, 1) := by decide +kernel
theorem dX11_first_35 : decode cX11_first 35 = .ok (.iload_n 3, 1) := by decide +kernel
theorem dX11_first_36 : decode cX11_first 36 = .ok (.iload 4, 2) := by decide +kernel
theorem dX11_first_38 : decode cX11_first 38 = .ok (.iload 5, 2) := by decide +kernel
theorem dX11_first_40 : decode cX11_first 40 = .ok (.iload 6, 2) := by decide +kernel
theorem dX11_first_42 : decode cX11_first 42 = .ok (.invokevirtual 417, 3) := by decide +kernel
theorem dX11_first_45 : decode cX11_first 45 = .ok (.lstore 8, 2) := by decide +kernel
theorem dX11_first_47 : decode cX11_first 47 = .ok (.aload_n 0, 1) := by decide +kernel
theorem dX11_first_48 : decode cX11_first 48 = .ok (.iload_n 2, 1) := by decide +kernel
theorem dX11_first_49 : decode cX11_first 49 = .ok (.iload_n 1, 1) := by decide +kernel
theorem dX11_first_50 : decode cX11_first 50 = .ok (.iload_n 3, 1) := by decide +kernel
theorem dX11_first_51 : decode cX11_first 51 = .ok (.iload 4, 2) := by decide +kernel
theorem dX11_first_53 : decode cX11_first 53 = .ok (.iload 5, 2) := by decide +kernel
theorem dX11_first_55 : decode cX11_first 55 = .ok (.iload 6, 2) := by decide +kernel
theorem dX11_first_57 : decode cX11_first 57 = .ok (.invokevirtual 417, 3) := by decide +kernel
theorem dX11_first_60 : decode cX11_first 60 = .ok (.lstore 10, 2) := by decide +kernel
theorem dX11_first_62 : decode cX11_first 62 = .ok (.aload_n 0, 1) := by decide +kernel
theorem dX11_first_63 : decode cX11_first 63 = .ok (.lload 8, 2) := by decide +kernel
theorem dX11_first_65 : decode cX11_first 65 = .ok (.lload 10, 2) := by decide +kernel
theorem dX11_first_67 : decode cX11_first 67 = .ok (.lcmp, 1) := by decide +kernel
theorem dX11_first_68 : decode cX11_first 68 = .ok (.ifCond .ge 7, 3) := by decide +kernel
theorem dX11_first_71 : decode cX11_first 71 = .ok (.iconst 0, 1) := by decide +kernel
theorem dX11_first_72 : decode cX11_first 72 = .ok (.goto 17, 3) := by decide +kernel
theorem dX11_first_75 : decode cX11_first 75 = .ok (.lload 10, 2) := by decide +kernel
theorem dX11_first_77 : decode cX11_first 77 = .ok (.lload 8, 2) := by decide +kernel
theorem dX11_first_79 : decode cX11_first 79 = .ok (.lcmp, 1) := by decide +kernel
theorem dX11_first_80 : decode cX11_first 80 = .ok (.ifCond .ge 7, 3) := by decide +kernel
theorem dX11_first_83 : decode cX11_first 83 = .ok (.iconst 1, 1) := by decide +kernel
theorem dX11_first_84 : decode cX11_first 84 = .ok (.goto 5, 3) := by decide +kernel
theorem dX11_first_87 : decode cX11_first 87 = .ok (.bipush (-2), 2) := by decide +kernel
theorem dX11_first_89 : decode cX11_first 89 = .ok (.invokevirtual 50, 3) := by decide +kernel
theorem dX11_first_92 : decode cX11_first 92 = .ok (.ireturn, 1) := by decide +kernel
theorem dX11_spotOf_0 : decode cX11_spotOf 0 = .ok (.bipush 8, 2) := by decide +kernel
theorem dX11_spotOf_2 : decode cX11_spotOf 2 = .ok (.iload_n 1, 1) := by decide +kernel
theorem dX11_spotOf_3 : decode cX11_spotOf 3 = .ok (.imul, 1) := by decide +kernel
theorem dX11_spotOf_4 : decode cX11_spotOf 4 = .ok (.iload_n 0, 1) := by decide +kernel
theorem dX11_spotOf_5 : decode cX11_spotOf 5 = .ok (.iadd, 1) := by decide +kernel
theorem dX11_spotOf_6 : decode cX11_spotOf 6 = .ok (.ireturn, 1) := by decide +kernel
theorem dX11_hourOf_0 : decode cX11_hourOf 0 = .ok (.iload_n 1, 1) := by decide +kernel
theorem dX11_hourOf_1 : decode cX11_hourOf 1 = .ok (.aload_n 0, 1) := by decide +kernel
theorem dX11_hourOf_2 : decode cX11_hourOf 2 = .ok (.getfield 338, 3) := by decide +kernel
theorem dX11_hourOf_5 : decode cX11_hourOf 5 = .ok (.getfield 151, 3) := by decide +kernel
theorem dX11_hourOf_8 : decode cX11_hourOf 8 = .ok (.idiv, 1) := by decide +kernel
theorem dX11_hourOf_9 : decode cX11_hourOf 9 = .ok (.ireturn, 1) := by decide +kernel
theorem dX11_meanOf_0 : decode cX11_meanOf 0 = .ok (.aload_n 0, 1) := by decide +kernel
theorem dX11_meanOf_1 : decode cX11_meanOf 1 = .ok (.iload 4, 2) := by decide +kernel
theorem dX11_meanOf_3 : decode cX11_meanOf 3 = .ok (.invokevirtual 420, 3) := by decide +kernel
theorem dX11_meanOf_6 : decode cX11_meanOf 6 = .ok (.istore 6, 2) := by decide +kernel
theorem dX11_meanOf_8 : decode cX11_meanOf 8 = .ok (.iload 6, 2) := by decide +kernel
theorem dX11_meanOf_10 : decode cX11_meanOf 10 = .ok (.aload_n 0, 1) := by decide +kernel
theorem dX11_meanOf_11 : decode cX11_meanOf 11 = .ok (.getfield 338, 3) := by decide +kernel
theorem dX11_meanOf_14 : decode cX11_meanOf 14 = .ok (.getfield 219, 3) := by decide +kernel
theorem dX11_meanOf_17 : decode cX11_meanOf 17 = .ok (.if_icmp .ge 29, 3) := by decide +kernel
theorem dX11_meanOf_20 : decode cX11_meanOf 20 = .ok (.aload_n 0, 1) := by decide +kernel
theorem dX11_meanOf_21 : decode cX11_meanOf 21 = .ok (.iload_n 1, 1) := by decide +kernel
theorem dX11_meanOf_22 : decode cX11_meanOf 22 = .ok (.iload_n 2, 1) := by decide +kernel
theorem dX11_meanOf_23 : decode cX11_meanOf 23 = .ok (.iload_n 3, 1) := by decide +kernel
theorem dX11_meanOf_24 : decode cX11_meanOf 24 = .ok (.iload 6, 2) := by decide +kernel
theorem dX11_meanOf_26 : decode cX11_meanOf 26 = .ok (.iload 5, 2) := by decide +kernel
theorem dX11_meanOf_28 : decode cX11_meanOf 28 = .ok (.invokevirtual 393, 3) := by decide +kernel
theorem dX11_meanOf_31 : decode cX11_meanOf 31 = .ok (.aload_n 0, 1) := by decide +kernel
theorem dX11_meanOf_32 : decode cX11_meanOf 32 = .ok (.getfield 338, 3) := by decide +kernel
theorem dX11_meanOf_35 : decode cX11_meanOf 35 = .ok (.getfield 246, 3) := by decide +kernel
theorem dX11_meanOf_38 : decode cX11_meanOf 38 = .ok (.iload 6, 2) := by decide +kernel
theorem dX11_meanOf_40 : decode cX11_meanOf 40 = .ok (.iaload, 1) := by decide +kernel
theorem dX11_meanOf_41 : decode cX11_meanOf 41 = .ok (.i2l, 1) := by decide +kernel
theorem dX11_meanOf_42 : decode cX11_meanOf 42 = .ok (.lmul, 1) := by decide +kernel
theorem dX11_meanOf_43 : decode cX11_meanOf 43 = .ok (.goto 4, 3) := by decide +kernel
theorem dX11_meanOf_46 : decode cX11_meanOf 46 = .ok (.lconst 0, 1) := by decide +kernel
theorem dX11_meanOf_47 : decode cX11_meanOf 47 = .ok (.lreturn, 1) := by decide +kernel
theorem dX11_drips_0 : decode cX11_drips 0 = .ok (.aload_n 0, 1) := by decide +kernel
theorem dX11_drips_1 : decode cX11_drips 1 = .ok (.getfield 338, 3) := by decide +kernel
theorem dX11_drips_4 : decode cX11_drips 4 = .ok (.getfield 262, 3) := by decide +kernel
theorem dX11_drips_7 : decode cX11_drips 7 = .ok (.iload_n 2, 1) := by decide +kernel
theorem dX11_drips_8 : decode cX11_drips 8 = .ok (.iaload, 1) := by decide +kernel
theorem dX11_drips_9 : decode cX11_drips 9 = .ok (.i2l, 1) := by decide +kernel
theorem dX11_drips_10 : decode cX11_drips 10 = .ok (.aload_n 0, 1) := by decide +kernel
theorem dX11_drips_11 : decode cX11_drips 11 = .ok (.getfield 338, 3) := by decide +kernel
theorem dX11_drips_14 : decode cX11_drips 14 = .ok (.getfield 308, 3) := by decide +kernel
theorem dX11_drips_17 : decode cX11_drips 17 = .ok (.iload_n 1, 1) := by decide +kernel
theorem dX11_drips_18 : decode cX11_drips 18 = .ok (.iaload, 1) := by decide +kernel
theorem dX11_drips_19 : decode cX11_drips 19 = .ok (.aload_n 0, 1) := by decide +kernel
theorem dX11_drips_20 : decode cX11_drips 20 = .ok (.getfield 338, 3) := by decide +kernel
theorem dX11_drips_23 : decode cX11_drips 23 = .ok (.iload_n 1, 1) := by decide +kernel
theorem dX11_drips_24 : decode cX11_drips 24 = .ok (.invokevirtual 359, 3) := by decide +kernel
theorem dX11_drips_27 : decode cX11_drips 27 = .ok (.invokestatic 372, 3) := by decide +kernel
theorem dX11_drips_30 : decode cX11_drips 30 = .ok (.i2l, 1) := by decide +kernel
theorem dX11_drips_31 : decode cX11_drips 31 = .ok (.lmul, 1) := by decide +kernel
theorem dX11_drips_32 : decode cX11_drips 32 = .ok (.ldc2_w 387, 3) := by decide +kernel
theorem dX11_drips_35 : decode cX11_drips 35 = .ok (.lmul, 1) := by decide +kernel
theorem dX11_drips_36 : decode cX11_drips 36 = .ok (.lreturn, 1) := by decide +kernel
theorem dX11_canWait_0 : decode cX11_canWait 0 = .ok (.aload_n 0, 1) := by decide +kernel
theorem dX11_canWait_1 : decode cX11_canWait 1 = .ok (.getfield 338, 3) := by decide +kernel
theorem dX11_canWait_4 : decode cX11_canWait 4 = .ok (.getfield 258, 3) := by decide +kernel
theorem dX11_canWait_7 : decode cX11_canWait 7 = .ok (.iload_n 1, 1) := by decide +kernel
theorem dX11_canWait_8 : decode cX11_canWait 8 = .ok (.baload, 1) := by decide +kernel
theorem dX11_canWait_9 : decode cX11_canWait 9 = .ok (.ifCond .ne 17, 3) := by decide +kernel
theorem dX11_canWait_12 : decode cX11_canWait 12 = .ok (.aload_n 0, 1) := by decide +kernel
theorem dX11_canWait_13 : decode cX11_canWait 13 = .ok (.getfield 338, 3) := by decide +kernel
theorem dX11_canWait_16 : decode cX11_canWait 16 = .ok (.getfield 262, 3) := by decide +kernel
theorem dX11_canWait_19 : decode cX11_canWait 19 = .ok (.iload_n 1, 1) := by decide +kernel
theorem dX11_canWait_20 : decode cX11_canWait 20 = .ok (.iaload, 1) := by decide +kernel
theorem dX11_canWait_21 : decode cX11_canWait 21 = .ok (.bipush (-2), 2) := by decide +kernel
theorem dX11_canWait_23 : decode cX11_canWait 23 = .ok (.if_icmp .eq 7, 3) := by decide +kernel
theorem dX11_canWait_26 : decode cX11_canWait 26 = .ok (.iconst 1, 1) := by decide +kernel
theorem dX11_canWait_27 : decode cX11_canWait 27 = .ok (.goto 4, 3) := by decide +kernel
theorem dX11_canWait_30 : decode cX11_canWait 30 = .ok (.iconst 0, 1) := by decide +kernel
theorem dX11_canWait_31 : decode cX11_canWait 31 = .ok (.ireturn, 1) := by decide +kernel
theorem dX11_waitsOf_0 : decode cX11_waitsOf 0 = .ok (.aload_n 0, 1) := by decide +kernel
theorem dX11_waitsOf_1 : decode cX11_waitsOf 1 = .ok (.iload_n 3, 1) := by decide +kernel
theorem dX11_waitsOf_2 : decode cX11_waitsOf 2 = .ok (.invokevirtual 420, 3) := by decide +kernel
theorem dX11_waitsOf_5 : decode cX11_waitsOf 5 = .ok (.istore 4, 2) := by decide +kernel
theorem dX11_waitsOf_7 : decode cX11_waitsOf 7 = .ok (.aload_n 0, 1) := by decide +kernel
theorem dX11_waitsOf_8 : decode cX11_waitsOf 8 = .ok (.getfield 338, 3) := by decide +kernel
theorem dX11_waitsOf_11 : decode cX11_waitsOf 11 = .ok (.getfield 258, 3) := by decide +kernel
theorem dX11_waitsOf_14 : decode cX11_waitsOf 14 = .ok (.iload_n 2, 1) := by decide +kernel
theorem dX11_waitsOf_15 : decode cX11_waitsOf 15 = .ok (.baload, 1) := by decide +kernel
theorem dX11_waitsOf_16 : decode cX11_waitsOf 16 = .ok (.ifCond .ne 15, 3) := by decide +kernel
theorem dX11_waitsOf_19 : decode cX11_waitsOf 19 = .ok (.iload 4, 2) := by decide +kernel
theorem dX11_waitsOf_21 : decode cX11_waitsOf 21 = .ok (.aload_n 0, 1) := by decide +kernel
theorem dX11_waitsOf_22 : decode cX11_waitsOf 22 = .ok (.getfield 338, 3) := by decide +kernel
theorem dX11_waitsOf_25 : decode cX11_waitsOf 25 = .ok (.getfield 219, 3) := by decide +kernel
theorem dX11_waitsOf_28 : decode cX11_waitsOf 28 = .ok (.if_icmp .lt 7, 3) := by decide +kernel
theorem dX11_waitsOf_31 : decode cX11_waitsOf 31 = .ok (.lconst 0, 1) := by decide +kernel
theorem dX11_waitsOf_32 : decode cX11_waitsOf 32 = .ok (.goto 21, 3) := by decide +kernel
theorem dX11_waitsOf_35 : decode cX11_waitsOf 35 = .ok (.aload_n 0, 1) := by decide +kernel
theorem dX11_waitsOf_36 : decode cX11_waitsOf 36 = .ok (.iload_n 1, 1) := by decide +kernel
theorem dX11_waitsOf_37 : decode cX11_waitsOf 37 = .ok (.iload_n 2, 1) := by decide +kernel
theorem dX11_waitsOf_38 : decode cX11_waitsOf 38 = .ok (.invokevirtual 423, 3) := by decide +kernel
theorem dX11_waitsOf_41 : decode cX11_waitsOf 41 = .ok (.aload_n 0, 1) := by decide +kernel
theorem dX11_waitsOf_42 : decode cX11_waitsOf 42 = .ok (.getfield 338, 3) := by decide +kernel
theorem dX11_waitsOf_45 : decode cX11_waitsOf 45 = .ok (.getfield 246, 3) := by decide +kernel
theorem dX11_waitsOf_48 : decode cX11_waitsOf 48 = .ok (.iload 4, 2) := by decide +kernel
theorem dX11_waitsOf_50 : decode cX11_waitsOf 50 = .ok (.iaload, 1) := by decide +kernel
theorem dX11_waitsOf_51 : decode cX11_waitsOf 51 = .ok (.i2l, 1) := by decide +kernel
theorem dX11_waitsOf_52 : decode cX11_waitsOf 52 = .ok (.lmul, 1) := by decide +kernel
theorem dX11_waitsOf_53 : decode cX11_waitsOf 53 = .ok (.lreturn, 1) := by decide +kernel
theorem dX11_laysWays_0 : decode cX11_laysWays 0 = .ok (.iload_n 3, 1) := by decide +kernel
theorem dX11_laysWays_1 : decode cX11_laysWays 1 = .ok (.istore 4, 2) := by decide +kernel
theorem dX11_laysWays_3 : decode cX11_laysWays 3 = .ok (.iload 4, 2) := by decide +kernel
theorem dX11_laysWays_5 : decode cX11_laysWays 5 = .ok (.ifCond .lt 92, 3) := by decide +kernel
theorem dX11_laysWays_8 : decode cX11_laysWays 8 = .ok (.iconst 0, 1) := by decide +kernel
theorem dX11_laysWays_9 : decode cX11_laysWays 9 = .ok (.istore 5, 2) := by decide +kernel
theorem dX11_laysWays_11 : decode cX11_laysWays 11 = .ok (.iload 5, 2) := by decide +kernel
theorem dX11_laysWays_13 : decode cX11_laysWays 13 = .ok (.aload_n 0, 1) := by decide +kernel
theorem dX11_laysWays_14 : decode cX11_laysWays 14 = .ok (.getfield 338, 3) := by decide +kernel
theorem dX11_laysWays_17 : decode cX11_laysWays 17 = .ok (.getfield 190, 3) := by decide +kernel
theorem dX11_laysWays_20 : decode cX11_laysWays 20 = .ok (.if_icmp .ge 71, 3) := by decide +kernel
theorem dX11_laysWays_23 : decode cX11_laysWays 23 = .ok (.iload 5, 2) := by decide +kernel
theorem dX11_laysWays_25 : decode cX11_laysWays 25 = .ok (.iload 4, 2) := by decide +kernel
theorem dX11_laysWays_27 : decode cX11_laysWays 27 = .ok (.invokestatic 427, 3) := by decide +kernel
theorem dX11_laysWays_30 : decode cX11_laysWays 30 = .ok (.istore 6, 2) := by decide +kernel
theorem dX11_laysWays_32 : decode cX11_laysWays 32 = .ok (.aload_n 0, 1) := by decide +kernel
theorem dX11_laysWays_33 : decode cX11_laysWays 33 = .ok (.getfield 17, 3) := by decide +kernel
theorem dX11_laysWays_36 : decode cX11_laysWays 36 = .ok (.iload 6, 2) := by decide +kernel
theorem dX11_laysWays_38 : decode cX11_laysWays 38 = .ok (.iload 5, 2) := by decide +kernel
theorem dX11_laysWays_40 : decode cX11_laysWays 40 = .ok (.iload_n 2, 1) := by decide +kernel
theorem dX11_laysWays_41 : decode cX11_laysWays 41 = .ok (.if_icmp .ne 7, 3) := by decide +kernel
theorem dX11_laysWays_44 : decode cX11_laysWays 44 = .ok (.lconst 0, 1) := by decide +kernel
theorem dX11_laysWays_45 : decode cX11_laysWays 45 = .ok (.goto 6, 3) := by decide +kernel
theorem dX11_laysWays_48 : decode cX11_laysWays 48 = .ok (.ldc2_w 430, 3) := by decide +kernel
theorem dX11_laysWays_51 : decode cX11_laysWays 51 = .ok (.lastore, 1) := by decide +kernel
theorem dX11_laysWays_52 : decode cX11_laysWays 52 = .ok (.aload_n 0, 1) := by decide +kernel
theorem dX11_laysWays_53 : decode cX11_laysWays 53 = .ok (.getfield 21, 3) := by decide +kernel
theorem dX11_laysWays_56 : decode cX11_laysWays 56 = .ok (.iload 6, 2) := by decide +kernel
theorem dX11_laysWays_58 : decode cX11_laysWays 58 = .ok (.iload 4, 2) := by decide +kernel
theorem dX11_laysWays_60 : decode cX11_laysWays 60 = .ok (.iastore, 1) := by decide +kernel
theorem dX11_laysWays_61 : decode cX11_laysWays 61 = .ok (.aload_n 0, 1) := by decide +kernel
theorem dX11_laysWays_62 : decode cX11_laysWays 62 = .ok (.getfield 25, 3) := by decide +kernel
theorem dX11_laysWays_65 : decode cX11_laysWays 65 = .ok (.iload 6, 2) := by decide +kernel
theorem dX11_laysWays_67 : decode cX11_laysWays 67 = .ok (.iconst (-1), 1) := by decide +kernel
theorem dX11_laysWays_68 : decode cX11_laysWays 68 = .ok (.iastore, 1) := by decide +kernel
theorem dX11_laysWays_69 : decode cX11_laysWays 69 = .ok (.iload 5, 2) := by decide +kernel
theorem dX11_laysWays_71 : decode cX11_laysWays 71 = .ok (.iload_n 2, 1) := by decide +kernel
theorem dX11_laysWays_72 : decode cX11_laysWays 72 = .ok (.if_icmp .eq 13, 3) := by decide +kernel
theorem dX11_laysWays_75 : decode cX11_laysWays 75 = .ok (.aload_n 0, 1) := by decide +kernel
theorem dX11_laysWays_76 : decode cX11_laysWays 76 = .ok (.iload_n 1, 1) := by decide +kernel
theorem dX11_laysWays_77 : decode cX11_laysWays 77 = .ok (.iload 5, 2) := by decide +kernel
theorem dX11_laysWays_79 : decode cX11_laysWays 79 = .ok (.iload 4, 2) := by decide +kernel
theorem dX11_laysWays_81 : decode cX11_laysWays 81 = .ok (.iload_n 3, 1) := by decide +kernel
theorem dX11_laysWays_82 : decode cX11_laysWays 82 = .ok (.invokevirtual 432, 3) := by decide +kernel
theorem dX11_laysWays_85 : decode cX11_laysWays 85 = .ok (.iinc 5 1, 3) := by decide +kernel
theorem dX11_laysWays_88 : decode cX11_laysWays 88 = .ok (.goto (-77), 3) := by decide +kernel
theorem dX11_laysWays_91 : decode cX11_laysWays 91 = .ok (.iinc 4 (-1), 3) := by decide +kernel
theorem dX11_laysWays_94 : decode cX11_laysWays 94 = .ok (.goto (-91), 3) := by decide +kernel
theorem dX11_laysWays_97 : decode cX11_laysWays 97 = .ok (.return_, 1) := by decide +kernel
theorem dX11_tries_0 : decode cX11_tries 0 = .ok (.iconst 0, 1) := by decide +kernel
theorem dX11_tries_1 : decode cX11_tries 1 = .ok (.istore 5, 2) := by decide +kernel
theorem dX11_tries_3 : decode cX11_tries 3 = .ok (.iload 5, 2) := by decide +kernel
theorem dX11_tries_5 : decode cX11_tries 5 = .ok (.aload_n 0, 1) := by decide +kernel
theorem dX11_tries_6 : decode cX11_tries 6 = .ok (.getfield 338, 3) := by decide +kernel
theorem dX11_tries_9 : decode cX11_tries 9 = .ok (.getfield 264, 3) := by decide +kernel
theorem dX11_tries_12 : decode cX11_tries 12 = .ok (.if_icmp .ge 146, 3) := by decide +kernel
theorem dX11_tries_15 : decode cX11_tries 15 = .ok (.iconst 0, 1) := by decide +kernel
theorem dX11_tries_16 : decode cX11_tries 16 = .ok (.istore 6, 2) := by decide +kernel
theorem dX11_tries_18 : decode cX11_tries 18 = .ok (.iload 6, 2) := by decide +kernel
theorem dX11_tries_20 : decode cX11_tries 20 = .ok (.iconst 2, 1) := by decide +kernel
theorem dX11_tries_21 : decode cX11_tries 21 = .ok (.if_icmp .ge 131, 3) := by decide +kernel
theorem dX11_tries_24 : decode cX11_tries 24 = .ok (.aload_n 0, 1) := by decide +kernel
theorem dX11_tries_25 : decode cX11_tries 25 = .ok (.getfield 338, 3) := by decide +kernel
theorem dX11_tries_28 : decode cX11_tries 28 = .ok (.iload 5, 2) := by decide +kernel
theorem dX11_tries_30 : decode cX11_tries 30 = .ok (.iload 6, 2) := by decide +kernel
theorem dX11_tries_32 : decode cX11_tries 32 = .ok (.invokevirtual 436, 3) := by decide +kernel
theorem dX11_tries_35 : decode cX11_tries 35 = .ok (.iload_n 2, 1) := by decide +kernel
theorem dX11_tries_36 : decode cX11_tries 36 = .ok (.if_icmp .eq 6, 3) := by decide +kernel
theorem dX11_tries_39 : decode cX11_tries 39 = .ok (.goto 107, 3) := by decide +kernel
theorem dX11_tries_42 : decode cX11_tries 42 = .ok (.aload_n 0, 1) := by decide +kernel
theorem dX11_tries_43 : decode cX11_tries 43 = .ok (.getfield 338, 3) := by decide +kernel
theorem dX11_tries_46 : decode cX11_tries 46 = .ok (.getfield 317, 3) := by decide +kernel
theorem dX11_tries_49 : decode cX11_tries 49 = .ok (.iload_n 1, 1) := by decide +kernel
theorem dX11_tries_50 : decode cX11_tries 50 = .ok (.iaload, 1) := by decide +kernel
theorem dX11_tries_51 : decode cX11_tries 51 = .ok (.istore 7, 2) := by decide +kernel
theorem dX11_tries_53 : decode cX11_tries 53 = .ok (.iload 7, 2) := by decide +kernel
theorem dX11_tries_55 : decode cX11_tries 55 = .ok (.aload_n 0, 1) := by decide +kernel
theorem dX11_tries_56 : decode cX11_tries 56 = .ok (.getfield 338, 3) := by decide +kernel
theorem dX11_tries_59 : decode cX11_tries 59 = .ok (.getfield 320, 3) := by decide +kernel
theorem dX11_tries_62 : decode cX11_tries 62 = .ok (.iload_n 1, 1) := by decide +kernel
theorem dX11_tries_63 : decode cX11_tries 63 = .ok (.iaload, 1) := by decide +kernel
theorem dX11_tries_64 : decode cX11_tries 64 = .ok (.if_icmp .gt 82, 3) := by decide +kernel
theorem dX11_tries_67 : decode cX11_tries 67 = .ok (.iload_n 3, 1) := by decide +kernel
theorem dX11_tries_68 : decode cX11_tries 68 = .ok (.aload_n 0, 1) := by decide +kernel
theorem dX11_tries_69 : decode cX11_tries 69 = .ok (.getfield 338, 3) := by decide +kernel
theorem dX11_tries_72 : decode cX11_tries 72 = .ok (.iload 5, 2) := by decide +kernel
theorem dX11_tries_74 : decode cX11_tries 74 = .ok (.iload 7, 2) := by decide +kernel
theorem dX11_tries_76 : decode cX11_tries 76 = .ok (.invokevirtual 399, 3) := by decide +kernel
theorem dX11_tries_79 : decode cX11_tries 79 = .ok (.iadd, 1) := by decide +kernel
theorem dX11_tries_80 : decode cX11_tries 80 = .ok (.istore 8, 2) := by decide +kernel
theorem dX11_tries_82 : decode cX11_tries 82 = .ok (.iload 8, 2) := by decide +kernel
theorem dX11_tries_84 : decode cX11_tries 84 = .ok (.iload 4, 2) := by decide +kernel
theorem dX11_tries_86 : decode cX11_tries 86 = .ok (.if_icmp .gt 54, 3) := by decide +kernel
theorem dX11_tries_89 : decode cX11_tries 89 = .ok (.aload_n 0, 1) := by decide +kernel
theorem dX11_tries_90 : decode cX11_tries 90 = .ok (.iload_n 2, 1) := by decide +kernel
theorem dX11_tries_91 : decode cX11_tries 91 = .ok (.iload_n 3, 1) := by decide +kernel
theorem dX11_tries_92 : decode cX11_tries 92 = .ok (.invokestatic 427, 3) := by decide +kernel
theorem dX11_tries_95 : decode cX11_tries 95 = .ok (.aload_n 0, 1) := by decide +kernel
theorem dX11_tries_96 : decode cX11_tries 96 = .ok (.getfield 338, 3) := by decide +kernel
theorem dX11_tries_99 : decode cX11_tries 99 = .ok (.iload 5, 2) := by decide +kernel
theorem dX11_tries_101 : decode cX11_tries 101 = .ok (.iload 6, 2) := by decide +kernel
theorem dX11_tries_103 : decode cX11_tries 103 = .ok (.invokevirtual 438, 3) := by decide +kernel
theorem dX11_tries_106 : decode cX11_tries 106 = .ok (.iload 8, 2) := by decide +kernel
theorem dX11_tries_108 : decode cX11_tries 108 = .ok (.invokestatic 427, 3) := by decide +kernel
theorem dX11_tries_111 : decode cX11_tries 111 = .ok (.aload_n 0, 1) := by decide +kernel
theorem dX11_tries_112 : decode cX11_tries 112 = .ok (.iload_n 1, 1) := by decide +kernel
theorem dX11_tries_113 : decode cX11_tries 113 = .ok (.iload 5, 2) := by decide +kernel
theorem dX11_tries_115 : decode cX11_tries 115 = .ok (.iload 6, 2) := by decide +kernel
theorem dX11_tries_117 : decode cX11_tries 117 = .ok (.iload_n 3, 1) := by decide +kernel
theorem dX11_tries_118 : decode cX11_tries 118 = .ok (.iload 7, 2) := by decide +kernel
theorem dX11_tries_120 : decode cX11_tries 120 = .ok (.invokevirtual 441, 3) := by decide +kernel
theorem dX11_tries_123 : decode cX11_tries 123 = .ok (.bipush 100, 2) := by decide +kernel
theorem dX11_tries_125 : decode cX11_tries 125 = .ok (.iload 5, 2) := by decide +kernel
theorem dX11_tries_127 : decode cX11_tries 127 = .ok (.imul, 1) := by decide +kernel
theorem dX11_tries_128 : decode cX11_tries 128 = .ok (.bipush 10, 2) := by decide +kernel
theorem dX11_tries_130 : decode cX11_tries 130 = .ok (.iload 6, 2) := by decide +kernel
theorem dX11_tries_132 : decode cX11_tries 132 = .ok (.imul, 1) := by decide +kernel
theorem dX11_tries_133 : decode cX11_tries 133 = .ok (.iadd, 1) := by decide +kernel
theorem dX11_tries_134 : decode cX11_tries 134 = .ok (.iload 7, 2) := by decide +kernel
theorem dX11_tries_136 : decode cX11_tries 136 = .ok (.iadd, 1) := by decide +kernel
theorem dX11_tries_137 : decode cX11_tries 137 = .ok (.invokevirtual 444, 3) := by decide +kernel
theorem dX11_tries_140 : decode cX11_tries 140 = .ok (.iinc 7 1, 3) := by decide +kernel
theorem dX11_tries_143 : decode cX11_tries 143 = .ok (.goto (-90), 3) := by decide +kernel
theorem dX11_tries_146 : decode cX11_tries 146 = .ok (.iinc 6 1, 3) := by decide +kernel
theorem dX11_tries_149 : decode cX11_tries 149 = .ok (.goto (-131), 3) := by decide +kernel
theorem dX11_tries_152 : decode cX11_tries 152 = .ok (.iinc 5 1, 3) := by decide +kernel
theorem dX11_tries_155 : decode cX11_tries 155 = .ok (.goto (-152), 3) := by decide +kernel
theorem dX11_tries_158 : decode cX11_tries 158 = .ok (.aload_n 0, 1) := by decide +kernel
theorem dX11_tries_159 : decode cX11_tries 159 = .ok (.iload_n 2, 1) := by decide +kernel
theorem dX11_tries_160 : decode cX11_tries 160 = .ok (.invokevirtual 448, 3) := by decide +kernel
theorem dX11_tries_163 : decode cX11_tries 163 = .ok (.ifCond .eq 34, 3) := by decide +kernel
theorem dX11_tries_166 : decode cX11_tries 166 = .ok (.iload_n 3, 1) := by decide +kernel
theorem dX11_tries_167 : decode cX11_tries 167 = .ok (.iload 4, 2) := by decide +kernel
theorem dX11_tries_169 : decode cX11_tries 169 = .ok (.if_icmp .ge 28, 3) := by decide +kernel
theorem dX11_tries_172 : decode cX11_tries 172 = .ok (.aload_n 0, 1) := by decide +kernel
theorem dX11_tries_173 : decode cX11_tries 173 = .ok (.iload_n 2, 1) := by decide +kernel
theorem dX11_tries_174 : decode cX11_tries 174 = .ok (.iload_n 3, 1) := by decide +kernel
theorem dX11_tries_175 : decode cX11_tries 175 = .ok (.invokestatic 427, 3) := by decide +kernel
theorem dX11_tries_178 : decode cX11_tries 178 = .ok (.iload_n 2, 1) := by decide +kernel
theorem dX11_tries_179 : decode cX11_tries 179 = .ok (.iload_n 3, 1) := by decide +kernel
theorem dX11_tries_180 : decode cX11_tries 180 = .ok (.iconst 1, 1) := by decide +kernel
theorem dX11_tries_181 : decode cX11_tries 181 = .ok (.iadd, 1) := by decide +kernel
theorem dX11_tries_182 : decode cX11_tries 182 = .ok (.invokestatic 427, 3) := by decide +kernel
theorem dX11_tries_185 : decode cX11_tries 185 = .ok (.aload_n 0, 1) := by decide +kernel
theorem dX11_tries_186 : decode cX11_tries 186 = .ok (.iload_n 1, 1) := by decide +kernel
theorem dX11_tries_187 : decode cX11_tries 187 = .ok (.iload_n 2, 1) := by decide +kernel
theorem dX11_tries_188 : decode cX11_tries 188 = .ok (.iload_n 3, 1) := by decide +kernel
theorem dX11_tries_189 : decode cX11_tries 189 = .ok (.invokevirtual 451, 3) := by decide +kernel
theorem dX11_tries_192 : decode cX11_tries 192 = .ok (.bipush (-2), 2) := by decide +kernel
theorem dX11_tries_194 : decode cX11_tries 194 = .ok (.invokevirtual 444, 3) := by decide +kernel
theorem dX11_tries_197 : decode cX11_tries 197 = .ok (.return_, 1) := by decide +kernel
theorem dX11_takes_0 : decode cX11_takes 0 = .ok (.aload_n 0, 1) := by decide +kernel
theorem dX11_takes_1 : decode cX11_takes 1 = .ok (.getfield 17, 3) := by decide +kernel
theorem dX11_takes_4 : decode cX11_takes 4 = .ok (.iload_n 2, 1) := by decide +kernel
theorem dX11_takes_5 : decode cX11_takes 5 = .ok (.laload, 1) := by decide +kernel
theorem dX11_takes_6 : decode cX11_takes 6 = .ok (.ldc2_w 430, 3) := by decide +kernel
theorem dX11_takes_9 : decode cX11_takes 9 = .ok (.lcmp, 1) := by decide +kernel
theorem dX11_takes_10 : decode cX11_takes 10 = .ok (.ifCond .ne 4, 3) := by decide +kernel
theorem dX11_takes_13 : decode cX11_takes 13 = .ok (.return_, 1) := by decide +kernel
theorem dX11_takes_14 : decode cX11_takes 14 = .ok (.lload_n 3, 1) := by decide +kernel
theorem dX11_takes_15 : decode cX11_takes 15 = .ok (.aload_n 0, 1) := by decide +kernel
theorem dX11_takes_16 : decode cX11_takes 16 = .ok (.getfield 17, 3) := by decide +kernel
theorem dX11_takes_19 : decode cX11_takes 19 = .ok (.iload_n 2, 1) := by decide +kernel
theorem dX11_takes_20 : decode cX11_takes 20 = .ok (.laload, 1) := by decide +kernel
theorem dX11_takes_21 : decode cX11_takes 21 = .ok (.ladd, 1) := by decide +kernel
theorem dX11_takes_22 : decode cX11_takes 22 = .ok (.lstore 6, 2) := by decide +kernel
theorem dX11_takes_24 : decode cX11_takes 24 = .ok (.aload_n 0, 1) := by decide +kernel
theorem dX11_takes_25 : decode cX11_takes 25 = .ok (.getfield 17, 3) := by decide +kernel
theorem dX11_takes_28 : decode cX11_takes 28 = .ok (.iload_n 1, 1) := by decide +kernel
theorem dX11_takes_29 : decode cX11_takes 29 = .ok (.laload, 1) := by decide +kernel
theorem dX11_takes_30 : decode cX11_takes 30 = .ok (.ldc2_w 430, 3) := by decide +kernel
theorem dX11_takes_33 : decode cX11_takes 33 = .ok (.lcmp, 1) := by decide +kernel
theorem dX11_takes_34 : decode cX11_takes 34 = .ok (.ifCond .eq 43, 3) := by decide +kernel
theorem dX11_takes_37 : decode cX11_takes 37 = .ok (.lload 6, 2) := by decide +kernel
theorem dX11_takes_39 : decode cX11_takes 39 = .ok (.aload_n 0, 1) := by decide +kernel
theorem dX11_takes_40 : decode cX11_takes 40 = .ok (.getfield 17, 3) := by decide +kernel
theorem dX11_takes_43 : decode cX11_takes 43 = .ok (.iload_n 1, 1) := by decide +kernel
theorem dX11_takes_44 : decode cX11_takes 44 = .ok (.laload, 1) := by decide +kernel
theorem dX11_takes_45 : decode cX11_takes 45 = .ok (.lcmp, 1) := by decide +kernel
theorem dX11_takes_46 : decode cX11_takes 46 = .ok (.ifCond .gt 30, 3) := by decide +kernel
theorem dX11_takes_49 : decode cX11_takes 49 = .ok (.lload 6, 2) := by decide +kernel
theorem dX11_takes_51 : decode cX11_takes 51 = .ok (.aload_n 0, 1) := by decide +kernel
theorem dX11_takes_52 : decode cX11_takes 52 = .ok (.getfield 17, 3) := by decide +kernel
theorem dX11_takes_55 : decode cX11_takes 55 = .ok (.iload_n 1, 1) := by decide +kernel
theorem dX11_takes_56 : decode cX11_takes 56 = .ok (.laload, 1) := by decide +kernel
theorem dX11_takes_57 : decode cX11_takes 57 = .ok (.lcmp, 1) := by decide +kernel
theorem dX11_takes_58 : decode cX11_takes 58 = .ok (.ifCond .ne 19, 3) := by decide +kernel
theorem dX11_takes_61 : decode cX11_takes 61 = .ok (.aload_n 0, 1) := by decide +kernel
theorem dX11_takes_62 : decode cX11_takes 62 = .ok (.getfield 21, 3) := by decide +kernel
theorem dX11_takes_65 : decode cX11_takes 65 = .ok (.iload_n 2, 1) := by decide +kernel
theorem dX11_takes_66 : decode cX11_takes 66 = .ok (.iaload, 1) := by decide +kernel
theorem dX11_takes_67 : decode cX11_takes 67 = .ok (.aload_n 0, 1) := by decide +kernel
theorem dX11_takes_68 : decode cX11_takes 68 = .ok (.getfield 21, 3) := by decide +kernel
theorem dX11_takes_71 : decode cX11_takes 71 = .ok (.iload_n 1, 1) := by decide +kernel
theorem dX11_takes_72 : decode cX11_takes 72 = .ok (.iaload, 1) := by decide +kernel
theorem dX11_takes_73 : decode cX11_takes 73 = .ok (.if_icmp .lt 4, 3) := by decide +kernel
theorem dX11_takes_76 : decode cX11_takes 76 = .ok (.return_, 1) := by decide +kernel
theorem dX11_takes_77 : decode cX11_takes 77 = .ok (.aload_n 0, 1) := by decide +kernel
theorem dX11_takes_78 : decode cX11_takes 78 = .ok (.getfield 17, 3) := by decide +kernel
theorem dX11_takes_81 : decode cX11_takes 81 = .ok (.iload_n 1, 1) := by decide +kernel
theorem dX11_takes_82 : decode cX11_takes 82 = .ok (.lload 6, 2) := by decide +kernel
theorem dX11_takes_84 : decode cX11_takes 84 = .ok (.lastore, 1) := by decide +kernel
theorem dX11_takes_85 : decode cX11_takes 85 = .ok (.aload_n 0, 1) := by decide +kernel
theorem dX11_takes_86 : decode cX11_takes 86 = .ok (.getfield 21, 3) := by decide +kernel
theorem dX11_takes_89 : decode cX11_takes 89 = .ok (.iload_n 1, 1) := by decide +kernel
theorem dX11_takes_90 : decode cX11_takes 90 = .ok (.aload_n 0, 1) := by decide +kernel
theorem dX11_takes_91 : decode cX11_takes 91 = .ok (.getfield 21, 3) := by decide +kernel
theorem dX11_takes_94 : decode cX11_takes 94 = .ok (.iload_n 2, 1) := by decide +kernel
theorem dX11_takes_95 : decode cX11_takes 95 = .ok (.iaload, 1) := by decide +kernel
theorem dX11_takes_96 : decode cX11_takes 96 = .ok (.iastore, 1) := by decide +kernel
theorem dX11_takes_97 : decode cX11_takes 97 = .ok (.aload_n 0, 1) := by decide +kernel
theorem dX11_takes_98 : decode cX11_takes 98 = .ok (.getfield 25, 3) := by decide +kernel
theorem dX11_takes_101 : decode cX11_takes 101 = .ok (.iload_n 1, 1) := by decide +kernel
theorem dX11_takes_102 : decode cX11_takes 102 = .ok (.iload 5, 2) := by decide +kernel
theorem dX11_takes_104 : decode cX11_takes 104 = .ok (.iastore, 1) := by decide +kernel
theorem dX11_takes_105 : decode cX11_takes 105 = .ok (.return_, 1) := by decide +kernel
theorem dX11_refusesWay_0 : decode cX11_refusesWay 0 = .ok (.aload_n 0, 1) := by decide +kernel
theorem dX11_refusesWay_1 : decode cX11_refusesWay 1 = .ok (.iload_n 1, 1) := by decide +kernel
theorem dX11_refusesWay_2 : decode cX11_refusesWay 2 = .ok (.invokevirtual 346, 3) := by decide +kernel
theorem dX11_refusesWay_5 : decode cX11_refusesWay 5 = .ok (.ifCond .eq 19, 3) := by decide +kernel
theorem dX11_refusesWay_8 : decode cX11_refusesWay 8 = .ok (.aload_n 0, 1) := by decide +kernel
theorem dX11_refusesWay_9 : decode cX11_refusesWay 9 = .ok (.iload_n 2, 1) := by decide +kernel
theorem dX11_refusesWay_10 : decode cX11_refusesWay 10 = .ok (.invokevirtual 455, 3) := by decide +kernel
theorem dX11_refusesWay_13 : decode cX11_refusesWay 13 = .ok (.ifCond .eq 11, 3) := by decide +kernel
theorem dX11_refusesWay_16 : decode cX11_refusesWay 16 = .ok (.aload_n 0, 1) := by decide +kernel
theorem dX11_refusesWay_17 : decode cX11_refusesWay 17 = .ok (.iload_n 3, 1) := by decide +kernel
theorem dX11_refusesWay_18 : decode cX11_refusesWay 18 = .ok (.invokevirtual 455, 3) := by decide +kernel
theorem dX11_refusesWay_21 : decode cX11_refusesWay 21 = .ok (.ifCond .ne 5, 3) := by decide +kernel
theorem dX11_refusesWay_24 : decode cX11_refusesWay 24 = .ok (.iconst 1, 1) := by decide +kernel
theorem dX11_refusesWay_25 : decode cX11_refusesWay 25 = .ok (.ireturn, 1) := by decide +kernel
theorem dX11_refusesWay_26 : decode cX11_refusesWay 26 = .ok (.iload 5, 2) := by decide +kernel
theorem dX11_refusesWay_28 : decode cX11_refusesWay 28 = .ok (.iconst 0, 1) := by decide +kernel
theorem dX11_refusesWay_29 : decode cX11_refusesWay 29 = .ok (.sipush 400, 3) := by decide +kernel
theorem dX11_refusesWay_32 : decode cX11_refusesWay 32 = .ok (.invokestatic 118, 3) := by decide +kernel
theorem dX11_refusesWay_35 : decode cX11_refusesWay 35 = .ok (.ifCond .eq 14, 3) := by decide +kernel
theorem dX11_refusesWay_38 : decode cX11_refusesWay 38 = .ok (.iload 4, 2) := by decide +kernel
theorem dX11_refusesWay_40 : decode cX11_refusesWay 40 = .ok (.iconst 0, 1) := by decide +kernel
theorem dX11_refusesWay_41 : decode cX11_refusesWay 41 = .ok (.iload 5, 2) := by decide +kernel
theorem dX11_refusesWay_43 : decode cX11_refusesWay 43 = .ok (.invokestatic 118, 3) := by decide +kernel
theorem dX11_refusesWay_46 : decode cX11_refusesWay 46 = .ok (.ifCond .ne 5, 3) := by decide +kernel
theorem dX11_refusesWay_49 : decode cX11_refusesWay 49 = .ok (.iconst 2, 1) := by decide +kernel
theorem dX11_refusesWay_50 : decode cX11_refusesWay 50 = .ok (.ireturn, 1) := by decide +kernel
theorem dX11_refusesWay_51 : decode cX11_refusesWay 51 = .ok (.aload_n 0, 1) := by decide +kernel
theorem dX11_refusesWay_52 : decode cX11_refusesWay 52 = .ok (.iload_n 1, 1) := by decide +kernel
theorem dX11_refusesWay_53 : decode cX11_refusesWay 53 = .ok (.iload_n 3, 1) := by decide +kernel
theorem dX11_refusesWay_54 : decode cX11_refusesWay 54 = .ok (.iload 5, 2) := by decide +kernel
theorem dX11_refusesWay_56 : decode cX11_refusesWay 56 = .ok (.invokevirtual 458, 3) := by decide +kernel
theorem dX11_refusesWay_59 : decode cX11_refusesWay 59 = .ok (.aload_n 0, 1) := by decide +kernel
theorem dX11_refusesWay_60 : decode cX11_refusesWay 60 = .ok (.getfield 17, 3) := by decide +kernel
theorem dX11_refusesWay_63 : decode cX11_refusesWay 63 = .ok (.iload_n 2, 1) := by decide +kernel
theorem dX11_refusesWay_64 : decode cX11_refusesWay 64 = .ok (.iload 4, 2) := by decide +kernel
theorem dX11_refusesWay_66 : decode cX11_refusesWay 66 = .ok (.invokestatic 427, 3) := by decide +kernel
theorem dX11_refusesWay_69 : decode cX11_refusesWay 69 = .ok (.laload, 1) := by decide +kernel
theorem dX11_refusesWay_70 : decode cX11_refusesWay 70 = .ok (.ldc2_w 430, 3) := by decide +kernel
theorem dX11_refusesWay_73 : decode cX11_refusesWay 73 = .ok (.lcmp, 1) := by decide +kernel
theorem dX11_refusesWay_74 : decode cX11_refusesWay 74 = .ok (.ifCond .ne 8, 3) := by decide +kernel
theorem dX11_refusesWay_77 : decode cX11_refusesWay 77 = .ok (.bipush 6, 2) := by decide +kernel
theorem dX11_refusesWay_79 : decode cX11_refusesWay 79 = .ok (.goto 4, 3) := by decide +kernel
theorem dX11_refusesWay_82 : decode cX11_refusesWay 82 = .ok (.iconst 0, 1) := by decide +kernel
theorem dX11_refusesWay_83 : decode cX11_refusesWay 83 = .ok (.ireturn, 1) := by decide +kernel
theorem dX11_least_0 : decode cX11_least 0 = .ok (.aload_n 0, 1) := by decide +kernel
theorem dX11_least_1 : decode cX11_least 1 = .ok (.iconst 0, 1) := by decide +kernel
theorem dX11_least_2 : decode cX11_least 2 = .ok (.putfield 40, 3) := by decide +kernel
theorem dX11_least_5 : decode cX11_least 5 = .ok (.aload_n 0, 1) := by decide +kernel
theorem dX11_least_6 : decode cX11_least 6 = .ok (.iload_n 1, 1) := by decide +kernel
theorem dX11_least_7 : decode cX11_least 7 = .ok (.iload_n 2, 1) := by decide +kernel
theorem dX11_least_8 : decode cX11_least 8 = .ok (.iload_n 3, 1) := by decide +kernel
theorem dX11_least_9 : decode cX11_least 9 = .ok (.iload 4, 2) := by decide +kernel
theorem dX11_least_11 : decode cX11_least 11 = .ok (.iload 5, 2) := by decide +kernel
theorem dX11_least_13 : decode cX11_least 13 = .ok (.invokevirtual 462, 3) := by decide +kernel
theorem dX11_least_16 : decode cX11_least 16 = .ok (.istore 7, 2) := by decide +kernel
theorem dX11_least_18 : decode cX11_least 18 = .ok (.iload 7, 2) := by decide +kernel
theorem dX11_least_20 : decode cX11_least 20 = .ok (.ifCond .le 13, 3) := by decide +kernel
theorem dX11_least_23 : decode cX11_least 23 = .ok (.aload_n 0, 1) := by decide +kernel
theorem dX11_least_24 : decode cX11_least 24 = .ok (.iload 7, 2) := by decide +kernel
theorem dX11_least_26 : decode cX11_least 26 = .ok (.invokevirtual 46, 3) := by decide +kernel
theorem dX11_least_29 : decode cX11_least 29 = .ok (.i2l, 1) := by decide +kernel
theorem dX11_least_30 : decode cX11_least 30 = .ok (.goto 23, 3) := by decide +kernel
theorem dX11_least_33 : decode cX11_least 33 = .ok (.aload_n 0, 1) := by decide +kernel
theorem dX11_least_34 : decode cX11_least 34 = .ok (.aload_n 0, 1) := by decide +kernel
theorem dX11_least_35 : decode cX11_least 35 = .ok (.getfield 17, 3) := by decide +kernel
theorem dX11_least_38 : decode cX11_least 38 = .ok (.iload_n 2, 1) := by decide +kernel
theorem dX11_least_39 : decode cX11_least 39 = .ok (.iload 4, 2) := by decide +kernel
theorem dX11_least_41 : decode cX11_least 41 = .ok (.invokestatic 427, 3) := by decide +kernel
theorem dX11_least_44 : decode cX11_least 44 = .ok (.laload, 1) := by decide +kernel
theorem dX11_least_45 : decode cX11_least 45 = .ok (.ldc2_w 397, 3) := by decide +kernel
theorem dX11_least_48 : decode cX11_least 48 = .ok (.iload 6, 2) := by decide +kernel
theorem dX11_least_50 : decode cX11_least 50 = .ok (.invokevirtual 389, 3) := by decide +kernel
theorem dX11_least_53 : decode cX11_least 53 = .ok (.lreturn, 1) := by decide +kernel
theorem dX11_there_0 : decode cX11_there 0 = .ok (.aload_n 0, 1) := by decide +kernel
theorem dX11_there_1 : decode cX11_there 1 = .ok (.iconst 0, 1) := by decide +kernel
theorem dX11_there_2 : decode cX11_there 2 = .ok (.putfield 40, 3) := by decide +kernel
theorem dX11_there_5 : decode cX11_there 5 = .ok (.aload_n 0, 1) := by decide +kernel
theorem dX11_there_6 : decode cX11_there 6 = .ok (.iload_n 1, 1) := by decide +kernel
theorem dX11_there_7 : decode cX11_there 7 = .ok (.iload_n 2, 1) := by decide +kernel
theorem dX11_there_8 : decode cX11_there 8 = .ok (.iload_n 3, 1) := by decide +kernel
theorem dX11_there_9 : decode cX11_there 9 = .ok (.iload 4, 2) := by decide +kernel
theorem dX11_there_11 : decode cX11_there 11 = .ok (.iload 5, 2) := by decide +kernel
theorem dX11_there_13 : decode cX11_there 13 = .ok (.invokevirtual 462, 3) := by decide +kernel
theorem dX11_there_16 : decode cX11_there 16 = .ok (.istore 6, 2) := by decide +kernel
theorem dX11_there_18 : decode cX11_there 18 = .ok (.iload 6, 2) := by decide +kernel
theorem dX11_there_20 : decode cX11_there 20 = .ok (.ifCond .le 12, 3) := by decide +kernel
theorem dX11_there_23 : decode cX11_there 23 = .ok (.aload_n 0, 1) := by decide +kernel
theorem dX11_there_24 : decode cX11_there 24 = .ok (.iload 6, 2) := by decide +kernel
theorem dX11_there_26 : decode cX11_there 26 = .ok (.invokevirtual 46, 3) := by decide +kernel
theorem dX11_there_29 : decode cX11_there 29 = .ok (.goto 18, 3) := by decide +kernel
theorem dX11_there_32 : decode cX11_there 32 = .ok (.aload_n 0, 1) := by decide +kernel
theorem dX11_there_33 : decode cX11_there 33 = .ok (.aload_n 0, 1) := by decide +kernel
theorem dX11_there_34 : decode cX11_there 34 = .ok (.getfield 21, 3) := by decide +kernel
theorem dX11_there_37 : decode cX11_there 37 = .ok (.iload_n 2, 1) := by decide +kernel
theorem dX11_there_38 : decode cX11_there 38 = .ok (.iload 4, 2) := by decide +kernel
theorem dX11_there_40 : decode cX11_there 40 = .ok (.invokestatic 427, 3) := by decide +kernel
theorem dX11_there_43 : decode cX11_there 43 = .ok (.iaload, 1) := by decide +kernel
theorem dX11_there_44 : decode cX11_there 44 = .ok (.invokevirtual 50, 3) := by decide +kernel
theorem dX11_there_47 : decode cX11_there 47 = .ok (.ireturn, 1) := by decide +kernel
theorem dX11_stepOf_0 : decode cX11_stepOf 0 = .ok (.iload_n 2, 1) := by decide +kernel
theorem dX11_stepOf_1 : decode cX11_stepOf 1 = .ok (.istore 5, 2) := by decide +kernel
theorem dX11_stepOf_3 : decode cX11_stepOf 3 = .ok (.iload_n 3, 1) := by decide +kernel
theorem dX11_stepOf_4 : decode cX11_stepOf 4 = .ok (.istore 6, 2) := by decide +kernel
theorem dX11_stepOf_6 : decode cX11_stepOf 6 = .ok (.iconst 0, 1) := by decide +kernel
theorem dX11_stepOf_7 : decode cX11_stepOf 7 = .ok (.istore 7, 2) := by decide +kernel
theorem dX11_stepOf_9 : decode cX11_stepOf 9 = .ok (.aload_n 0, 1) := by decide +kernel
theorem dX11_stepOf_10 : decode cX11_stepOf 10 = .ok (.getfield 25, 3) := by decide +kernel
theorem dX11_stepOf_13 : decode cX11_stepOf 13 = .ok (.iload 5, 2) := by decide +kernel
theorem dX11_stepOf_15 : decode cX11_stepOf 15 = .ok (.iload 6, 2) := by decide +kernel
theorem dX11_stepOf_17 : decode cX11_stepOf 17 = .ok (.invokestatic 427, 3) := by decide +kernel
theorem dX11_stepOf_20 : decode cX11_stepOf 20 = .ok (.iaload, 1) := by decide +kernel
theorem dX11_stepOf_21 : decode cX11_stepOf 21 = .ok (.iconst (-1), 1) := by decide +kernel
theorem dX11_stepOf_22 : decode cX11_stepOf 22 = .ok (.if_icmp .eq 100, 3) := by decide +kernel
theorem dX11_stepOf_25 : decode cX11_stepOf 25 = .ok (.aload_n 0, 1) := by decide +kernel
theorem dX11_stepOf_26 : decode cX11_stepOf 26 = .ok (.getfield 25, 3) := by decide +kernel
theorem dX11_stepOf_29 : decode cX11_stepOf 29 = .ok (.iload 5, 2) := by decide +kernel
theorem dX11_stepOf_31 : decode cX11_stepOf 31 = .ok (.iload 6, 2) := by decide +kernel
theorem dX11_stepOf_33 : decode cX11_stepOf 33 = .ok (.invokestatic 427, 3) := by decide +kernel
theorem dX11_stepOf_36 : decode cX11_stepOf 36 = .ok (.iaload, 1) := by decide +kernel
theorem dX11_stepOf_37 : decode cX11_stepOf 37 = .ok (.istore 8, 2) := by decide +kernel
theorem dX11_stepOf_39 : decode cX11_stepOf 39 = .ok (.iload 7, 2) := by decide +kernel
theorem dX11_stepOf_41 : decode cX11_stepOf 41 = .ok (.iload 4, 2) := by decide +kernel
theorem dX11_stepOf_43 : decode cX11_stepOf 43 = .ok (.if_icmp .ne 6, 3) := by decide +kernel
theorem dX11_stepOf_46 : decode cX11_stepOf 46 = .ok (.iload 8, 2) := by decide +kernel
theorem dX11_stepOf_48 : decode cX11_stepOf 48 = .ok (.ireturn, 1) := by decide +kernel
theorem dX11_stepOf_49 : decode cX11_stepOf 49 = .ok (.iinc 7 1, 3) := by decide +kernel
theorem dX11_stepOf_52 : decode cX11_stepOf 52 = .ok (.iload 6, 2) := by decide +kernel
theorem dX11_stepOf_54 : decode cX11_stepOf 54 = .ok (.iload 8, 2) := by decide +kernel
theorem dX11_stepOf_56 : decode cX11_stepOf 56 = .ok (.bipush (-2), 2) := by decide +kernel
theorem dX11_stepOf_58 : decode cX11_stepOf 58 = .ok (.if_icmp .ne 7, 3) := by decide +kernel
theorem dX11_stepOf_61 : decode cX11_stepOf 61 = .ok (.iconst 1, 1) := by decide +kernel
theorem dX11_stepOf_62 : decode cX11_stepOf 62 = .ok (.goto 20, 3) := by decide +kernel
theorem dX11_stepOf_65 : decode cX11_stepOf 65 = .ok (.aload_n 0, 1) := by decide +kernel
theorem dX11_stepOf_66 : decode cX11_stepOf 66 = .ok (.getfield 338, 3) := by decide +kernel
theorem dX11_stepOf_69 : decode cX11_stepOf 69 = .ok (.iload 8, 2) := by decide +kernel
theorem dX11_stepOf_71 : decode cX11_stepOf 71 = .ok (.bipush 100, 2) := by decide +kernel
theorem dX11_stepOf_73 : decode cX11_stepOf 73 = .ok (.idiv, 1) := by decide +kernel
theorem dX11_stepOf_74 : decode cX11_stepOf 74 = .ok (.iload 8, 2) := by decide +kernel
theorem dX11_stepOf_76 : decode cX11_stepOf 76 = .ok (.bipush 10, 2) := by decide +kernel
theorem dX11_stepOf_78 : decode cX11_stepOf 78 = .ok (.irem, 1) := by decide +kernel
theorem dX11_stepOf_79 : decode cX11_stepOf 79 = .ok (.invokevirtual 399, 3) := by decide +kernel
theorem dX11_stepOf_82 : decode cX11_stepOf 82 = .ok (.iadd, 1) := by decide +kernel
theorem dX11_stepOf_83 : decode cX11_stepOf 83 = .ok (.istore 6, 2) := by decide +kernel
theorem dX11_stepOf_85 : decode cX11_stepOf 85 = .ok (.iload 8, 2) := by decide +kernel
theorem dX11_stepOf_87 : decode cX11_stepOf 87 = .ok (.bipush (-2), 2) := by decide +kernel
theorem dX11_stepOf_89 : decode cX11_stepOf 89 = .ok (.if_icmp .ne 8, 3) := by decide +kernel
theorem dX11_stepOf_92 : decode cX11_stepOf 92 = .ok (.iload 5, 2) := by decide +kernel
theorem dX11_stepOf_94 : decode cX11_stepOf 94 = .ok (.goto 23, 3) := by decide +kernel
theorem dX11_stepOf_97 : decode cX11_stepOf 97 = .ok (.aload_n 0, 1) := by decide +kernel
theorem dX11_stepOf_98 : decode cX11_stepOf 98 = .ok (.getfield 338, 3) := by decide +kernel
theorem dX11_stepOf_101 : decode cX11_stepOf 101 = .ok (.iload 8, 2) := by decide +kernel
theorem dX11_stepOf_103 : decode cX11_stepOf 103 = .ok (.bipush 100, 2) := by decide +kernel
theorem dX11_stepOf_105 : decode cX11_stepOf 105 = .ok (.idiv, 1) := by decide +kernel
theorem dX11_stepOf_106 : decode cX11_stepOf 106 = .ok (.iload 8, 2) := by decide +kernel
theorem dX11_stepOf_108 : decode cX11_stepOf 108 = .ok (.bipush 10, 2) := by decide +kernel
theorem dX11_stepOf_110 : decode cX11_stepOf 110 = .ok (.idiv, 1) := by decide +kernel
theorem dX11_stepOf_111 : decode cX11_stepOf 111 = .ok (.bipush 10, 2) := by decide +kernel
theorem dX11_stepOf_113 : decode cX11_stepOf 113 = .ok (.irem, 1) := by decide +kernel
theorem dX11_stepOf_114 : decode cX11_stepOf 114 = .ok (.invokevirtual 438, 3) := by decide +kernel
theorem dX11_stepOf_117 : decode cX11_stepOf 117 = .ok (.istore 5, 2) := by decide +kernel
theorem dX11_stepOf_119 : decode cX11_stepOf 119 = .ok (.goto (-110), 3) := by decide +kernel
theorem dX11_stepOf_122 : decode cX11_stepOf 122 = .ok (.iload 4, 2) := by decide +kernel
theorem dX11_stepOf_124 : decode cX11_stepOf 124 = .ok (.ifCond .ge 8, 3) := by decide +kernel
theorem dX11_stepOf_127 : decode cX11_stepOf 127 = .ok (.iload 7, 2) := by decide +kernel
theorem dX11_stepOf_129 : decode cX11_stepOf 129 = .ok (.goto 4, 3) := by decide +kernel
theorem dX11_stepOf_132 : decode cX11_stepOf 132 = .ok (.iconst (-1), 1) := by decide +kernel
theorem dX11_stepOf_133 : decode cX11_stepOf 133 = .ok (.ireturn, 1) := by decide +kernel
theorem dX11_steps_0 : decode cX11_steps 0 = .ok (.aload_n 0, 1) := by decide +kernel
theorem dX11_steps_1 : decode cX11_steps 1 = .ok (.iconst 0, 1) := by decide +kernel
theorem dX11_steps_2 : decode cX11_steps 2 = .ok (.putfield 40, 3) := by decide +kernel
theorem dX11_steps_5 : decode cX11_steps 5 = .ok (.aload_n 0, 1) := by decide +kernel
theorem dX11_steps_6 : decode cX11_steps 6 = .ok (.iload_n 1, 1) := by decide +kernel
theorem dX11_steps_7 : decode cX11_steps 7 = .ok (.iload_n 2, 1) := by decide +kernel
theorem dX11_steps_8 : decode cX11_steps 8 = .ok (.iload_n 3, 1) := by decide +kernel
theorem dX11_steps_9 : decode cX11_steps 9 = .ok (.iload 4, 2) := by decide +kernel
theorem dX11_steps_11 : decode cX11_steps 11 = .ok (.iload 5, 2) := by decide +kernel
theorem dX11_steps_13 : decode cX11_steps 13 = .ok (.invokevirtual 462, 3) := by decide +kernel
theorem dX11_steps_16 : decode cX11_steps 16 = .ok (.istore 6, 2) := by decide +kernel
theorem dX11_steps_18 : decode cX11_steps 18 = .ok (.iload 6, 2) := by decide +kernel
theorem dX11_steps_20 : decode cX11_steps 20 = .ok (.ifCond .le 12, 3) := by decide +kernel
theorem dX11_steps_23 : decode cX11_steps 23 = .ok (.aload_n 0, 1) := by decide +kernel
theorem dX11_steps_24 : decode cX11_steps 24 = .ok (.iload 6, 2) := by decide +kernel
theorem dX11_steps_26 : decode cX11_steps 26 = .ok (.invokevirtual 46, 3) := by decide +kernel
theorem dX11_steps_29 : decode cX11_steps 29 = .ok (.goto 16, 3) := by decide +kernel
theorem dX11_steps_32 : decode cX11_steps 32 = .ok (.aload_n 0, 1) := by decide +kernel
theorem dX11_steps_33 : decode cX11_steps 33 = .ok (.aload_n 0, 1) := by decide +kernel
theorem dX11_steps_34 : decode cX11_steps 34 = .ok (.iload_n 1, 1) := by decide +kernel
theorem dX11_steps_35 : decode cX11_steps 35 = .ok (.iload_n 2, 1) := by decide +kernel
theorem dX11_steps_36 : decode cX11_steps 36 = .ok (.iload 4, 2) := by decide +kernel
theorem dX11_steps_38 : decode cX11_steps 38 = .ok (.iconst (-1), 1) := by decide +kernel
theorem dX11_steps_39 : decode cX11_steps 39 = .ok (.invokevirtual 465, 3) := by decide +kernel
theorem dX11_steps_42 : decode cX11_steps 42 = .ok (.invokevirtual 50, 3) := by decide +kernel
theorem dX11_steps_45 : decode cX11_steps 45 = .ok (.ireturn, 1) := by decide +kernel
theorem dX11_step_0 : decode cX11_step 0 = .ok (.aload_n 0, 1) := by decide +kernel
theorem dX11_step_1 : decode cX11_step 1 = .ok (.iconst 0, 1) := by decide +kernel
theorem dX11_step_2 : decode cX11_step 2 = .ok (.putfield 40, 3) := by decide +kernel
theorem dX11_step_5 : decode cX11_step 5 = .ok (.aload_n 0, 1) := by decide +kernel
theorem dX11_step_6 : decode cX11_step 6 = .ok (.iload_n 1, 1) := by decide +kernel
theorem dX11_step_7 : decode cX11_step 7 = .ok (.iload_n 2, 1) := by decide +kernel
theorem dX11_step_8 : decode cX11_step 8 = .ok (.iload_n 3, 1) := by decide +kernel
theorem dX11_step_9 : decode cX11_step 9 = .ok (.iload 4, 2) := by decide +kernel
theorem dX11_step_11 : decode cX11_step 11 = .ok (.iload 5, 2) := by decide +kernel
theorem dX11_step_13 : decode cX11_step 13 = .ok (.invokevirtual 462, 3) := by decide +kernel
theorem dX11_step_16 : decode cX11_step 16 = .ok (.istore 7, 2) := by decide +kernel
theorem dX11_step_18 : decode cX11_step 18 = .ok (.iload 7, 2) := by decide +kernel
theorem dX11_step_20 : decode cX11_step 20 = .ok (.ifCond .le 10, 3) := by decide +kernel
theorem dX11_step_23 : decode cX11_step 23 = .ok (.aload_n 0, 1) := by decide +kernel
theorem dX11_step_24 : decode cX11_step 24 = .ok (.iload 7, 2) := by decide +kernel
theorem dX11_step_26 : decode cX11_step 26 = .ok (.invokevirtual 46, 3) := by decide +kernel
theorem dX11_step_29 : decode cX11_step 29 = .ok (.ireturn, 1) := by decide +kernel
theorem dX11_step_30 : decode cX11_step 30 = .ok (.iload 6, 2) := by decide +kernel
theorem dX11_step_32 : decode cX11_step 32 = .ok (.ifCond .ge 7, 3) := by decide +kernel
theorem dX11_step_35 : decode cX11_step 35 = .ok (.iconst (-1), 1) := by decide +kernel
theorem dX11_step_36 : decode cX11_step 36 = .ok (.goto 13, 3) := by decide +kernel
theorem dX11_step_39 : decode cX11_step 39 = .ok (.aload_n 0, 1) := by decide +kernel
theorem dX11_step_40 : decode cX11_step 40 = .ok (.iload_n 1, 1) := by decide +kernel
theorem dX11_step_41 : decode cX11_step 41 = .ok (.iload_n 2, 1) := by decide +kernel
theorem dX11_step_42 : decode cX11_step 42 = .ok (.iload 4, 2) := by decide +kernel
theorem dX11_step_44 : decode cX11_step 44 = .ok (.iload 6, 2) := by decide +kernel
theorem dX11_step_46 : decode cX11_step 46 = .ok (.invokevirtual 465, 3) := by decide +kernel
theorem dX11_step_49 : decode cX11_step 49 = .ok (.istore 8, 2) := by decide +kernel
theorem dX11_step_51 : decode cX11_step 51 = .ok (.iload 8, 2) := by decide +kernel
theorem dX11_step_53 : decode cX11_step 53 = .ok (.iconst (-1), 1) := by decide +kernel
theorem dX11_step_54 : decode cX11_step 54 = .ok (.if_icmp .ne 11, 3) := by decide +kernel
theorem dX11_step_57 : decode cX11_step 57 = .ok (.aload_n 0, 1) := by decide +kernel
theorem dX11_step_58 : decode cX11_step 58 = .ok (.iconst 1, 1) := by decide +kernel
theorem dX11_step_59 : decode cX11_step 59 = .ok (.invokevirtual 46, 3) := by decide +kernel
theorem dX11_step_62 : decode cX11_step 62 = .ok (.goto 9, 3) := by decide +kernel
theorem dX11_step_65 : decode cX11_step 65 = .ok (.aload_n 0, 1) := by decide +kernel
theorem dX11_step_66 : decode cX11_step 66 = .ok (.iload 8, 2) := by decide +kernel
theorem dX11_step_68 : decode cX11_step 68 = .ok (.invokevirtual 50, 3) := by decide +kernel
theorem dX11_step_71 : decode cX11_step 71 = .ok (.ireturn, 1) := by decide +kernel
theorem dX11_off_0 : decode cX11_off 0 = .ok (.aload_n 0, 1) := by decide +kernel
theorem dX11_off_1 : decode cX11_off 1 = .ok (.iconst 0, 1) := by decide +kernel
theorem dX11_off_2 : decode cX11_off 2 = .ok (.putfield 40, 3) := by decide +kernel
theorem dX11_off_5 : decode cX11_off 5 = .ok (.aload_n 0, 1) := by decide +kernel
theorem dX11_off_6 : decode cX11_off 6 = .ok (.iload_n 1, 1) := by decide +kernel
theorem dX11_off_7 : decode cX11_off 7 = .ok (.invokevirtual 346, 3) := by decide +kernel
theorem dX11_off_10 : decode cX11_off 10 = .ok (.ifCond .eq 19, 3) := by decide +kernel
theorem dX11_off_13 : decode cX11_off 13 = .ok (.aload_n 0, 1) := by decide +kernel
theorem dX11_off_14 : decode cX11_off 14 = .ok (.iload_n 2, 1) := by decide +kernel
theorem dX11_off_15 : decode cX11_off 15 = .ok (.invokevirtual 455, 3) := by decide +kernel
theorem dX11_off_18 : decode cX11_off 18 = .ok (.ifCond .eq 11, 3) := by decide +kernel
theorem dX11_off_21 : decode cX11_off 21 = .ok (.aload_n 0, 1) := by decide +kernel
theorem dX11_off_22 : decode cX11_off 22 = .ok (.iload_n 3, 1) := by decide +kernel
theorem dX11_off_23 : decode cX11_off 23 = .ok (.invokevirtual 455, 3) := by decide +kernel
theorem dX11_off_26 : decode cX11_off 26 = .ok (.ifCond .ne 9, 3) := by decide +kernel
theorem dX11_off_29 : decode cX11_off 29 = .ok (.aload_n 0, 1) := by decide +kernel
theorem dX11_off_30 : decode cX11_off 30 = .ok (.iconst 1, 1) := by decide +kernel
theorem dX11_off_31 : decode cX11_off 31 = .ok (.invokevirtual 46, 3) := by decide +kernel
theorem dX11_off_34 : decode cX11_off 34 = .ok (.ireturn, 1) := by decide +kernel
theorem dX11_off_35 : decode cX11_off 35 = .ok (.iload 4, 2) := by decide +kernel
theorem dX11_off_37 : decode cX11_off 37 = .ok (.iconst 0, 1) := by decide +kernel
theorem dX11_off_38 : decode cX11_off 38 = .ok (.sipush 400, 3) := by decide +kernel
theorem dX11_off_41 : decode cX11_off 41 = .ok (.invokestatic 118, 3) := by decide +kernel
theorem dX11_off_44 : decode cX11_off 44 = .ok (.ifCond .ne 9, 3) := by decide +kernel
theorem dX11_off_47 : decode cX11_off 47 = .ok (.aload_n 0, 1) := by decide +kernel
theorem dX11_off_48 : decode cX11_off 48 = .ok (.iconst 2, 1) := by decide +kernel
theorem dX11_off_49 : decode cX11_off 49 = .ok (.invokevirtual 46, 3) := by decide +kernel
theorem dX11_off_52 : decode cX11_off 52 = .ok (.ireturn, 1) := by decide +kernel
theorem dX11_off_53 : decode cX11_off 53 = .ok (.aload_n 0, 1) := by decide +kernel
theorem dX11_off_54 : decode cX11_off 54 = .ok (.iload_n 1, 1) := by decide +kernel
theorem dX11_off_55 : decode cX11_off 55 = .ok (.iload_n 3, 1) := by decide +kernel
theorem dX11_off_56 : decode cX11_off 56 = .ok (.iload 4, 2) := by decide +kernel
theorem dX11_off_58 : decode cX11_off 58 = .ok (.invokevirtual 458, 3) := by decide +kernel
theorem dX11_off_61 : decode cX11_off 61 = .ok (.iconst (-1), 1) := by decide +kernel
theorem dX11_off_62 : decode cX11_off 62 = .ok (.istore 5, 2) := by decide +kernel
theorem dX11_off_64 : decode cX11_off 64 = .ok (.iconst 0, 1) := by decide +kernel
theorem dX11_off_65 : decode cX11_off 65 = .ok (.istore 6, 2) := by decide +kernel
theorem dX11_off_67 : decode cX11_off 67 = .ok (.iload 6, 2) := by decide +kernel
theorem dX11_off_69 : decode cX11_off 69 = .ok (.iload 4, 2) := by decide +kernel
theorem dX11_off_71 : decode cX11_off 71 = .ok (.if_icmp .gt 63, 3) := by decide +kernel
theorem dX11_off_74 : decode cX11_off 74 = .ok (.aload_n 0, 1) := by decide +kernel
theorem dX11_off_75 : decode cX11_off 75 = .ok (.getfield 17, 3) := by decide +kernel
theorem dX11_off_78 : decode cX11_off 78 = .ok (.iload_n 2, 1) := by decide +kernel
theorem dX11_off_79 : decode cX11_off 79 = .ok (.iload 6, 2) := by decide +kernel
theorem dX11_off_81 : decode cX11_off 81 = .ok (.invokestatic 427, 3) := by decide +kernel
theorem dX11_off_84 : decode cX11_off 84 = .ok (.laload, 1) := by decide +kernel
theorem dX11_off_85 : decode cX11_off 85 = .ok (.ldc2_w 430, 3) := by decide +kernel
theorem dX11_off_88 : decode cX11_off 88 = .ok (.lcmp, 1) := by decide +kernel
theorem dX11_off_89 : decode cX11_off 89 = .ok (.ifCond .eq 39, 3) := by decide +kernel
theorem dX11_off_92 : decode cX11_off 92 = .ok (.iload 5, 2) := by decide +kernel
theorem dX11_off_94 : decode cX11_off 94 = .ok (.iconst (-1), 1) := by decide +kernel
theorem dX11_off_95 : decode cX11_off 95 = .ok (.if_icmp .eq 29, 3) := by decide +kernel
theorem dX11_off_98 : decode cX11_off 98 = .ok (.aload_n 0, 1) := by decide +kernel
theorem dX11_off_99 : decode cX11_off 99 = .ok (.getfield 17, 3) := by decide +kernel
theorem dX11_off_102 : decode cX11_off 102 = .ok (.iload_n 2, 1) := by decide +kernel
theorem dX11_off_103 : decode cX11_off 103 = .ok (.iload 6, 2) := by decide +kernel
theorem dX11_off_105 : decode cX11_off 105 = .ok (.invokestatic 427, 3) := by decide +kernel
theorem dX11_off_108 : decode cX11_off 108 = .ok (.laload, 1) := by decide +kernel
theorem dX11_off_109 : decode cX11_off 109 = .ok (.aload_n 0, 1) := by decide +kernel
theorem dX11_off_110 : decode cX11_off 110 = .ok (.getfield 17, 3) := by decide +kernel
theorem dX11_off_113 : decode cX11_off 113 = .ok (.iload_n 2, 1) := by decide +kernel
theorem dX11_off_114 : decode cX11_off 114 = .ok (.iload 5, 2) := by decide +kernel
theorem dX11_off_116 : decode cX11_off 116 = .ok (.invokestatic 427, 3) := by decide +kernel
theorem dX11_off_119 : decode cX11_off 119 = .ok (.laload, 1) := by decide +kernel
theorem dX11_off_120 : decode cX11_off 120 = .ok (.lcmp, 1) := by decide +kernel
theorem dX11_off_121 : decode cX11_off 121 = .ok (.ifCond .ge 7, 3) := by decide +kernel
theorem dX11_off_124 : decode cX11_off 124 = .ok (.iload 6, 2) := by decide +kernel
theorem dX11_off_126 : decode cX11_off 126 = .ok (.istore 5, 2) := by decide +kernel
theorem dX11_off_128 : decode cX11_off 128 = .ok (.iinc 6 1, 3) := by decide +kernel
theorem dX11_off_131 : decode cX11_off 131 = .ok (.goto (-64), 3) := by decide +kernel
theorem dX11_off_134 : decode cX11_off 134 = .ok (.iload 5, 2) := by decide +kernel
theorem dX11_off_136 : decode cX11_off 136 = .ok (.iconst (-1), 1) := by decide +kernel
theorem dX11_off_137 : decode cX11_off 137 = .ok (.if_icmp .ne 12, 3) := by decide +kernel
theorem dX11_off_140 : decode cX11_off 140 = .ok (.aload_n 0, 1) := by decide +kernel
theorem dX11_off_141 : decode cX11_off 141 = .ok (.bipush 6, 2) := by decide +kernel
theorem dX11_off_143 : decode cX11_off 143 = .ok (.invokevirtual 46, 3) := by decide +kernel
theorem dX11_off_146 : decode cX11_off 146 = .ok (.goto 9, 3) := by decide +kernel
theorem dX11_off_149 : decode cX11_off 149 = .ok (.aload_n 0, 1) := by decide +kernel
theorem dX11_off_150 : decode cX11_off 150 = .ok (.iload 5, 2) := by decide +kernel
theorem dX11_off_152 : decode cX11_off 152 = .ok (.invokevirtual 50, 3) := by decide +kernel
theorem dX11_off_155 : decode cX11_off 155 = .ok (.ireturn, 1) := by decide +kernel
theorem dX11_isSeen_0 : decode cX11_isSeen 0 = .ok (.aload_n 0, 1) := by decide +kernel
theorem dX11_isSeen_1 : decode cX11_isSeen 1 = .ok (.getfield 338, 3) := by decide +kernel
theorem dX11_isSeen_4 : decode cX11_isSeen 4 = .ok (.ifnull 22, 3) := by decide +kernel
theorem dX11_isSeen_7 : decode cX11_isSeen 7 = .ok (.iload_n 1, 1) := by decide +kernel
theorem dX11_isSeen_8 : decode cX11_isSeen 8 = .ok (.ifCond .lt 18, 3) := by decide +kernel
theorem dX11_isSeen_11 : decode cX11_isSeen 11 = .ok (.iload_n 1, 1) := by decide +kernel
theorem dX11_isSeen_12 : decode cX11_isSeen 12 = .ok (.aload_n 0, 1) := by decide +kernel
theorem dX11_isSeen_13 : decode cX11_isSeen 13 = .ok (.getfield 338, 3) := by decide +kernel
theorem dX11_isSeen_16 : decode cX11_isSeen 16 = .ok (.getfield 323, 3) := by decide +kernel
theorem dX11_isSeen_19 : decode cX11_isSeen 19 = .ok (.if_icmp .ge 7, 3) := by decide +kernel
theorem dX11_isSeen_22 : decode cX11_isSeen 22 = .ok (.iconst 1, 1) := by decide +kernel
theorem dX11_isSeen_23 : decode cX11_isSeen 23 = .ok (.goto 4, 3) := by decide +kernel
theorem dX11_isSeen_26 : decode cX11_isSeen 26 = .ok (.iconst 0, 1) := by decide +kernel
theorem dX11_isSeen_27 : decode cX11_isSeen 27 = .ok (.ireturn, 1) := by decide +kernel
theorem dX11_fitOf_0 : decode cX11_fitOf 0 = .ok (.aload_n 0, 1) := by decide +kernel
theorem dX11_fitOf_1 : decode cX11_fitOf 1 = .ok (.getfield 338, 3) := by decide +kernel
theorem dX11_fitOf_4 : decode cX11_fitOf 4 = .ok (.getfield 328, 3) := by decide +kernel
theorem dX11_fitOf_7 : decode cX11_fitOf 7 = .ok (.iload_n 1, 1) := by decide +kernel
theorem dX11_fitOf_8 : decode cX11_fitOf 8 = .ok (.iaload, 1) := by decide +kernel
theorem dX11_fitOf_9 : decode cX11_fitOf 9 = .ok (.istore_n 3, 1) := by decide +kernel
theorem dX11_fitOf_10 : decode cX11_fitOf 10 = .ok (.iconst 0, 1) := by decide +kernel
theorem dX11_fitOf_11 : decode cX11_fitOf 11 = .ok (.istore 4, 2) := by decide +kernel
theorem dX11_fitOf_13 : decode cX11_fitOf 13 = .ok (.iconst 0, 1) := by decide +kernel
theorem dX11_fitOf_14 : decode cX11_fitOf 14 = .ok (.istore 5, 2) := by decide +kernel
theorem dX11_fitOf_16 : decode cX11_fitOf 16 = .ok (.iload 5, 2) := by decide +kernel
theorem dX11_fitOf_18 : decode cX11_fitOf 18 = .ok (.aload_n 0, 1) := by decide +kernel
theorem dX11_fitOf_19 : decode cX11_fitOf 19 = .ok (.getfield 338, 3) := by decide +kernel
theorem dX11_fitOf_22 : decode cX11_fitOf 22 = .ok (.getfield 264, 3) := by decide +kernel
theorem dX11_fitOf_25 : decode cX11_fitOf 25 = .ok (.if_icmp .ge 183, 3) := by decide +kernel
theorem dX11_fitOf_28 : decode cX11_fitOf 28 = .ok (.iconst 0, 1) := by decide +kernel
theorem dX11_fitOf_29 : decode cX11_fitOf 29 = .ok (.istore 6, 2) := by decide +kernel
theorem dX11_fitOf_31 : decode cX11_fitOf 31 = .ok (.iload 6, 2) := by decide +kernel
theorem dX11_fitOf_33 : decode cX11_fitOf 33 = .ok (.iconst 2, 1) := by decide +kernel
theorem dX11_fitOf_34 : decode cX11_fitOf 34 = .ok (.if_icmp .ge 168, 3) := by decide +kernel
theorem dX11_fitOf_37 : decode cX11_fitOf 37 = .ok (.iconst 0, 1) := by decide +kernel
theorem dX11_fitOf_38 : decode cX11_fitOf 38 = .ok (.istore 7, 2) := by decide +kernel
theorem dX11_fitOf_40 : decode cX11_fitOf 40 = .ok (.iload 7, 2) := by decide +kernel
theorem dX11_fitOf_42 : decode cX11_fitOf 42 = .ok (.aload_n 0, 1) := by decide +kernel
theorem dX11_fitOf_43 : decode cX11_fitOf 43 = .ok (.getfield 338, 3) := by decide +kernel
theorem dX11_fitOf_46 : decode cX11_fitOf 46 = .ok (.getfield 219, 3) := by decide +kernel
theorem dX11_fitOf_49 : decode cX11_fitOf 49 = .ok (.if_icmp .ge 147, 3) := by decide +kernel
theorem dX11_fitOf_52 : decode cX11_fitOf 52 = .ok (.aload_n 0, 1) := by decide +kernel
theorem dX11_fitOf_53 : decode cX11_fitOf 53 = .ok (.getfield 338, 3) := by decide +kernel
theorem dX11_fitOf_56 : decode cX11_fitOf 56 = .ok (.getfield 317, 3) := by decide +kernel
theorem dX11_fitOf_59 : decode cX11_fitOf 59 = .ok (.iload_n 3, 1) := by decide +kernel
theorem dX11_fitOf_60 : decode cX11_fitOf 60 = .ok (.iaload, 1) := by decide +kernel
theorem dX11_fitOf_61 : decode cX11_fitOf 61 = .ok (.istore 8, 2) := by decide +kernel
end
section
theorem dX11_fitOf_63 : decode cX11_fitOf 63 = .ok (.iload 8, 2) := by decide +kernel
theorem dX11_fitOf_65 : decode cX11_fitOf 65 = .ok (.aload_n 0, 1) := by decide +kernel
theorem dX11_fitOf_66 : decode cX11_fitOf 66 = .ok (.getfield 338, 3) := by decide +kernel
theorem dX11_fitOf_69 : decode cX11_fitOf 69 = .ok (.getfield 320, 3) := by decide +kernel
theorem dX11_fitOf_72 : decode cX11_fitOf 72 = .ok (.iload_n 3, 1) := by decide +kernel
theorem dX11_fitOf_73 : decode cX11_fitOf 73 = .ok (.iaload, 1) := by decide +kernel
theorem dX11_fitOf_74 : decode cX11_fitOf 74 = .ok (.if_icmp .gt 116, 3) := by decide +kernel
theorem dX11_fitOf_77 : decode cX11_fitOf 77 = .ok (.iconst 1, 1) := by decide +kernel
theorem dX11_fitOf_78 : decode cX11_fitOf 78 = .ok (.istore 9, 2) := by decide +kernel
theorem dX11_fitOf_80 : decode cX11_fitOf 80 = .ok (.iconst 0, 1) := by decide +kernel
theorem dX11_fitOf_81 : decode cX11_fitOf 81 = .ok (.istore 10, 2) := by decide +kernel
theorem dX11_fitOf_83 : decode cX11_fitOf 83 = .ok (.iload 10, 2) := by decide +kernel
theorem dX11_fitOf_85 : decode cX11_fitOf 85 = .ok (.iconst 5, 1) := by decide +kernel
theorem dX11_fitOf_86 : decode cX11_fitOf 86 = .ok (.if_icmp .ge 59, 3) := by decide +kernel
theorem dX11_fitOf_89 : decode cX11_fitOf 89 = .ok (.iload 9, 2) := by decide +kernel
theorem dX11_fitOf_91 : decode cX11_fitOf 91 = .ok (.ifCond .eq 45, 3) := by decide +kernel
theorem dX11_fitOf_94 : decode cX11_fitOf 94 = .ok (.aload_n 0, 1) := by decide +kernel
theorem dX11_fitOf_95 : decode cX11_fitOf 95 = .ok (.iload_n 3, 1) := by decide +kernel
theorem dX11_fitOf_96 : decode cX11_fitOf 96 = .ok (.iload 5, 2) := by decide +kernel
theorem dX11_fitOf_98 : decode cX11_fitOf 98 = .ok (.iload 6, 2) := by decide +kernel
theorem dX11_fitOf_100 : decode cX11_fitOf 100 = .ok (.iload 7, 2) := by decide +kernel
theorem dX11_fitOf_102 : decode cX11_fitOf 102 = .ok (.iload 8, 2) := by decide +kernel
theorem dX11_fitOf_104 : decode cX11_fitOf 104 = .ok (.iload 10, 2) := by decide +kernel
theorem dX11_fitOf_106 : decode cX11_fitOf 106 = .ok (.invokevirtual 379, 3) := by decide +kernel
theorem dX11_fitOf_109 : decode cX11_fitOf 109 = .ok (.ldc2_w 387, 3) := by decide +kernel
theorem dX11_fitOf_112 : decode cX11_fitOf 112 = .ok (.aload_n 0, 1) := by decide +kernel
theorem dX11_fitOf_113 : decode cX11_fitOf 113 = .ok (.getfield 338, 3) := by decide +kernel
theorem dX11_fitOf_116 : decode cX11_fitOf 116 = .ok (.getfield 326, 3) := by decide +kernel
theorem dX11_fitOf_119 : decode cX11_fitOf 119 = .ok (.iconst 5, 1) := by decide +kernel
theorem dX11_fitOf_120 : decode cX11_fitOf 120 = .ok (.iload_n 1, 1) := by decide +kernel
theorem dX11_fitOf_121 : decode cX11_fitOf 121 = .ok (.imul, 1) := by decide +kernel
theorem dX11_fitOf_122 : decode cX11_fitOf 122 = .ok (.iload 10, 2) := by decide +kernel
theorem dX11_fitOf_124 : decode cX11_fitOf 124 = .ok (.iadd, 1) := by decide +kernel
theorem dX11_fitOf_125 : decode cX11_fitOf 125 = .ok (.iaload, 1) := by decide +kernel
theorem dX11_fitOf_126 : decode cX11_fitOf 126 = .ok (.i2l, 1) := by decide +kernel
theorem dX11_fitOf_127 : decode cX11_fitOf 127 = .ok (.lmul, 1) := by decide +kernel
theorem dX11_fitOf_128 : decode cX11_fitOf 128 = .ok (.lcmp, 1) := by decide +kernel
theorem dX11_fitOf_129 : decode cX11_fitOf 129 = .ok (.ifCond .ne 7, 3) := by decide +kernel
theorem dX11_fitOf_132 : decode cX11_fitOf 132 = .ok (.iconst 1, 1) := by decide +kernel
theorem dX11_fitOf_133 : decode cX11_fitOf 133 = .ok (.goto 4, 3) := by decide +kernel
theorem dX11_fitOf_136 : decode cX11_fitOf 136 = .ok (.iconst 0, 1) := by decide +kernel
theorem dX11_fitOf_137 : decode cX11_fitOf 137 = .ok (.istore 9, 2) := by decide +kernel
theorem dX11_fitOf_139 : decode cX11_fitOf 139 = .ok (.iinc 10 1, 3) := by decide +kernel
theorem dX11_fitOf_142 : decode cX11_fitOf 142 = .ok (.goto (-59), 3) := by decide +kernel
theorem dX11_fitOf_145 : decode cX11_fitOf 145 = .ok (.iload 9, 2) := by decide +kernel
theorem dX11_fitOf_147 : decode cX11_fitOf 147 = .ok (.ifCond .ne 6, 3) := by decide +kernel
theorem dX11_fitOf_150 : decode cX11_fitOf 150 = .ok (.goto 34, 3) := by decide +kernel
theorem dX11_fitOf_153 : decode cX11_fitOf 153 = .ok (.iload 4, 2) := by decide +kernel
theorem dX11_fitOf_155 : decode cX11_fitOf 155 = .ok (.iload_n 2, 1) := by decide +kernel
theorem dX11_fitOf_156 : decode cX11_fitOf 156 = .ok (.if_icmp .ne 25, 3) := by decide +kernel
theorem dX11_fitOf_159 : decode cX11_fitOf 159 = .ok (.sipush 1000, 3) := by decide +kernel
theorem dX11_fitOf_162 : decode cX11_fitOf 162 = .ok (.iload 5, 2) := by decide +kernel
theorem dX11_fitOf_164 : decode cX11_fitOf 164 = .ok (.imul, 1) := by decide +kernel
theorem dX11_fitOf_165 : decode cX11_fitOf 165 = .ok (.bipush 100, 2) := by decide +kernel
theorem dX11_fitOf_167 : decode cX11_fitOf 167 = .ok (.iload 6, 2) := by decide +kernel
theorem dX11_fitOf_169 : decode cX11_fitOf 169 = .ok (.imul, 1) := by decide +kernel
theorem dX11_fitOf_170 : decode cX11_fitOf 170 = .ok (.iadd, 1) := by decide +kernel
theorem dX11_fitOf_171 : decode cX11_fitOf 171 = .ok (.bipush 10, 2) := by decide +kernel
theorem dX11_fitOf_173 : decode cX11_fitOf 173 = .ok (.iload 7, 2) := by decide +kernel
theorem dX11_fitOf_175 : decode cX11_fitOf 175 = .ok (.imul, 1) := by decide +kernel
theorem dX11_fitOf_176 : decode cX11_fitOf 176 = .ok (.iadd, 1) := by decide +kernel
theorem dX11_fitOf_177 : decode cX11_fitOf 177 = .ok (.iload 8, 2) := by decide +kernel
theorem dX11_fitOf_179 : decode cX11_fitOf 179 = .ok (.iadd, 1) := by decide +kernel
theorem dX11_fitOf_180 : decode cX11_fitOf 180 = .ok (.ireturn, 1) := by decide +kernel
theorem dX11_fitOf_181 : decode cX11_fitOf 181 = .ok (.iinc 4 1, 3) := by decide +kernel
theorem dX11_fitOf_184 : decode cX11_fitOf 184 = .ok (.iinc 8 1, 3) := by decide +kernel
theorem dX11_fitOf_187 : decode cX11_fitOf 187 = .ok (.goto (-124), 3) := by decide +kernel
theorem dX11_fitOf_190 : decode cX11_fitOf 190 = .ok (.iinc 7 1, 3) := by decide +kernel
theorem dX11_fitOf_193 : decode cX11_fitOf 193 = .ok (.goto (-153), 3) := by decide +kernel
theorem dX11_fitOf_196 : decode cX11_fitOf 196 = .ok (.iinc 6 1, 3) := by decide +kernel
theorem dX11_fitOf_199 : decode cX11_fitOf 199 = .ok (.goto (-168), 3) := by decide +kernel
theorem dX11_fitOf_202 : decode cX11_fitOf 202 = .ok (.iinc 5 1, 3) := by decide +kernel
theorem dX11_fitOf_205 : decode cX11_fitOf 205 = .ok (.goto (-189), 3) := by decide +kernel
theorem dX11_fitOf_208 : decode cX11_fitOf 208 = .ok (.iload_n 2, 1) := by decide +kernel
theorem dX11_fitOf_209 : decode cX11_fitOf 209 = .ok (.ifCond .ge 8, 3) := by decide +kernel
theorem dX11_fitOf_212 : decode cX11_fitOf 212 = .ok (.iload 4, 2) := by decide +kernel
theorem dX11_fitOf_214 : decode cX11_fitOf 214 = .ok (.goto 4, 3) := by decide +kernel
theorem dX11_fitOf_217 : decode cX11_fitOf 217 = .ok (.iconst (-1), 1) := by decide +kernel
theorem dX11_fitOf_218 : decode cX11_fitOf 218 = .ok (.ireturn, 1) := by decide +kernel
theorem dX11_fits_0 : decode cX11_fits 0 = .ok (.aload_n 0, 1) := by decide +kernel
theorem dX11_fits_1 : decode cX11_fits 1 = .ok (.iconst 0, 1) := by decide +kernel
theorem dX11_fits_2 : decode cX11_fits 2 = .ok (.putfield 40, 3) := by decide +kernel
theorem dX11_fits_5 : decode cX11_fits 5 = .ok (.aload_n 0, 1) := by decide +kernel
theorem dX11_fits_6 : decode cX11_fits 6 = .ok (.iload_n 1, 1) := by decide +kernel
theorem dX11_fits_7 : decode cX11_fits 7 = .ok (.invokevirtual 468, 3) := by decide +kernel
theorem dX11_fits_10 : decode cX11_fits 10 = .ok (.ifCond .eq 16, 3) := by decide +kernel
theorem dX11_fits_13 : decode cX11_fits 13 = .ok (.aload_n 0, 1) := by decide +kernel
theorem dX11_fits_14 : decode cX11_fits 14 = .ok (.aload_n 0, 1) := by decide +kernel
theorem dX11_fits_15 : decode cX11_fits 15 = .ok (.iload_n 1, 1) := by decide +kernel
theorem dX11_fits_16 : decode cX11_fits 16 = .ok (.iconst (-1), 1) := by decide +kernel
theorem dX11_fits_17 : decode cX11_fits 17 = .ok (.invokevirtual 471, 3) := by decide +kernel
theorem dX11_fits_20 : decode cX11_fits 20 = .ok (.invokevirtual 50, 3) := by decide +kernel
theorem dX11_fits_23 : decode cX11_fits 23 = .ok (.goto 8, 3) := by decide +kernel
theorem dX11_fits_26 : decode cX11_fits 26 = .ok (.aload_n 0, 1) := by decide +kernel
theorem dX11_fits_27 : decode cX11_fits 27 = .ok (.iconst 1, 1) := by decide +kernel
theorem dX11_fits_28 : decode cX11_fits 28 = .ok (.invokevirtual 46, 3) := by decide +kernel
theorem dX11_fits_31 : decode cX11_fits 31 = .ok (.ireturn, 1) := by decide +kernel
theorem dX11_fit_0 : decode cX11_fit 0 = .ok (.aload_n 0, 1) := by decide +kernel
theorem dX11_fit_1 : decode cX11_fit 1 = .ok (.iconst 0, 1) := by decide +kernel
theorem dX11_fit_2 : decode cX11_fit 2 = .ok (.putfield 40, 3) := by decide +kernel
theorem dX11_fit_5 : decode cX11_fit 5 = .ok (.aload_n 0, 1) := by decide +kernel
theorem dX11_fit_6 : decode cX11_fit 6 = .ok (.iload_n 1, 1) := by decide +kernel
theorem dX11_fit_7 : decode cX11_fit 7 = .ok (.invokevirtual 468, 3) := by decide +kernel
theorem dX11_fit_10 : decode cX11_fit 10 = .ok (.ifCond .eq 16, 3) := by decide +kernel
theorem dX11_fit_13 : decode cX11_fit 13 = .ok (.iload_n 2, 1) := by decide +kernel
theorem dX11_fit_14 : decode cX11_fit 14 = .ok (.ifCond .lt 12, 3) := by decide +kernel
theorem dX11_fit_17 : decode cX11_fit 17 = .ok (.aload_n 0, 1) := by decide +kernel
theorem dX11_fit_18 : decode cX11_fit 18 = .ok (.iload_n 1, 1) := by decide +kernel
theorem dX11_fit_19 : decode cX11_fit 19 = .ok (.iload_n 2, 1) := by decide +kernel
theorem dX11_fit_20 : decode cX11_fit 20 = .ok (.invokevirtual 471, 3) := by decide +kernel
theorem dX11_fit_23 : decode cX11_fit 23 = .ok (.goto 4, 3) := by decide +kernel
theorem dX11_fit_26 : decode cX11_fit 26 = .ok (.iconst (-1), 1) := by decide +kernel
theorem dX11_fit_27 : decode cX11_fit 27 = .ok (.istore_n 3, 1) := by decide +kernel
theorem dX11_fit_28 : decode cX11_fit 28 = .ok (.iload_n 3, 1) := by decide +kernel
theorem dX11_fit_29 : decode cX11_fit 29 = .ok (.iconst (-1), 1) := by decide +kernel
theorem dX11_fit_30 : decode cX11_fit 30 = .ok (.if_icmp .ne 11, 3) := by decide +kernel
theorem dX11_fit_33 : decode cX11_fit 33 = .ok (.aload_n 0, 1) := by decide +kernel
theorem dX11_fit_34 : decode cX11_fit 34 = .ok (.iconst 1, 1) := by decide +kernel
theorem dX11_fit_35 : decode cX11_fit 35 = .ok (.invokevirtual 46, 3) := by decide +kernel
theorem dX11_fit_38 : decode cX11_fit 38 = .ok (.goto 8, 3) := by decide +kernel
theorem dX11_fit_41 : decode cX11_fit 41 = .ok (.aload_n 0, 1) := by decide +kernel
theorem dX11_fit_42 : decode cX11_fit 42 = .ok (.iload_n 3, 1) := by decide +kernel
theorem dX11_fit_43 : decode cX11_fit 43 = .ok (.invokevirtual 50, 3) := by decide +kernel
theorem dX11_fit_46 : decode cX11_fit 46 = .ok (.ireturn, 1) := by decide +kernel
theorem dX11_lies_0 : decode cX11_lies 0 = .ok (.aload_n 0, 1) := by decide +kernel
theorem dX11_lies_1 : decode cX11_lies 1 = .ok (.iconst 0, 1) := by decide +kernel
theorem dX11_lies_2 : decode cX11_lies 2 = .ok (.putfield 40, 3) := by decide +kernel
theorem dX11_lies_5 : decode cX11_lies 5 = .ok (.aload_n 0, 1) := by decide +kernel
theorem dX11_lies_6 : decode cX11_lies 6 = .ok (.getfield 338, 3) := by decide +kernel
theorem dX11_lies_9 : decode cX11_lies 9 = .ok (.ifnonnull 9, 3) := by decide +kernel
theorem dX11_lies_12 : decode cX11_lies 12 = .ok (.aload_n 0, 1) := by decide +kernel
theorem dX11_lies_13 : decode cX11_lies 13 = .ok (.iconst 1, 1) := by decide +kernel
theorem dX11_lies_14 : decode cX11_lies 14 = .ok (.invokevirtual 46, 3) := by decide +kernel
theorem dX11_lies_17 : decode cX11_lies 17 = .ok (.ireturn, 1) := by decide +kernel
theorem dX11_lies_18 : decode cX11_lies 18 = .ok (.iconst 0, 1) := by decide +kernel
theorem dX11_lies_19 : decode cX11_lies 19 = .ok (.istore_n 1, 1) := by decide +kernel
theorem dX11_lies_20 : decode cX11_lies 20 = .ok (.iconst 0, 1) := by decide +kernel
theorem dX11_lies_21 : decode cX11_lies 21 = .ok (.istore_n 2, 1) := by decide +kernel
theorem dX11_lies_22 : decode cX11_lies 22 = .ok (.iload_n 2, 1) := by decide +kernel
theorem dX11_lies_23 : decode cX11_lies 23 = .ok (.aload_n 0, 1) := by decide +kernel
theorem dX11_lies_24 : decode cX11_lies 24 = .ok (.getfield 338, 3) := by decide +kernel
theorem dX11_lies_27 : decode cX11_lies 27 = .ok (.getfield 323, 3) := by decide +kernel
theorem dX11_lies_30 : decode cX11_lies 30 = .ok (.if_icmp .ge 28, 3) := by decide +kernel
theorem dX11_lies_33 : decode cX11_lies 33 = .ok (.iload_n 1, 1) := by decide +kernel
theorem dX11_lies_34 : decode cX11_lies 34 = .ok (.aload_n 0, 1) := by decide +kernel
theorem dX11_lies_35 : decode cX11_lies 35 = .ok (.iload_n 2, 1) := by decide +kernel
theorem dX11_lies_36 : decode cX11_lies 36 = .ok (.iconst (-1), 1) := by decide +kernel
theorem dX11_lies_37 : decode cX11_lies 37 = .ok (.invokevirtual 471, 3) := by decide +kernel
theorem dX11_lies_40 : decode cX11_lies 40 = .ok (.ifCond .ne 9, 3) := by decide +kernel
theorem dX11_lies_43 : decode cX11_lies 43 = .ok (.iconst 1, 1) := by decide +kernel
theorem dX11_lies_44 : decode cX11_lies 44 = .ok (.iload_n 2, 1) := by decide +kernel
theorem dX11_lies_45 : decode cX11_lies 45 = .ok (.ishl, 1) := by decide +kernel
theorem dX11_lies_46 : decode cX11_lies 46 = .ok (.goto 4, 3) := by decide +kernel
theorem dX11_lies_49 : decode cX11_lies 49 = .ok (.iconst 0, 1) := by decide +kernel
theorem dX11_lies_50 : decode cX11_lies 50 = .ok (.ior, 1) := by decide +kernel
theorem dX11_lies_51 : decode cX11_lies 51 = .ok (.istore_n 1, 1) := by decide +kernel
theorem dX11_lies_52 : decode cX11_lies 52 = .ok (.iinc 2 1, 3) := by decide +kernel
theorem dX11_lies_55 : decode cX11_lies 55 = .ok (.goto (-33), 3) := by decide +kernel
theorem dX11_lies_58 : decode cX11_lies 58 = .ok (.aload_n 0, 1) := by decide +kernel
theorem dX11_lies_59 : decode cX11_lies 59 = .ok (.iload_n 1, 1) := by decide +kernel
theorem dX11_lies_60 : decode cX11_lies 60 = .ok (.invokevirtual 50, 3) := by decide +kernel
theorem dX11_lies_63 : decode cX11_lies 63 = .ok (.ireturn, 1) := by decide +kernel
theorem dX11_isDay_0 : decode cX11_isDay 0 = .ok (.aload_n 0, 1) := by decide +kernel
theorem dX11_isDay_1 : decode cX11_isDay 1 = .ok (.getfield 338, 3) := by decide +kernel
theorem dX11_isDay_4 : decode cX11_isDay 4 = .ok (.ifnull 16, 3) := by decide +kernel
theorem dX11_isDay_7 : decode cX11_isDay 7 = .ok (.aload_n 0, 1) := by decide +kernel
theorem dX11_isDay_8 : decode cX11_isDay 8 = .ok (.getfield 28, 3) := by decide +kernel
theorem dX11_isDay_11 : decode cX11_isDay 11 = .ok (.bipush (-2), 2) := by decide +kernel
theorem dX11_isDay_13 : decode cX11_isDay 13 = .ok (.if_icmp .eq 7, 3) := by decide +kernel
theorem dX11_isDay_16 : decode cX11_isDay 16 = .ok (.iconst 1, 1) := by decide +kernel
theorem dX11_isDay_17 : decode cX11_isDay 17 = .ok (.goto 4, 3) := by decide +kernel
theorem dX11_isDay_20 : decode cX11_isDay 20 = .ok (.iconst 0, 1) := by decide +kernel
theorem dX11_isDay_21 : decode cX11_isDay 21 = .ok (.ireturn, 1) := by decide +kernel
theorem dX11_day_0 : decode cX11_day 0 = .ok (.aload_n 0, 1) := by decide +kernel
theorem dX11_day_1 : decode cX11_day 1 = .ok (.iconst 0, 1) := by decide +kernel
theorem dX11_day_2 : decode cX11_day 2 = .ok (.putfield 40, 3) := by decide +kernel
theorem dX11_day_5 : decode cX11_day 5 = .ok (.aload_n 0, 1) := by decide +kernel
theorem dX11_day_6 : decode cX11_day 6 = .ok (.iload_n 1, 1) := by decide +kernel
theorem dX11_day_7 : decode cX11_day 7 = .ok (.invokevirtual 346, 3) := by decide +kernel
theorem dX11_day_10 : decode cX11_day 10 = .ok (.ifCond .eq 11, 3) := by decide +kernel
theorem dX11_day_13 : decode cX11_day 13 = .ok (.aload_n 0, 1) := by decide +kernel
theorem dX11_day_14 : decode cX11_day 14 = .ok (.iload_n 2, 1) := by decide +kernel
theorem dX11_day_15 : decode cX11_day 15 = .ok (.invokevirtual 455, 3) := by decide +kernel
theorem dX11_day_18 : decode cX11_day 18 = .ok (.ifCond .ne 9, 3) := by decide +kernel
theorem dX11_day_21 : decode cX11_day 21 = .ok (.aload_n 0, 1) := by decide +kernel
theorem dX11_day_22 : decode cX11_day 22 = .ok (.iconst 1, 1) := by decide +kernel
theorem dX11_day_23 : decode cX11_day 23 = .ok (.invokevirtual 46, 3) := by decide +kernel
theorem dX11_day_26 : decode cX11_day 26 = .ok (.ireturn, 1) := by decide +kernel
theorem dX11_day_27 : decode cX11_day 27 = .ok (.iload_n 3, 1) := by decide +kernel
theorem dX11_day_28 : decode cX11_day 28 = .ok (.iconst 0, 1) := by decide +kernel
theorem dX11_day_29 : decode cX11_day 29 = .ok (.sipush 400, 3) := by decide +kernel
theorem dX11_day_32 : decode cX11_day 32 = .ok (.invokestatic 118, 3) := by decide +kernel
theorem dX11_day_35 : decode cX11_day 35 = .ok (.ifCond .eq 15, 3) := by decide +kernel
theorem dX11_day_38 : decode cX11_day 38 = .ok (.iload 4, 2) := by decide +kernel
theorem dX11_day_40 : decode cX11_day 40 = .ok (.iconst 0, 1) := by decide +kernel
theorem dX11_day_41 : decode cX11_day 41 = .ok (.ldc_w 474, 3) := by decide +kernel
theorem dX11_day_44 : decode cX11_day 44 = .ok (.invokestatic 118, 3) := by decide +kernel
theorem dX11_day_47 : decode cX11_day 47 = .ok (.ifCond .ne 9, 3) := by decide +kernel
theorem dX11_day_50 : decode cX11_day 50 = .ok (.aload_n 0, 1) := by decide +kernel
theorem dX11_day_51 : decode cX11_day 51 = .ok (.iconst 2, 1) := by decide +kernel
theorem dX11_day_52 : decode cX11_day 52 = .ok (.invokevirtual 46, 3) := by decide +kernel
theorem dX11_day_55 : decode cX11_day 55 = .ok (.ireturn, 1) := by decide +kernel
theorem dX11_day_56 : decode cX11_day 56 = .ok (.aload_n 0, 1) := by decide +kernel
theorem dX11_day_57 : decode cX11_day 57 = .ok (.iload_n 1, 1) := by decide +kernel
theorem dX11_day_58 : decode cX11_day 58 = .ok (.putfield 28, 3) := by decide +kernel
theorem dX11_day_61 : decode cX11_day 61 = .ok (.aload_n 0, 1) := by decide +kernel
theorem dX11_day_62 : decode cX11_day 62 = .ok (.iconst 0, 1) := by decide +kernel
theorem dX11_day_63 : decode cX11_day 63 = .ok (.putfield 475, 3) := by decide +kernel
theorem dX11_day_66 : decode cX11_day 66 = .ok (.iload 4, 2) := by decide +kernel
theorem dX11_day_68 : decode cX11_day 68 = .ok (.istore 5, 2) := by decide +kernel
theorem dX11_day_70 : decode cX11_day 70 = .ok (.iconst 0, 1) := by decide +kernel
theorem dX11_day_71 : decode cX11_day 71 = .ok (.istore 6, 2) := by decide +kernel
theorem dX11_day_73 : decode cX11_day 73 = .ok (.iload 6, 2) := by decide +kernel
theorem dX11_day_75 : decode cX11_day 75 = .ok (.aload_n 0, 1) := by decide +kernel
theorem dX11_day_76 : decode cX11_day 76 = .ok (.getfield 338, 3) := by decide +kernel
theorem dX11_day_79 : decode cX11_day 79 = .ok (.getfield 219, 3) := by decide +kernel
theorem dX11_day_82 : decode cX11_day 82 = .ok (.if_icmp .ge 62, 3) := by decide +kernel
theorem dX11_day_85 : decode cX11_day 85 = .ok (.ldc2_w 478, 3) := by decide +kernel
theorem dX11_day_88 : decode cX11_day 88 = .ok (.iload 5, 2) := by decide +kernel
theorem dX11_day_90 : decode cX11_day 90 = .ok (.i2l, 1) := by decide +kernel
theorem dX11_day_91 : decode cX11_day 91 = .ok (.lmul, 1) := by decide +kernel
theorem dX11_day_92 : decode cX11_day 92 = .ok (.ldc2_w 480, 3) := by decide +kernel
theorem dX11_day_95 : decode cX11_day 95 = .ok (.ladd, 1) := by decide +kernel
theorem dX11_day_96 : decode cX11_day 96 = .ok (.ldc2_w 482, 3) := by decide +kernel
theorem dX11_day_99 : decode cX11_day 99 = .ok (.lrem, 1) := by decide +kernel
theorem dX11_day_100 : decode cX11_day 100 = .ok (.l2i, 1) := by decide +kernel
theorem dX11_day_101 : decode cX11_day 101 = .ok (.istore 5, 2) := by decide +kernel
theorem dX11_day_103 : decode cX11_day 103 = .ok (.aload_n 0, 1) := by decide +kernel
theorem dX11_day_104 : decode cX11_day 104 = .ok (.dup, 1) := by decide +kernel
theorem dX11_day_105 : decode cX11_day 105 = .ok (.getfield 475, 3) := by decide +kernel
theorem dX11_day_108 : decode cX11_day 108 = .ok (.iload 5, 2) := by decide +kernel
theorem dX11_day_110 : decode cX11_day 110 = .ok (.bipush 100, 2) := by decide +kernel
theorem dX11_day_112 : decode cX11_day 112 = .ok (.irem, 1) := by decide +kernel
theorem dX11_day_113 : decode cX11_day 113 = .ok (.aload_n 0, 1) := by decide +kernel
theorem dX11_day_114 : decode cX11_day 114 = .ok (.getfield 338, 3) := by decide +kernel
theorem dX11_day_117 : decode cX11_day 117 = .ok (.getfield 246, 3) := by decide +kernel
theorem dX11_day_120 : decode cX11_day 120 = .ok (.iload 6, 2) := by decide +kernel
theorem dX11_day_122 : decode cX11_day 122 = .ok (.iaload, 1) := by decide +kernel
theorem dX11_day_123 : decode cX11_day 123 = .ok (.if_icmp .ge 10, 3) := by decide +kernel
theorem dX11_day_126 : decode cX11_day 126 = .ok (.iconst 1, 1) := by decide +kernel
theorem dX11_day_127 : decode cX11_day 127 = .ok (.iload 6, 2) := by decide +kernel
theorem dX11_day_129 : decode cX11_day 129 = .ok (.ishl, 1) := by decide +kernel
theorem dX11_day_130 : decode cX11_day 130 = .ok (.goto 4, 3) := by decide +kernel
theorem dX11_day_133 : decode cX11_day 133 = .ok (.iconst 0, 1) := by decide +kernel
theorem dX11_day_134 : decode cX11_day 134 = .ok (.ior, 1) := by decide +kernel
theorem dX11_day_135 : decode cX11_day 135 = .ok (.putfield 475, 3) := by decide +kernel
theorem dX11_day_138 : decode cX11_day 138 = .ok (.iinc 6 1, 3) := by decide +kernel
theorem dX11_day_141 : decode cX11_day 141 = .ok (.goto (-68), 3) := by decide +kernel
theorem dX11_day_144 : decode cX11_day 144 = .ok (.iconst 0, 1) := by decide +kernel
theorem dX11_day_145 : decode cX11_day 145 = .ok (.istore 6, 2) := by decide +kernel
theorem dX11_day_147 : decode cX11_day 147 = .ok (.iload 6, 2) := by decide +kernel
theorem dX11_day_149 : decode cX11_day 149 = .ok (.bipush 7, 2) := by decide +kernel
theorem dX11_day_151 : decode cX11_day 151 = .ok (.if_icmp .ge 17, 3) := by decide +kernel
theorem dX11_day_154 : decode cX11_day 154 = .ok (.aload_n 0, 1) := by decide +kernel
theorem dX11_day_155 : decode cX11_day 155 = .ok (.getfield 31, 3) := by decide +kernel
theorem dX11_day_158 : decode cX11_day 158 = .ok (.iload 6, 2) := by decide +kernel
theorem dX11_day_160 : decode cX11_day 160 = .ok (.lconst 0, 1) := by decide +kernel
theorem dX11_day_161 : decode cX11_day 161 = .ok (.lastore, 1) := by decide +kernel
theorem dX11_day_162 : decode cX11_day 162 = .ok (.iinc 6 1, 3) := by decide +kernel
theorem dX11_day_165 : decode cX11_day 165 = .ok (.goto (-18), 3) := by decide +kernel
theorem dX11_day_168 : decode cX11_day 168 = .ok (.aload_n 0, 1) := by decide +kernel
theorem dX11_day_169 : decode cX11_day 169 = .ok (.getfield 31, 3) := by decide +kernel
theorem dX11_day_172 : decode cX11_day 172 = .ok (.iconst 0, 1) := by decide +kernel
theorem dX11_day_173 : decode cX11_day 173 = .ok (.iload_n 2, 1) := by decide +kernel
theorem dX11_day_174 : decode cX11_day 174 = .ok (.i2l, 1) := by decide +kernel
theorem dX11_day_175 : decode cX11_day 175 = .ok (.lastore, 1) := by decide +kernel
theorem dX11_day_176 : decode cX11_day 176 = .ok (.aload_n 0, 1) := by decide +kernel
theorem dX11_day_177 : decode cX11_day 177 = .ok (.getfield 31, 3) := by decide +kernel
theorem dX11_day_180 : decode cX11_day 180 = .ok (.iconst 1, 1) := by decide +kernel
theorem dX11_day_181 : decode cX11_day 181 = .ok (.iload_n 3, 1) := by decide +kernel
theorem dX11_day_182 : decode cX11_day 182 = .ok (.i2l, 1) := by decide +kernel
theorem dX11_day_183 : decode cX11_day 183 = .ok (.lastore, 1) := by decide +kernel
theorem dX11_day_184 : decode cX11_day 184 = .ok (.aload_n 0, 1) := by decide +kernel
theorem dX11_day_185 : decode cX11_day 185 = .ok (.iconst 0, 1) := by decide +kernel
theorem dX11_day_186 : decode cX11_day 186 = .ok (.putfield 340, 3) := by decide +kernel
theorem dX11_day_189 : decode cX11_day 189 = .ok (.aload_n 0, 1) := by decide +kernel
theorem dX11_day_190 : decode cX11_day 190 = .ok (.iconst 0, 1) := by decide +kernel
theorem dX11_day_191 : decode cX11_day 191 = .ok (.putfield 343, 3) := by decide +kernel
theorem dX11_day_194 : decode cX11_day 194 = .ok (.aload_n 0, 1) := by decide +kernel
theorem dX11_day_195 : decode cX11_day 195 = .ok (.aload_n 0, 1) := by decide +kernel
theorem dX11_day_196 : decode cX11_day 196 = .ok (.getfield 475, 3) := by decide +kernel
theorem dX11_day_199 : decode cX11_day 199 = .ok (.invokevirtual 50, 3) := by decide +kernel
theorem dX11_day_202 : decode cX11_day 202 = .ok (.ireturn, 1) := by decide +kernel
theorem dX11_keeps_0 : decode cX11_keeps 0 = .ok (.aload_n 0, 1) := by decide +kernel
theorem dX11_keeps_1 : decode cX11_keeps 1 = .ok (.getfield 340, 3) := by decide +kernel
theorem dX11_keeps_4 : decode cX11_keeps 4 = .ok (.bipush 16, 2) := by decide +kernel
theorem dX11_keeps_6 : decode cX11_keeps 6 = .ok (.if_icmp .ne 42, 3) := by decide +kernel
theorem dX11_keeps_9 : decode cX11_keeps 9 = .ok (.iconst 0, 1) := by decide +kernel
theorem dX11_keeps_10 : decode cX11_keeps 10 = .ok (.istore_n 1, 1) := by decide +kernel
theorem dX11_keeps_11 : decode cX11_keeps 11 = .ok (.iload_n 1, 1) := by decide +kernel
theorem dX11_keeps_12 : decode cX11_keeps 12 = .ok (.bipush 105, 2) := by decide +kernel
theorem dX11_keeps_14 : decode cX11_keeps 14 = .ok (.if_icmp .ge 24, 3) := by decide +kernel
theorem dX11_keeps_17 : decode cX11_keeps 17 = .ok (.aload_n 0, 1) := by decide +kernel
theorem dX11_keeps_18 : decode cX11_keeps 18 = .ok (.getfield 34, 3) := by decide +kernel
theorem dX11_keeps_21 : decode cX11_keeps 21 = .ok (.iload_n 1, 1) := by decide +kernel
theorem dX11_keeps_22 : decode cX11_keeps 22 = .ok (.aload_n 0, 1) := by decide +kernel
theorem dX11_keeps_23 : decode cX11_keeps 23 = .ok (.getfield 34, 3) := by decide +kernel
theorem dX11_keeps_26 : decode cX11_keeps 26 = .ok (.iload_n 1, 1) := by decide +kernel
theorem dX11_keeps_27 : decode cX11_keeps 27 = .ok (.bipush 7, 2) := by decide +kernel
theorem dX11_keeps_29 : decode cX11_keeps 29 = .ok (.iadd, 1) := by decide +kernel
theorem dX11_keeps_30 : decode cX11_keeps 30 = .ok (.laload, 1) := by decide +kernel
theorem dX11_keeps_31 : decode cX11_keeps 31 = .ok (.lastore, 1) := by decide +kernel
theorem dX11_keeps_32 : decode cX11_keeps 32 = .ok (.iinc 1 1, 3) := by decide +kernel
theorem dX11_keeps_35 : decode cX11_keeps 35 = .ok (.goto (-24), 3) := by decide +kernel
theorem dX11_keeps_38 : decode cX11_keeps 38 = .ok (.aload_n 0, 1) := by decide +kernel
theorem dX11_keeps_39 : decode cX11_keeps 39 = .ok (.dup, 1) := by decide +kernel
theorem dX11_keeps_40 : decode cX11_keeps 40 = .ok (.getfield 340, 3) := by decide +kernel
theorem dX11_keeps_43 : decode cX11_keeps 43 = .ok (.iconst 1, 1) := by decide +kernel
theorem dX11_keeps_44 : decode cX11_keeps 44 = .ok (.isub, 1) := by decide +kernel
theorem dX11_keeps_45 : decode cX11_keeps 45 = .ok (.putfield 340, 3) := by decide +kernel
theorem dX11_keeps_48 : decode cX11_keeps 48 = .ok (.iconst 0, 1) := by decide +kernel
theorem dX11_keeps_49 : decode cX11_keeps 49 = .ok (.istore_n 1, 1) := by decide +kernel
theorem dX11_keeps_50 : decode cX11_keeps 50 = .ok (.iload_n 1, 1) := by decide +kernel
theorem dX11_keeps_51 : decode cX11_keeps 51 = .ok (.bipush 7, 2) := by decide +kernel
theorem dX11_keeps_53 : decode cX11_keeps 53 = .ok (.if_icmp .ge 29, 3) := by decide +kernel
theorem dX11_keeps_56 : decode cX11_keeps 56 = .ok (.aload_n 0, 1) := by decide +kernel
theorem dX11_keeps_57 : decode cX11_keeps 57 = .ok (.getfield 34, 3) := by decide +kernel
theorem dX11_keeps_60 : decode cX11_keeps 60 = .ok (.bipush 7, 2) := by decide +kernel
theorem dX11_keeps_62 : decode cX11_keeps 62 = .ok (.aload_n 0, 1) := by decide +kernel
theorem dX11_keeps_63 : decode cX11_keeps 63 = .ok (.getfield 340, 3) := by decide +kernel
theorem dX11_keeps_66 : decode cX11_keeps 66 = .ok (.imul, 1) := by decide +kernel
theorem dX11_keeps_67 : decode cX11_keeps 67 = .ok (.iload_n 1, 1) := by decide +kernel
theorem dX11_keeps_68 : decode cX11_keeps 68 = .ok (.iadd, 1) := by decide +kernel
theorem dX11_keeps_69 : decode cX11_keeps 69 = .ok (.aload_n 0, 1) := by decide +kernel
theorem dX11_keeps_70 : decode cX11_keeps 70 = .ok (.getfield 31, 3) := by decide +kernel
theorem dX11_keeps_73 : decode cX11_keeps 73 = .ok (.iload_n 1, 1) := by decide +kernel
theorem dX11_keeps_74 : decode cX11_keeps 74 = .ok (.laload, 1) := by decide +kernel
theorem dX11_keeps_75 : decode cX11_keeps 75 = .ok (.lastore, 1) := by decide +kernel
theorem dX11_keeps_76 : decode cX11_keeps 76 = .ok (.iinc 1 1, 3) := by decide +kernel
theorem dX11_keeps_79 : decode cX11_keeps 79 = .ok (.goto (-29), 3) := by decide +kernel
theorem dX11_keeps_82 : decode cX11_keeps 82 = .ok (.aload_n 0, 1) := by decide +kernel
theorem dX11_keeps_83 : decode cX11_keeps 83 = .ok (.dup, 1) := by decide +kernel
theorem dX11_keeps_84 : decode cX11_keeps 84 = .ok (.getfield 340, 3) := by decide +kernel
theorem dX11_keeps_87 : decode cX11_keeps 87 = .ok (.iconst 1, 1) := by decide +kernel
theorem dX11_keeps_88 : decode cX11_keeps 88 = .ok (.iadd, 1) := by decide +kernel
theorem dX11_keeps_89 : decode cX11_keeps 89 = .ok (.putfield 340, 3) := by decide +kernel
theorem dX11_keeps_92 : decode cX11_keeps 92 = .ok (.return_, 1) := by decide +kernel
theorem dX11_rainsIn_0 : decode cX11_rainsIn 0 = .ok (.aload_n 0, 1) := by decide +kernel
theorem dX11_rainsIn_1 : decode cX11_rainsIn 1 = .ok (.iload_n 1, 1) := by decide +kernel
theorem dX11_rainsIn_2 : decode cX11_rainsIn 2 = .ok (.invokevirtual 420, 3) := by decide +kernel
theorem dX11_rainsIn_5 : decode cX11_rainsIn 5 = .ok (.istore_n 2, 1) := by decide +kernel
theorem dX11_rainsIn_6 : decode cX11_rainsIn 6 = .ok (.iload_n 2, 1) := by decide +kernel
theorem dX11_rainsIn_7 : decode cX11_rainsIn 7 = .ok (.aload_n 0, 1) := by decide +kernel
theorem dX11_rainsIn_8 : decode cX11_rainsIn 8 = .ok (.getfield 338, 3) := by decide +kernel
theorem dX11_rainsIn_11 : decode cX11_rainsIn 11 = .ok (.getfield 219, 3) := by decide +kernel
theorem dX11_rainsIn_14 : decode cX11_rainsIn 14 = .ok (.if_icmp .ge 19, 3) := by decide +kernel
theorem dX11_rainsIn_17 : decode cX11_rainsIn 17 = .ok (.aload_n 0, 1) := by decide +kernel
theorem dX11_rainsIn_18 : decode cX11_rainsIn 18 = .ok (.getfield 475, 3) := by decide +kernel
theorem dX11_rainsIn_21 : decode cX11_rainsIn 21 = .ok (.iload_n 2, 1) := by decide +kernel
theorem dX11_rainsIn_22 : decode cX11_rainsIn 22 = .ok (.ishr, 1) := by decide +kernel
theorem dX11_rainsIn_23 : decode cX11_rainsIn 23 = .ok (.iconst 1, 1) := by decide +kernel
theorem dX11_rainsIn_24 : decode cX11_rainsIn 24 = .ok (.iand, 1) := by decide +kernel
theorem dX11_rainsIn_25 : decode cX11_rainsIn 25 = .ok (.iconst 1, 1) := by decide +kernel
theorem dX11_rainsIn_26 : decode cX11_rainsIn 26 = .ok (.if_icmp .ne 7, 3) := by decide +kernel
theorem dX11_rainsIn_29 : decode cX11_rainsIn 29 = .ok (.iconst 1, 1) := by decide +kernel
theorem dX11_rainsIn_30 : decode cX11_rainsIn 30 = .ok (.goto 4, 3) := by decide +kernel
theorem dX11_rainsIn_33 : decode cX11_rainsIn 33 = .ok (.iconst 0, 1) := by decide +kernel
theorem dX11_rainsIn_34 : decode cX11_rainsIn 34 = .ok (.ireturn, 1) := by decide +kernel
theorem dX11_go_0 : decode cX11_go 0 = .ok (.aload_n 0, 1) := by decide +kernel
theorem dX11_go_1 : decode cX11_go 1 = .ok (.iconst 0, 1) := by decide +kernel
theorem dX11_go_2 : decode cX11_go 2 = .ok (.putfield 40, 3) := by decide +kernel
theorem dX11_go_5 : decode cX11_go 5 = .ok (.aload_n 0, 1) := by decide +kernel
theorem dX11_go_6 : decode cX11_go 6 = .ok (.invokevirtual 484, 3) := by decide +kernel
theorem dX11_go_9 : decode cX11_go 9 = .ok (.ifCond .eq 20, 3) := by decide +kernel
theorem dX11_go_12 : decode cX11_go 12 = .ok (.aload_n 0, 1) := by decide +kernel
theorem dX11_go_13 : decode cX11_go 13 = .ok (.iload_n 1, 1) := by decide +kernel
theorem dX11_go_14 : decode cX11_go 14 = .ok (.invokevirtual 349, 3) := by decide +kernel
theorem dX11_go_17 : decode cX11_go 17 = .ok (.ifCond .eq 12, 3) := by decide +kernel
theorem dX11_go_20 : decode cX11_go 20 = .ok (.iload_n 2, 1) := by decide +kernel
theorem dX11_go_21 : decode cX11_go 21 = .ok (.iconst 0, 1) := by decide +kernel
theorem dX11_go_22 : decode cX11_go 22 = .ok (.iconst 1, 1) := by decide +kernel
theorem dX11_go_23 : decode cX11_go 23 = .ok (.invokestatic 118, 3) := by decide +kernel
theorem dX11_go_26 : decode cX11_go 26 = .ok (.ifCond .ne 9, 3) := by decide +kernel
theorem dX11_go_29 : decode cX11_go 29 = .ok (.aload_n 0, 1) := by decide +kernel
theorem dX11_go_30 : decode cX11_go 30 = .ok (.iconst 1, 1) := by decide +kernel
theorem dX11_go_31 : decode cX11_go 31 = .ok (.invokevirtual 46, 3) := by decide +kernel
theorem dX11_go_34 : decode cX11_go 34 = .ok (.ireturn, 1) := by decide +kernel
theorem dX11_go_35 : decode cX11_go 35 = .ok (.aload_n 0, 1) := by decide +kernel
theorem dX11_go_36 : decode cX11_go 36 = .ok (.aload_n 0, 1) := by decide +kernel
theorem dX11_go_37 : decode cX11_go 37 = .ok (.getfield 28, 3) := by decide +kernel
theorem dX11_go_40 : decode cX11_go 40 = .ok (.iload_n 3, 1) := by decide +kernel
theorem dX11_go_41 : decode cX11_go 41 = .ok (.invokevirtual 355, 3) := by decide +kernel
theorem dX11_go_44 : decode cX11_go 44 = .ok (.ifCond .ne 9, 3) := by decide +kernel
theorem dX11_go_47 : decode cX11_go 47 = .ok (.aload_n 0, 1) := by decide +kernel
theorem dX11_go_48 : decode cX11_go 48 = .ok (.iconst 2, 1) := by decide +kernel
theorem dX11_go_49 : decode cX11_go 49 = .ok (.invokevirtual 46, 3) := by decide +kernel
theorem dX11_go_52 : decode cX11_go 52 = .ok (.ireturn, 1) := by decide +kernel
theorem dX11_go_53 : decode cX11_go 53 = .ok (.aload_n 0, 1) := by decide +kernel
theorem dX11_go_54 : decode cX11_go 54 = .ok (.getfield 338, 3) := by decide +kernel
theorem dX11_go_57 : decode cX11_go 57 = .ok (.iload_n 1, 1) := by decide +kernel
theorem dX11_go_58 : decode cX11_go 58 = .ok (.iload_n 2, 1) := by decide +kernel
theorem dX11_go_59 : decode cX11_go 59 = .ok (.invokevirtual 436, 3) := by decide +kernel
theorem dX11_go_62 : decode cX11_go 62 = .ok (.i2l, 1) := by decide +kernel
theorem dX11_go_63 : decode cX11_go 63 = .ok (.aload_n 0, 1) := by decide +kernel
theorem dX11_go_64 : decode cX11_go 64 = .ok (.getfield 31, 3) := by decide +kernel
theorem dX11_go_67 : decode cX11_go 67 = .ok (.iconst 0, 1) := by decide +kernel
theorem dX11_go_68 : decode cX11_go 68 = .ok (.laload, 1) := by decide +kernel
theorem dX11_go_69 : decode cX11_go 69 = .ok (.lcmp, 1) := by decide +kernel
theorem dX11_go_70 : decode cX11_go 70 = .ok (.ifCond .eq 9, 3) := by decide +kernel
theorem dX11_go_73 : decode cX11_go 73 = .ok (.aload_n 0, 1) := by decide +kernel
theorem dX11_go_74 : decode cX11_go 74 = .ok (.iconst 5, 1) := by decide +kernel
theorem dX11_go_75 : decode cX11_go 75 = .ok (.invokevirtual 46, 3) := by decide +kernel
theorem dX11_go_78 : decode cX11_go 78 = .ok (.ireturn, 1) := by decide +kernel
theorem dX11_go_79 : decode cX11_go 79 = .ok (.aload_n 0, 1) := by decide +kernel
theorem dX11_go_80 : decode cX11_go 80 = .ok (.getfield 31, 3) := by decide +kernel
theorem dX11_go_83 : decode cX11_go 83 = .ok (.iconst 1, 1) := by decide +kernel
theorem dX11_go_84 : decode cX11_go 84 = .ok (.laload, 1) := by decide +kernel
theorem dX11_go_85 : decode cX11_go 85 = .ok (.l2i, 1) := by decide +kernel
theorem dX11_go_86 : decode cX11_go 86 = .ok (.istore 4, 2) := by decide +kernel
theorem dX11_go_88 : decode cX11_go 88 = .ok (.iload 4, 2) := by decide +kernel
theorem dX11_go_90 : decode cX11_go 90 = .ok (.aload_n 0, 1) := by decide +kernel
theorem dX11_go_91 : decode cX11_go 91 = .ok (.getfield 338, 3) := by decide +kernel
theorem dX11_go_94 : decode cX11_go 94 = .ok (.iload_n 1, 1) := by decide +kernel
theorem dX11_go_95 : decode cX11_go 95 = .ok (.iload_n 3, 1) := by decide +kernel
theorem dX11_go_96 : decode cX11_go 96 = .ok (.invokevirtual 399, 3) := by decide +kernel
theorem dX11_go_99 : decode cX11_go 99 = .ok (.iadd, 1) := by decide +kernel
theorem dX11_go_100 : decode cX11_go 100 = .ok (.sipush 999, 3) := by decide +kernel
theorem dX11_go_103 : decode cX11_go 103 = .ok (.if_icmp .le 9, 3) := by decide +kernel
theorem dX11_go_106 : decode cX11_go 106 = .ok (.aload_n 0, 1) := by decide +kernel
theorem dX11_go_107 : decode cX11_go 107 = .ok (.iconst 3, 1) := by decide +kernel
theorem dX11_go_108 : decode cX11_go 108 = .ok (.invokevirtual 46, 3) := by decide +kernel
theorem dX11_go_111 : decode cX11_go 111 = .ok (.ireturn, 1) := by decide +kernel
theorem dX11_go_112 : decode cX11_go 112 = .ok (.aload_n 0, 1) := by decide +kernel
theorem dX11_go_113 : decode cX11_go 113 = .ok (.invokevirtual 487, 3) := by decide +kernel
theorem dX11_go_116 : decode cX11_go 116 = .ok (.iconst 0, 1) := by decide +kernel
theorem dX11_go_117 : decode cX11_go 117 = .ok (.istore 5, 2) := by decide +kernel
theorem dX11_go_119 : decode cX11_go 119 = .ok (.iload 5, 2) := by decide +kernel
theorem dX11_go_121 : decode cX11_go 121 = .ok (.iconst 5, 1) := by decide +kernel
theorem dX11_go_122 : decode cX11_go 122 = .ok (.if_icmp .ge 49, 3) := by decide +kernel
theorem dX11_go_125 : decode cX11_go 125 = .ok (.aload_n 0, 1) := by decide +kernel
theorem dX11_go_126 : decode cX11_go 126 = .ok (.iload 4, 2) := by decide +kernel
theorem dX11_go_128 : decode cX11_go 128 = .ok (.invokevirtual 490, 3) := by decide +kernel
theorem dX11_go_131 : decode cX11_go 131 = .ok (.ifCond .eq 40, 3) := by decide +kernel
theorem dX11_go_134 : decode cX11_go 134 = .ok (.aload_n 0, 1) := by decide +kernel
theorem dX11_go_135 : decode cX11_go 135 = .ok (.getfield 31, 3) := by decide +kernel
theorem dX11_go_138 : decode cX11_go 138 = .ok (.iconst 2, 1) := by decide +kernel
theorem dX11_go_139 : decode cX11_go 139 = .ok (.iload 5, 2) := by decide +kernel
theorem dX11_go_141 : decode cX11_go 141 = .ok (.iadd, 1) := by decide +kernel
theorem dX11_go_142 : decode cX11_go 142 = .ok (.dup2, 1) := by decide +kernel
theorem dX11_go_143 : decode cX11_go 143 = .ok (.laload, 1) := by decide +kernel
theorem dX11_go_144 : decode cX11_go 144 = .ok (.aload_n 0, 1) := by decide +kernel
theorem dX11_go_145 : decode cX11_go 145 = .ok (.aload_n 0, 1) := by decide +kernel
theorem dX11_go_146 : decode cX11_go 146 = .ok (.getfield 28, 3) := by decide +kernel
theorem dX11_go_149 : decode cX11_go 149 = .ok (.iload_n 1, 1) := by decide +kernel
theorem dX11_go_150 : decode cX11_go 150 = .ok (.iload_n 2, 1) := by decide +kernel
theorem dX11_go_151 : decode cX11_go 151 = .ok (.aload_n 0, 1) := by decide +kernel
theorem dX11_go_152 : decode cX11_go 152 = .ok (.iload 4, 2) := by decide +kernel
theorem dX11_go_154 : decode cX11_go 154 = .ok (.invokevirtual 420, 3) := by decide +kernel
theorem dX11_go_157 : decode cX11_go 157 = .ok (.iload_n 3, 1) := by decide +kernel
theorem dX11_go_158 : decode cX11_go 158 = .ok (.iload 5, 2) := by decide +kernel
theorem dX11_go_160 : decode cX11_go 160 = .ok (.invokevirtual 379, 3) := by decide +kernel
theorem dX11_go_163 : decode cX11_go 163 = .ok (.ladd, 1) := by decide +kernel
theorem dX11_go_164 : decode cX11_go 164 = .ok (.lastore, 1) := by decide +kernel
theorem dX11_go_165 : decode cX11_go 165 = .ok (.iinc 5 1, 3) := by decide +kernel
theorem dX11_go_168 : decode cX11_go 168 = .ok (.goto (-49), 3) := by decide +kernel
theorem dX11_go_171 : decode cX11_go 171 = .ok (.aload_n 0, 1) := by decide +kernel
theorem dX11_go_172 : decode cX11_go 172 = .ok (.getfield 31, 3) := by decide +kernel
theorem dX11_go_175 : decode cX11_go 175 = .ok (.iconst 0, 1) := by decide +kernel
theorem dX11_go_176 : decode cX11_go 176 = .ok (.aload_n 0, 1) := by decide +kernel
theorem dX11_go_177 : decode cX11_go 177 = .ok (.getfield 338, 3) := by decide +kernel
theorem dX11_go_180 : decode cX11_go 180 = .ok (.iload_n 1, 1) := by decide +kernel
theorem dX11_go_181 : decode cX11_go 181 = .ok (.iload_n 2, 1) := by decide +kernel
theorem dX11_go_182 : decode cX11_go 182 = .ok (.invokevirtual 438, 3) := by decide +kernel
theorem dX11_go_185 : decode cX11_go 185 = .ok (.i2l, 1) := by decide +kernel
theorem dX11_go_186 : decode cX11_go 186 = .ok (.lastore, 1) := by decide +kernel
theorem dX11_go_187 : decode cX11_go 187 = .ok (.aload_n 0, 1) := by decide +kernel
theorem dX11_go_188 : decode cX11_go 188 = .ok (.getfield 31, 3) := by decide +kernel
theorem dX11_go_191 : decode cX11_go 191 = .ok (.iconst 1, 1) := by decide +kernel
theorem dX11_go_192 : decode cX11_go 192 = .ok (.iload 4, 2) := by decide +kernel
theorem dX11_go_194 : decode cX11_go 194 = .ok (.aload_n 0, 1) := by decide +kernel
theorem dX11_go_195 : decode cX11_go 195 = .ok (.getfield 338, 3) := by decide +kernel
theorem dX11_go_198 : decode cX11_go 198 = .ok (.iload_n 1, 1) := by decide +kernel
theorem dX11_go_199 : decode cX11_go 199 = .ok (.iload_n 3, 1) := by decide +kernel
theorem dX11_go_200 : decode cX11_go 200 = .ok (.invokevirtual 399, 3) := by decide +kernel
theorem dX11_go_203 : decode cX11_go 203 = .ok (.iadd, 1) := by decide +kernel
theorem dX11_go_204 : decode cX11_go 204 = .ok (.i2l, 1) := by decide +kernel
theorem dX11_go_205 : decode cX11_go 205 = .ok (.lastore, 1) := by decide +kernel
theorem dX11_go_206 : decode cX11_go 206 = .ok (.aload_n 0, 1) := by decide +kernel
theorem dX11_go_207 : decode cX11_go 207 = .ok (.aload_n 0, 1) := by decide +kernel
theorem dX11_go_208 : decode cX11_go 208 = .ok (.getfield 31, 3) := by decide +kernel
theorem dX11_go_211 : decode cX11_go 211 = .ok (.iconst 1, 1) := by decide +kernel
theorem dX11_go_212 : decode cX11_go 212 = .ok (.laload, 1) := by decide +kernel
theorem dX11_go_213 : decode cX11_go 213 = .ok (.l2i, 1) := by decide +kernel
theorem dX11_go_214 : decode cX11_go 214 = .ok (.invokevirtual 50, 3) := by decide +kernel
theorem dX11_go_217 : decode cX11_go 217 = .ok (.ireturn, 1) := by decide +kernel
theorem dX11_stay_0 : decode cX11_stay 0 = .ok (.aload_n 0, 1) := by decide +kernel
theorem dX11_stay_1 : decode cX11_stay 1 = .ok (.iconst 0, 1) := by decide +kernel
theorem dX11_stay_2 : decode cX11_stay 2 = .ok (.putfield 40, 3) := by decide +kernel
theorem dX11_stay_5 : decode cX11_stay 5 = .ok (.aload_n 0, 1) := by decide +kernel
theorem dX11_stay_6 : decode cX11_stay 6 = .ok (.invokevirtual 484, 3) := by decide +kernel
theorem dX11_stay_9 : decode cX11_stay 9 = .ok (.ifCond .ne 9, 3) := by decide +kernel
theorem dX11_stay_12 : decode cX11_stay 12 = .ok (.aload_n 0, 1) := by decide +kernel
theorem dX11_stay_13 : decode cX11_stay 13 = .ok (.iconst 1, 1) := by decide +kernel
theorem dX11_stay_14 : decode cX11_stay 14 = .ok (.invokevirtual 493, 3) := by decide +kernel
theorem dX11_stay_17 : decode cX11_stay 17 = .ok (.ireturn, 1) := by decide +kernel
theorem dX11_stay_18 : decode cX11_stay 18 = .ok (.iload_n 1, 1) := by decide +kernel
theorem dX11_stay_19 : decode cX11_stay 19 = .ok (.iconst 1, 1) := by decide +kernel
theorem dX11_stay_20 : decode cX11_stay 20 = .ok (.bipush 60, 2) := by decide +kernel
theorem dX11_stay_22 : decode cX11_stay 22 = .ok (.invokestatic 118, 3) := by decide +kernel
theorem dX11_stay_25 : decode cX11_stay 25 = .ok (.ifCond .ne 9, 3) := by decide +kernel
theorem dX11_stay_28 : decode cX11_stay 28 = .ok (.aload_n 0, 1) := by decide +kernel
theorem dX11_stay_29 : decode cX11_stay 29 = .ok (.iconst 2, 1) := by decide +kernel
theorem dX11_stay_30 : decode cX11_stay 30 = .ok (.invokevirtual 493, 3) := by decide +kernel
theorem dX11_stay_33 : decode cX11_stay 33 = .ok (.ireturn, 1) := by decide +kernel
theorem dX11_stay_34 : decode cX11_stay 34 = .ok (.aload_n 0, 1) := by decide +kernel
theorem dX11_stay_35 : decode cX11_stay 35 = .ok (.getfield 31, 3) := by decide +kernel
theorem dX11_stay_38 : decode cX11_stay 38 = .ok (.iconst 0, 1) := by decide +kernel
theorem dX11_stay_39 : decode cX11_stay 39 = .ok (.laload, 1) := by decide +kernel
theorem dX11_stay_40 : decode cX11_stay 40 = .ok (.l2i, 1) := by decide +kernel
theorem dX11_stay_41 : decode cX11_stay 41 = .ok (.istore_n 2, 1) := by decide +kernel
theorem dX11_stay_42 : decode cX11_stay 42 = .ok (.aload_n 0, 1) := by decide +kernel
theorem dX11_stay_43 : decode cX11_stay 43 = .ok (.iload_n 2, 1) := by decide +kernel
theorem dX11_stay_44 : decode cX11_stay 44 = .ok (.invokevirtual 448, 3) := by decide +kernel
theorem dX11_stay_47 : decode cX11_stay 47 = .ok (.ifCond .ne 9, 3) := by decide +kernel
theorem dX11_stay_50 : decode cX11_stay 50 = .ok (.aload_n 0, 1) := by decide +kernel
theorem dX11_stay_51 : decode cX11_stay 51 = .ok (.iconst 5, 1) := by decide +kernel
theorem dX11_stay_52 : decode cX11_stay 52 = .ok (.invokevirtual 493, 3) := by decide +kernel
theorem dX11_stay_55 : decode cX11_stay 55 = .ok (.ireturn, 1) := by decide +kernel
theorem dX11_stay_56 : decode cX11_stay 56 = .ok (.aload_n 0, 1) := by decide +kernel
theorem dX11_stay_57 : decode cX11_stay 57 = .ok (.getfield 31, 3) := by decide +kernel
theorem dX11_stay_60 : decode cX11_stay 60 = .ok (.iconst 1, 1) := by decide +kernel
theorem dX11_stay_61 : decode cX11_stay 61 = .ok (.laload, 1) := by decide +kernel
theorem dX11_stay_62 : decode cX11_stay 62 = .ok (.iload_n 1, 1) := by decide +kernel
theorem dX11_stay_63 : decode cX11_stay 63 = .ok (.i2l, 1) := by decide +kernel
theorem dX11_stay_64 : decode cX11_stay 64 = .ok (.ladd, 1) := by decide +kernel
theorem dX11_stay_65 : decode cX11_stay 65 = .ok (.ldc2_w 496, 3) := by decide +kernel
theorem dX11_stay_68 : decode cX11_stay 68 = .ok (.lcmp, 1) := by decide +kernel
theorem dX11_stay_69 : decode cX11_stay 69 = .ok (.ifCond .le 9, 3) := by decide +kernel
theorem dX11_stay_72 : decode cX11_stay 72 = .ok (.aload_n 0, 1) := by decide +kernel
theorem dX11_stay_73 : decode cX11_stay 73 = .ok (.iconst 3, 1) := by decide +kernel
theorem dX11_stay_74 : decode cX11_stay 74 = .ok (.invokevirtual 493, 3) := by decide +kernel
theorem dX11_stay_77 : decode cX11_stay 77 = .ok (.ireturn, 1) := by decide +kernel
theorem dX11_stay_78 : decode cX11_stay 78 = .ok (.aload_n 0, 1) := by decide +kernel
theorem dX11_stay_79 : decode cX11_stay 79 = .ok (.invokevirtual 487, 3) := by decide +kernel
theorem dX11_stay_82 : decode cX11_stay 82 = .ok (.iconst 0, 1) := by decide +kernel
theorem dX11_stay_83 : decode cX11_stay 83 = .ok (.istore_n 3, 1) := by decide +kernel
theorem dX11_stay_84 : decode cX11_stay 84 = .ok (.iload_n 3, 1) := by decide +kernel
theorem dX11_stay_85 : decode cX11_stay 85 = .ok (.iload_n 1, 1) := by decide +kernel
theorem dX11_stay_86 : decode cX11_stay 86 = .ok (.if_icmp .ge 63, 3) := by decide +kernel
theorem dX11_stay_89 : decode cX11_stay 89 = .ok (.aload_n 0, 1) := by decide +kernel
theorem dX11_stay_90 : decode cX11_stay 90 = .ok (.getfield 338, 3) := by decide +kernel
theorem dX11_stay_93 : decode cX11_stay 93 = .ok (.getfield 258, 3) := by decide +kernel
theorem dX11_stay_96 : decode cX11_stay 96 = .ok (.iload_n 2, 1) := by decide +kernel
theorem dX11_stay_97 : decode cX11_stay 97 = .ok (.baload, 1) := by decide +kernel
theorem dX11_stay_98 : decode cX11_stay 98 = .ok (.ifCond .ne 35, 3) := by decide +kernel
theorem dX11_stay_101 : decode cX11_stay 101 = .ok (.aload_n 0, 1) := by decide +kernel
theorem dX11_stay_102 : decode cX11_stay 102 = .ok (.aload_n 0, 1) := by decide +kernel
theorem dX11_stay_103 : decode cX11_stay 103 = .ok (.getfield 31, 3) := by decide +kernel
theorem dX11_stay_106 : decode cX11_stay 106 = .ok (.iconst 1, 1) := by decide +kernel
theorem dX11_stay_107 : decode cX11_stay 107 = .ok (.laload, 1) := by decide +kernel
theorem dX11_stay_108 : decode cX11_stay 108 = .ok (.l2i, 1) := by decide +kernel
theorem dX11_stay_109 : decode cX11_stay 109 = .ok (.invokevirtual 490, 3) := by decide +kernel
theorem dX11_stay_112 : decode cX11_stay 112 = .ok (.ifCond .eq 21, 3) := by decide +kernel
theorem dX11_stay_115 : decode cX11_stay 115 = .ok (.aload_n 0, 1) := by decide +kernel
theorem dX11_stay_116 : decode cX11_stay 116 = .ok (.getfield 31, 3) := by decide +kernel
theorem dX11_stay_119 : decode cX11_stay 119 = .ok (.iconst 2, 1) := by decide +kernel
theorem dX11_stay_120 : decode cX11_stay 120 = .ok (.dup2, 1) := by decide +kernel
theorem dX11_stay_121 : decode cX11_stay 121 = .ok (.laload, 1) := by decide +kernel
theorem dX11_stay_122 : decode cX11_stay 122 = .ok (.aload_n 0, 1) := by decide +kernel
theorem dX11_stay_123 : decode cX11_stay 123 = .ok (.aload_n 0, 1) := by decide +kernel
theorem dX11_stay_124 : decode cX11_stay 124 = .ok (.getfield 28, 3) := by decide +kernel
theorem dX11_stay_127 : decode cX11_stay 127 = .ok (.iload_n 2, 1) := by decide +kernel
theorem dX11_stay_128 : decode cX11_stay 128 = .ok (.invokevirtual 423, 3) := by decide +kernel
theorem dX11_stay_131 : decode cX11_stay 131 = .ok (.ladd, 1) := by decide +kernel
theorem dX11_stay_132 : decode cX11_stay 132 = .ok (.lastore, 1) := by decide +kernel
theorem dX11_stay_133 : decode cX11_stay 133 = .ok (.aload_n 0, 1) := by decide +kernel
theorem dX11_stay_134 : decode cX11_stay 134 = .ok (.getfield 31, 3) := by decide +kernel
theorem dX11_stay_137 : decode cX11_stay 137 = .ok (.iconst 1, 1) := by decide +kernel
theorem dX11_stay_138 : decode cX11_stay 138 = .ok (.dup2, 1) := by decide +kernel
theorem dX11_stay_139 : decode cX11_stay 139 = .ok (.laload, 1) := by decide +kernel
theorem dX11_stay_140 : decode cX11_stay 140 = .ok (.lconst 1, 1) := by decide +kernel
theorem dX11_stay_141 : decode cX11_stay 141 = .ok (.ladd, 1) := by decide +kernel
theorem dX11_stay_142 : decode cX11_stay 142 = .ok (.lastore, 1) := by decide +kernel
theorem dX11_stay_143 : decode cX11_stay 143 = .ok (.iinc 3 1, 3) := by decide +kernel
theorem dX11_stay_146 : decode cX11_stay 146 = .ok (.goto (-62), 3) := by decide +kernel
theorem dX11_stay_149 : decode cX11_stay 149 = .ok (.aload_n 0, 1) := by decide +kernel
theorem dX11_stay_150 : decode cX11_stay 150 = .ok (.invokevirtual 498, 3) := by decide +kernel
theorem dX11_stay_153 : decode cX11_stay 153 = .ok (.ireturn, 1) := by decide +kernel
theorem dX11_got_0 : decode cX11_got 0 = .ok (.aload_n 0, 1) := by decide +kernel
theorem dX11_got_1 : decode cX11_got 1 = .ok (.iconst 0, 1) := by decide +kernel
theorem dX11_got_2 : decode cX11_got 2 = .ok (.putfield 40, 3) := by decide +kernel
theorem dX11_got_5 : decode cX11_got 5 = .ok (.aload_n 0, 1) := by decide +kernel
theorem dX11_got_6 : decode cX11_got 6 = .ok (.invokevirtual 484, 3) := by decide +kernel
theorem dX11_got_9 : decode cX11_got 9 = .ok (.ifCond .eq 31, 3) := by decide +kernel
theorem dX11_got_12 : decode cX11_got 12 = .ok (.iload_n 1, 1) := by decide +kernel
theorem dX11_got_13 : decode cX11_got 13 = .ok (.iconst 0, 1) := by decide +kernel
theorem dX11_got_14 : decode cX11_got 14 = .ok (.iconst 4, 1) := by decide +kernel
theorem dX11_got_15 : decode cX11_got 15 = .ok (.invokestatic 118, 3) := by decide +kernel
theorem dX11_got_18 : decode cX11_got 18 = .ok (.ifCond .eq 22, 3) := by decide +kernel
theorem dX11_got_21 : decode cX11_got 21 = .ok (.aload_n 0, 1) := by decide +kernel
theorem dX11_got_22 : decode cX11_got 22 = .ok (.aload_n 0, 1) := by decide +kernel
theorem dX11_got_23 : decode cX11_got 23 = .ok (.getfield 31, 3) := by decide +kernel
theorem dX11_got_26 : decode cX11_got 26 = .ok (.iconst 2, 1) := by decide +kernel
theorem dX11_got_27 : decode cX11_got 27 = .ok (.iload_n 1, 1) := by decide +kernel
theorem dX11_got_28 : decode cX11_got 28 = .ok (.iadd, 1) := by decide +kernel
theorem dX11_got_29 : decode cX11_got 29 = .ok (.laload, 1) := by decide +kernel
theorem dX11_got_30 : decode cX11_got 30 = .ok (.ldc2_w 387, 3) := by decide +kernel
theorem dX11_got_33 : decode cX11_got 33 = .ok (.iload_n 2, 1) := by decide +kernel
theorem dX11_got_34 : decode cX11_got 34 = .ok (.invokevirtual 389, 3) := by decide +kernel
theorem dX11_got_37 : decode cX11_got 37 = .ok (.goto 9, 3) := by decide +kernel
theorem dX11_got_40 : decode cX11_got 40 = .ok (.aload_n 0, 1) := by decide +kernel
theorem dX11_got_41 : decode cX11_got 41 = .ok (.iconst 1, 1) := by decide +kernel
theorem dX11_got_42 : decode cX11_got 42 = .ok (.invokevirtual 46, 3) := by decide +kernel
theorem dX11_got_45 : decode cX11_got 45 = .ok (.i2l, 1) := by decide +kernel
theorem dX11_got_46 : decode cX11_got 46 = .ok (.lreturn, 1) := by decide +kernel
theorem dX11_gotInAll_0 : decode cX11_gotInAll 0 = .ok (.lconst 0, 1) := by decide +kernel
theorem dX11_gotInAll_1 : decode cX11_gotInAll 1 = .ok (.lstore_n 1, 1) := by decide +kernel
theorem dX11_gotInAll_2 : decode cX11_gotInAll 2 = .ok (.iconst 0, 1) := by decide +kernel
theorem dX11_gotInAll_3 : decode cX11_gotInAll 3 = .ok (.istore_n 3, 1) := by decide +kernel
theorem dX11_gotInAll_4 : decode cX11_gotInAll 4 = .ok (.iload_n 3, 1) := by decide +kernel
theorem dX11_gotInAll_5 : decode cX11_gotInAll 5 = .ok (.iconst 5, 1) := by decide +kernel
theorem dX11_gotInAll_6 : decode cX11_gotInAll 6 = .ok (.if_icmp .ge 20, 3) := by decide +kernel
theorem dX11_gotInAll_9 : decode cX11_gotInAll 9 = .ok (.lload_n 1, 1) := by decide +kernel
theorem dX11_gotInAll_10 : decode cX11_gotInAll 10 = .ok (.aload_n 0, 1) := by decide +kernel
theorem dX11_gotInAll_11 : decode cX11_gotInAll 11 = .ok (.getfield 31, 3) := by decide +kernel
theorem dX11_gotInAll_14 : decode cX11_gotInAll 14 = .ok (.iconst 2, 1) := by decide +kernel
theorem dX11_gotInAll_15 : decode cX11_gotInAll 15 = .ok (.iload_n 3, 1) := by decide +kernel
theorem dX11_gotInAll_16 : decode cX11_gotInAll 16 = .ok (.iadd, 1) := by decide +kernel
theorem dX11_gotInAll_17 : decode cX11_gotInAll 17 = .ok (.laload, 1) := by decide +kernel
theorem dX11_gotInAll_18 : decode cX11_gotInAll 18 = .ok (.ladd, 1) := by decide +kernel
theorem dX11_gotInAll_19 : decode cX11_gotInAll 19 = .ok (.lstore_n 1, 1) := by decide +kernel
theorem dX11_gotInAll_20 : decode cX11_gotInAll 20 = .ok (.iinc 3 1, 3) := by decide +kernel
theorem dX11_gotInAll_23 : decode cX11_gotInAll 23 = .ok (.goto (-19), 3) := by decide +kernel
theorem dX11_gotInAll_26 : decode cX11_gotInAll 26 = .ok (.lload_n 1, 1) := by decide +kernel
theorem dX11_gotInAll_27 : decode cX11_gotInAll 27 = .ok (.lreturn, 1) := by decide +kernel
theorem dX11_holds_0 : decode cX11_holds 0 = .ok (.aload_n 0, 1) := by decide +kernel
theorem dX11_holds_1 : decode cX11_holds 1 = .ok (.getfield 338, 3) := by decide +kernel
theorem dX11_holds_4 : decode cX11_holds 4 = .ok (.getfield 302, 3) := by decide +kernel
theorem dX11_holds_7 : decode cX11_holds 7 = .ok (.aload_n 0, 1) := by decide +kernel
theorem dX11_holds_8 : decode cX11_holds 8 = .ok (.getfield 28, 3) := by decide +kernel
theorem dX11_holds_11 : decode cX11_holds 11 = .ok (.iaload, 1) := by decide +kernel
theorem dX11_holds_12 : decode cX11_holds 12 = .ok (.iconst 2, 1) := by decide +kernel
theorem dX11_holds_13 : decode cX11_holds 13 = .ok (.if_icmp .ne 23, 3) := by decide +kernel
theorem dX11_holds_16 : decode cX11_holds 16 = .ok (.ldc2_w 387, 3) := by decide +kernel
theorem dX11_holds_19 : decode cX11_holds 19 = .ok (.aload_n 0, 1) := by decide +kernel
theorem dX11_holds_20 : decode cX11_holds 20 = .ok (.getfield 338, 3) := by decide +kernel
theorem dX11_holds_23 : decode cX11_holds 23 = .ok (.getfield 305, 3) := by decide +kernel
theorem dX11_holds_26 : decode cX11_holds 26 = .ok (.aload_n 0, 1) := by decide +kernel
theorem dX11_holds_27 : decode cX11_holds 27 = .ok (.getfield 28, 3) := by decide +kernel
theorem dX11_holds_30 : decode cX11_holds 30 = .ok (.iaload, 1) := by decide +kernel
theorem dX11_holds_31 : decode cX11_holds 31 = .ok (.i2l, 1) := by decide +kernel
theorem dX11_holds_32 : decode cX11_holds 32 = .ok (.lmul, 1) := by decide +kernel
theorem dX11_holds_33 : decode cX11_holds 33 = .ok (.goto 4, 3) := by decide +kernel
theorem dX11_holds_36 : decode cX11_holds 36 = .ok (.lconst 0, 1) := by decide +kernel
theorem dX11_holds_37 : decode cX11_holds 37 = .ok (.lreturn, 1) := by decide +kernel
theorem dX11_wetness_0 : decode cX11_wetness 0 = .ok (.aload_n 0, 1) := by decide +kernel
theorem dX11_wetness_1 : decode cX11_wetness 1 = .ok (.iconst 0, 1) := by decide +kernel
theorem dX11_wetness_2 : decode cX11_wetness 2 = .ok (.putfield 40, 3) := by decide +kernel
theorem dX11_wetness_5 : decode cX11_wetness 5 = .ok (.aload_n 0, 1) := by decide +kernel
theorem dX11_wetness_6 : decode cX11_wetness 6 = .ok (.invokevirtual 484, 3) := by decide +kernel
theorem dX11_wetness_9 : decode cX11_wetness 9 = .ok (.ifCond .ne 10, 3) := by decide +kernel
theorem dX11_wetness_12 : decode cX11_wetness 12 = .ok (.aload_n 0, 1) := by decide +kernel
theorem dX11_wetness_13 : decode cX11_wetness 13 = .ok (.iconst 1, 1) := by decide +kernel
theorem dX11_wetness_14 : decode cX11_wetness 14 = .ok (.invokevirtual 46, 3) := by decide +kernel
theorem dX11_wetness_17 : decode cX11_wetness 17 = .ok (.i2l, 1) := by decide +kernel
theorem dX11_wetness_18 : decode cX11_wetness 18 = .ok (.lreturn, 1) := by decide +kernel
theorem dX11_wetness_19 : decode cX11_wetness 19 = .ok (.aload_n 0, 1) := by decide +kernel
theorem dX11_wetness_20 : decode cX11_wetness 20 = .ok (.invokevirtual 501, 3) := by decide +kernel
theorem dX11_wetness_23 : decode cX11_wetness 23 = .ok (.aload_n 0, 1) := by decide +kernel
theorem dX11_wetness_24 : decode cX11_wetness 24 = .ok (.invokevirtual 504, 3) := by decide +kernel
theorem dX11_wetness_27 : decode cX11_wetness 27 = .ok (.lsub, 1) := by decide +kernel
theorem dX11_wetness_28 : decode cX11_wetness 28 = .ok (.lstore_n 2, 1) := by decide +kernel
theorem dX11_wetness_29 : decode cX11_wetness 29 = .ok (.aload_n 0, 1) := by decide +kernel
theorem dX11_wetness_30 : decode cX11_wetness 30 = .ok (.lload_n 2, 1) := by decide +kernel
theorem dX11_wetness_31 : decode cX11_wetness 31 = .ok (.lconst 0, 1) := by decide +kernel
theorem dX11_wetness_32 : decode cX11_wetness 32 = .ok (.lcmp, 1) := by decide +kernel
theorem dX11_wetness_33 : decode cX11_wetness 33 = .ok (.ifCond .ge 7, 3) := by decide +kernel
theorem dX11_wetness_36 : decode cX11_wetness 36 = .ok (.lconst 0, 1) := by decide +kernel
theorem dX11_wetness_37 : decode cX11_wetness 37 = .ok (.goto 4, 3) := by decide +kernel
theorem dX11_wetness_40 : decode cX11_wetness 40 = .ok (.lload_n 2, 1) := by decide +kernel
theorem dX11_wetness_41 : decode cX11_wetness 41 = .ok (.ldc2_w 387, 3) := by decide +kernel
theorem dX11_wetness_44 : decode cX11_wetness 44 = .ok (.iload_n 1, 1) := by decide +kernel
theorem dX11_wetness_45 : decode cX11_wetness 45 = .ok (.invokevirtual 389, 3) := by decide +kernel
theorem dX11_wetness_48 : decode cX11_wetness 48 = .ok (.lreturn, 1) := by decide +kernel
theorem dX11_soaked_0 : decode cX11_soaked 0 = .ok (.aload_n 0, 1) := by decide +kernel
theorem dX11_soaked_1 : decode cX11_soaked 1 = .ok (.iconst 0, 1) := by decide +kernel
theorem dX11_soaked_2 : decode cX11_soaked 2 = .ok (.putfield 40, 3) := by decide +kernel
theorem dX11_soaked_5 : decode cX11_soaked 5 = .ok (.aload_n 0, 1) := by decide +kernel
theorem dX11_soaked_6 : decode cX11_soaked 6 = .ok (.invokevirtual 484, 3) := by decide +kernel
theorem dX11_soaked_9 : decode cX11_soaked 9 = .ok (.ifCond .ne 9, 3) := by decide +kernel
theorem dX11_soaked_12 : decode cX11_soaked 12 = .ok (.aload_n 0, 1) := by decide +kernel
theorem dX11_soaked_13 : decode cX11_soaked 13 = .ok (.iconst 1, 1) := by decide +kernel
theorem dX11_soaked_14 : decode cX11_soaked 14 = .ok (.invokevirtual 46, 3) := by decide +kernel
theorem dX11_soaked_17 : decode cX11_soaked 17 = .ok (.ireturn, 1) := by decide +kernel
theorem dX11_soaked_18 : decode cX11_soaked 18 = .ok (.aload_n 0, 1) := by decide +kernel
theorem dX11_soaked_19 : decode cX11_soaked 19 = .ok (.aload_n 0, 1) := by decide +kernel
theorem dX11_soaked_20 : decode cX11_soaked 20 = .ok (.getfield 338, 3) := by decide +kernel
theorem dX11_soaked_23 : decode cX11_soaked 23 = .ok (.getfield 302, 3) := by decide +kernel
theorem dX11_soaked_26 : decode cX11_soaked 26 = .ok (.aload_n 0, 1) := by decide +kernel
theorem dX11_soaked_27 : decode cX11_soaked 27 = .ok (.getfield 28, 3) := by decide +kernel
theorem dX11_soaked_30 : decode cX11_soaked 30 = .ok (.iaload, 1) := by decide +kernel
theorem dX11_soaked_31 : decode cX11_soaked 31 = .ok (.iconst 2, 1) := by decide +kernel
theorem dX11_soaked_32 : decode cX11_soaked 32 = .ok (.if_icmp .eq 8, 3) := by decide +kernel
theorem dX11_soaked_35 : decode cX11_soaked 35 = .ok (.bipush (-2), 2) := by decide +kernel
theorem dX11_soaked_37 : decode cX11_soaked 37 = .ok (.goto 20, 3) := by decide +kernel
theorem dX11_soaked_40 : decode cX11_soaked 40 = .ok (.aload_n 0, 1) := by decide +kernel
theorem dX11_soaked_41 : decode cX11_soaked 41 = .ok (.invokevirtual 501, 3) := by decide +kernel
theorem dX11_soaked_44 : decode cX11_soaked 44 = .ok (.aload_n 0, 1) := by decide +kernel
theorem dX11_soaked_45 : decode cX11_soaked 45 = .ok (.invokevirtual 504, 3) := by decide +kernel
theorem dX11_soaked_48 : decode cX11_soaked 48 = .ok (.lcmp, 1) := by decide +kernel
theorem dX11_soaked_49 : decode cX11_soaked 49 = .ok (.ifCond .le 7, 3) := by decide +kernel
theorem dX11_soaked_52 : decode cX11_soaked 52 = .ok (.iconst 1, 1) := by decide +kernel
theorem dX11_soaked_53 : decode cX11_soaked 53 = .ok (.goto 4, 3) := by decide +kernel
theorem dX11_soaked_56 : decode cX11_soaked 56 = .ok (.iconst 0, 1) := by decide +kernel
theorem dX11_soaked_57 : decode cX11_soaked 57 = .ok (.invokevirtual 50, 3) := by decide +kernel
theorem dX11_soaked_60 : decode cX11_soaked 60 = .ok (.ireturn, 1) := by decide +kernel
theorem dX11_undo_0 : decode cX11_undo 0 = .ok (.aload_n 0, 1) := by decide +kernel
theorem dX11_undo_1 : decode cX11_undo 1 = .ok (.iconst 0, 1) := by decide +kernel
theorem dX11_undo_2 : decode cX11_undo 2 = .ok (.putfield 40, 3) := by decide +kernel
theorem dX11_undo_5 : decode cX11_undo 5 = .ok (.aload_n 0, 1) := by decide +kernel
theorem dX11_undo_6 : decode cX11_undo 6 = .ok (.invokevirtual 484, 3) := by decide +kernel
theorem dX11_undo_9 : decode cX11_undo 9 = .ok (.ifCond .eq 10, 3) := by decide +kernel
theorem dX11_undo_12 : decode cX11_undo 12 = .ok (.aload_n 0, 1) := by decide +kernel
theorem dX11_undo_13 : decode cX11_undo 13 = .ok (.getfield 340, 3) := by decide +kernel
theorem dX11_undo_16 : decode cX11_undo 16 = .ok (.ifCond .ne 10, 3) := by decide +kernel
theorem dX11_undo_19 : decode cX11_undo 19 = .ok (.aload_n 0, 1) := by decide +kernel
theorem dX11_undo_20 : decode cX11_undo 20 = .ok (.bipush 6, 2) := by decide +kernel
theorem dX11_undo_22 : decode cX11_undo 22 = .ok (.invokevirtual 493, 3) := by decide +kernel
theorem dX11_undo_25 : decode cX11_undo 25 = .ok (.ireturn, 1) := by decide +kernel
theorem dX11_undo_26 : decode cX11_undo 26 = .ok (.aload_n 0, 1) := by decide +kernel
theorem dX11_undo_27 : decode cX11_undo 27 = .ok (.dup, 1) := by decide +kernel
theorem dX11_undo_28 : decode cX11_undo 28 = .ok (.getfield 340, 3) := by decide +kernel
theorem dX11_undo_31 : decode cX11_undo 31 = .ok (.iconst 1, 1) := by decide +kernel
theorem dX11_undo_32 : decode cX11_undo 32 = .ok (.isub, 1) := by decide +kernel
theorem dX11_undo_33 : decode cX11_undo 33 = .ok (.putfield 340, 3) := by decide +kernel
theorem dX11_undo_36 : decode cX11_undo 36 = .ok (.iconst 0, 1) := by decide +kernel
theorem dX11_undo_37 : decode cX11_undo 37 = .ok (.istore_n 1, 1) := by decide +kernel
theorem dX11_undo_38 : decode cX11_undo 38 = .ok (.iload_n 1, 1) := by decide +kernel
theorem dX11_undo_39 : decode cX11_undo 39 = .ok (.bipush 7, 2) := by decide +kernel
theorem dX11_undo_41 : decode cX11_undo 41 = .ok (.if_icmp .ge 29, 3) := by decide +kernel
theorem dX11_undo_44 : decode cX11_undo 44 = .ok (.aload_n 0, 1) := by decide +kernel
theorem dX11_undo_45 : decode cX11_undo 45 = .ok (.getfield 31, 3) := by decide +kernel
theorem dX11_undo_48 : decode cX11_undo 48 = .ok (.iload_n 1, 1) := by decide +kernel
theorem dX11_undo_49 : decode cX11_undo 49 = .ok (.aload_n 0, 1) := by decide +kernel
theorem dX11_undo_50 : decode cX11_undo 50 = .ok (.getfield 34, 3) := by decide +kernel
theorem dX11_undo_53 : decode cX11_undo 53 = .ok (.bipush 7, 2) := by decide +kernel
theorem dX11_undo_55 : decode cX11_undo 55 = .ok (.aload_n 0, 1) := by decide +kernel
theorem dX11_undo_56 : decode cX11_undo 56 = .ok (.getfield 340, 3) := by decide +kernel
theorem dX11_undo_59 : decode cX11_undo 59 = .ok (.imul, 1) := by decide +kernel
theorem dX11_undo_60 : decode cX11_undo 60 = .ok (.iload_n 1, 1) := by decide +kernel
theorem dX11_undo_61 : decode cX11_undo 61 = .ok (.iadd, 1) := by decide +kernel
theorem dX11_undo_62 : decode cX11_undo 62 = .ok (.laload, 1) := by decide +kernel
theorem dX11_undo_63 : decode cX11_undo 63 = .ok (.lastore, 1) := by decide +kernel
theorem dX11_undo_64 : decode cX11_undo 64 = .ok (.iinc 1 1, 3) := by decide +kernel
theorem dX11_undo_67 : decode cX11_undo 67 = .ok (.goto (-29), 3) := by decide +kernel
theorem dX11_undo_70 : decode cX11_undo 70 = .ok (.aload_n 0, 1) := by decide +kernel
theorem dX11_undo_71 : decode cX11_undo 71 = .ok (.invokevirtual 498, 3) := by decide +kernel
theorem dX11_undo_74 : decode cX11_undo 74 = .ok (.ireturn, 1) := by decide +kernel
theorem dX11_mark_0 : decode cX11_mark 0 = .ok (.aload_n 0, 1) := by decide +kernel
theorem dX11_mark_1 : decode cX11_mark 1 = .ok (.iconst 0, 1) := by decide +kernel
theorem dX11_mark_2 : decode cX11_mark 2 = .ok (.putfield 40, 3) := by decide +kernel
theorem dX11_mark_5 : decode cX11_mark 5 = .ok (.aload_n 0, 1) := by decide +kernel
theorem dX11_mark_6 : decode cX11_mark 6 = .ok (.invokevirtual 484, 3) := by decide +kernel
theorem dX11_mark_9 : decode cX11_mark 9 = .ok (.ifCond .ne 9, 3) := by decide +kernel
theorem dX11_mark_12 : decode cX11_mark 12 = .ok (.aload_n 0, 1) := by decide +kernel
theorem dX11_mark_13 : decode cX11_mark 13 = .ok (.iconst 1, 1) := by decide +kernel
theorem dX11_mark_14 : decode cX11_mark 14 = .ok (.invokevirtual 46, 3) := by decide +kernel
theorem dX11_mark_17 : decode cX11_mark 17 = .ok (.ireturn, 1) := by decide +kernel
theorem dX11_mark_18 : decode cX11_mark 18 = .ok (.aload_n 0, 1) := by decide +kernel
theorem dX11_mark_19 : decode cX11_mark 19 = .ok (.getfield 343, 3) := by decide +kernel
theorem dX11_mark_22 : decode cX11_mark 22 = .ok (.iconst 3, 1) := by decide +kernel
theorem dX11_mark_23 : decode cX11_mark 23 = .ok (.if_icmp .ne 9, 3) := by decide +kernel
theorem dX11_mark_26 : decode cX11_mark 26 = .ok (.aload_n 0, 1) := by decide +kernel
theorem dX11_mark_27 : decode cX11_mark 27 = .ok (.iconst 3, 1) := by decide +kernel
theorem dX11_mark_28 : decode cX11_mark 28 = .ok (.invokevirtual 46, 3) := by decide +kernel
theorem dX11_mark_31 : decode cX11_mark 31 = .ok (.ireturn, 1) := by decide +kernel
theorem dX11_mark_32 : decode cX11_mark 32 = .ok (.iconst 0, 1) := by decide +kernel
theorem dX11_mark_33 : decode cX11_mark 33 = .ok (.istore_n 1, 1) := by decide +kernel
theorem dX11_mark_34 : decode cX11_mark 34 = .ok (.iload_n 1, 1) := by decide +kernel
theorem dX11_mark_35 : decode cX11_mark 35 = .ok (.bipush 7, 2) := by decide +kernel
theorem dX11_mark_37 : decode cX11_mark 37 = .ok (.if_icmp .ge 29, 3) := by decide +kernel
theorem dX11_mark_40 : decode cX11_mark 40 = .ok (.aload_n 0, 1) := by decide +kernel
theorem dX11_mark_41 : decode cX11_mark 41 = .ok (.getfield 37, 3) := by decide +kernel
theorem dX11_mark_44 : decode cX11_mark 44 = .ok (.bipush 7, 2) := by decide +kernel
theorem dX11_mark_46 : decode cX11_mark 46 = .ok (.aload_n 0, 1) := by decide +kernel
theorem dX11_mark_47 : decode cX11_mark 47 = .ok (.getfield 343, 3) := by decide +kernel
theorem dX11_mark_50 : decode cX11_mark 50 = .ok (.imul, 1) := by decide +kernel
theorem dX11_mark_51 : decode cX11_mark 51 = .ok (.iload_n 1, 1) := by decide +kernel
theorem dX11_mark_52 : decode cX11_mark 52 = .ok (.iadd, 1) := by decide +kernel
theorem dX11_mark_53 : decode cX11_mark 53 = .ok (.aload_n 0, 1) := by decide +kernel
theorem dX11_mark_54 : decode cX11_mark 54 = .ok (.getfield 31, 3) := by decide +kernel
theorem dX11_mark_57 : decode cX11_mark 57 = .ok (.iload_n 1, 1) := by decide +kernel
theorem dX11_mark_58 : decode cX11_mark 58 = .ok (.laload, 1) := by decide +kernel
theorem dX11_mark_59 : decode cX11_mark 59 = .ok (.lastore, 1) := by decide +kernel
theorem dX11_mark_60 : decode cX11_mark 60 = .ok (.iinc 1 1, 3) := by decide +kernel
theorem dX11_mark_63 : decode cX11_mark 63 = .ok (.goto (-29), 3) := by decide +kernel
theorem dX11_mark_66 : decode cX11_mark 66 = .ok (.aload_n 0, 1) := by decide +kernel
theorem dX11_mark_67 : decode cX11_mark 67 = .ok (.dup, 1) := by decide +kernel
theorem dX11_mark_68 : decode cX11_mark 68 = .ok (.getfield 343, 3) := by decide +kernel
theorem dX11_mark_71 : decode cX11_mark 71 = .ok (.iconst 1, 1) := by decide +kernel
theorem dX11_mark_72 : decode cX11_mark 72 = .ok (.iadd, 1) := by decide +kernel
theorem dX11_mark_73 : decode cX11_mark 73 = .ok (.putfield 343, 3) := by decide +kernel
theorem dX11_mark_76 : decode cX11_mark 76 = .ok (.aload_n 0, 1) := by decide +kernel
theorem dX11_mark_77 : decode cX11_mark 77 = .ok (.aload_n 0, 1) := by decide +kernel
theorem dX11_mark_78 : decode cX11_mark 78 = .ok (.getfield 343, 3) := by decide +kernel
theorem dX11_mark_81 : decode cX11_mark 81 = .ok (.iconst 1, 1) := by decide +kernel
theorem dX11_mark_82 : decode cX11_mark 82 = .ok (.isub, 1) := by decide +kernel
theorem dX11_mark_83 : decode cX11_mark 83 = .ok (.invokevirtual 50, 3) := by decide +kernel
theorem dX11_mark_86 : decode cX11_mark 86 = .ok (.ireturn, 1) := by decide +kernel
theorem dX11_back_0 : decode cX11_back 0 = .ok (.aload_n 0, 1) := by decide +kernel
theorem dX11_back_1 : decode cX11_back 1 = .ok (.iconst 0, 1) := by decide +kernel
theorem dX11_back_2 : decode cX11_back 2 = .ok (.putfield 40, 3) := by decide +kernel
theorem dX11_back_5 : decode cX11_back 5 = .ok (.aload_n 0, 1) := by decide +kernel
theorem dX11_back_6 : decode cX11_back 6 = .ok (.invokevirtual 484, 3) := by decide +kernel
theorem dX11_back_9 : decode cX11_back 9 = .ok (.ifCond .eq 15, 3) := by decide +kernel
theorem dX11_back_12 : decode cX11_back 12 = .ok (.iload_n 1, 1) := by decide +kernel
theorem dX11_back_13 : decode cX11_back 13 = .ok (.ifCond .lt 11, 3) := by decide +kernel
theorem dX11_back_16 : decode cX11_back 16 = .ok (.iload_n 1, 1) := by decide +kernel
theorem dX11_back_17 : decode cX11_back 17 = .ok (.aload_n 0, 1) := by decide +kernel
theorem dX11_back_18 : decode cX11_back 18 = .ok (.getfield 343, 3) := by decide +kernel
theorem dX11_back_21 : decode cX11_back 21 = .ok (.if_icmp .lt 9, 3) := by decide +kernel
theorem dX11_back_24 : decode cX11_back 24 = .ok (.aload_n 0, 1) := by decide +kernel
theorem dX11_back_25 : decode cX11_back 25 = .ok (.iconst 1, 1) := by decide +kernel
theorem dX11_back_26 : decode cX11_back 26 = .ok (.invokevirtual 493, 3) := by decide +kernel
theorem dX11_back_29 : decode cX11_back 29 = .ok (.ireturn, 1) := by decide +kernel
theorem dX11_back_30 : decode cX11_back 30 = .ok (.iconst 0, 1) := by decide +kernel
theorem dX11_back_31 : decode cX11_back 31 = .ok (.istore_n 2, 1) := by decide +kernel
theorem dX11_back_32 : decode cX11_back 32 = .ok (.iload_n 2, 1) := by decide +kernel
theorem dX11_back_33 : decode cX11_back 33 = .ok (.bipush 7, 2) := by decide +kernel
theorem dX11_back_35 : decode cX11_back 35 = .ok (.if_icmp .ge 26, 3) := by decide +kernel
theorem dX11_back_38 : decode cX11_back 38 = .ok (.aload_n 0, 1) := by decide +kernel
theorem dX11_back_39 : decode cX11_back 39 = .ok (.getfield 31, 3) := by decide +kernel
theorem dX11_back_42 : decode cX11_back 42 = .ok (.iload_n 2, 1) := by decide +kernel
theorem dX11_back_43 : decode cX11_back 43 = .ok (.aload_n 0, 1) := by decide +kernel
theorem dX11_back_44 : decode cX11_back 44 = .ok (.getfield 37, 3) := by decide +kernel
theorem dX11_back_47 : decode cX11_back 47 = .ok (.bipush 7, 2) := by decide +kernel
theorem dX11_back_49 : decode cX11_back 49 = .ok (.iload_n 1, 1) := by decide +kernel
theorem dX11_back_50 : decode cX11_back 50 = .ok (.imul, 1) := by decide +kernel
theorem dX11_back_51 : decode cX11_back 51 = .ok (.iload_n 2, 1) := by decide +kernel
theorem dX11_back_52 : decode cX11_back 52 = .ok (.iadd, 1) := by decide +kernel
theorem dX11_back_53 : decode cX11_back 53 = .ok (.laload, 1) := by decide +kernel
theorem dX11_back_54 : decode cX11_back 54 = .ok (.lastore, 1) := by decide +kernel
theorem dX11_back_55 : decode cX11_back 55 = .ok (.iinc 2 1, 3) := by decide +kernel
theorem dX11_back_58 : decode cX11_back 58 = .ok (.goto (-26), 3) := by decide +kernel
theorem dX11_back_61 : decode cX11_back 61 = .ok (.aload_n 0, 1) := by decide +kernel
theorem dX11_back_62 : decode cX11_back 62 = .ok (.iconst 0, 1) := by decide +kernel
theorem dX11_back_63 : decode cX11_back 63 = .ok (.putfield 340, 3) := by decide +kernel
theorem dX11_back_66 : decode cX11_back 66 = .ok (.aload_n 0, 1) := by decide +kernel
theorem dX11_back_67 : decode cX11_back 67 = .ok (.invokevirtual 498, 3) := by decide +kernel
theorem dX11_back_70 : decode cX11_back 70 = .ok (.ireturn, 1) := by decide +kernel
theorem dX11_walker_0 : decode cX11_walker 0 = .ok (.aload_n 0, 1) := by decide +kernel
theorem dX11_walker_1 : decode cX11_walker 1 = .ok (.iconst 0, 1) := by decide +kernel
theorem dX11_walker_2 : decode cX11_walker 2 = .ok (.putfield 40, 3) := by decide +kernel
theorem dX11_walker_5 : decode cX11_walker 5 = .ok (.aload_n 0, 1) := by decide +kernel
theorem dX11_walker_6 : decode cX11_walker 6 = .ok (.iload_n 1, 1) := by decide +kernel
theorem dX11_walker_7 : decode cX11_walker 7 = .ok (.invokevirtual 346, 3) := by decide +kernel
theorem dX11_walker_10 : decode cX11_walker 10 = .ok (.ifCond .eq 13, 3) := by decide +kernel
theorem dX11_walker_13 : decode cX11_walker 13 = .ok (.iload_n 2, 1) := by decide +kernel
theorem dX11_walker_14 : decode cX11_walker 14 = .ok (.iconst 0, 1) := by decide +kernel
theorem dX11_walker_15 : decode cX11_walker 15 = .ok (.bipush 6, 2) := by decide +kernel
theorem dX11_walker_17 : decode cX11_walker 17 = .ok (.invokestatic 118, 3) := by decide +kernel
theorem dX11_walker_20 : decode cX11_walker 20 = .ok (.ifCond .ne 9, 3) := by decide +kernel
theorem dX11_walker_23 : decode cX11_walker 23 = .ok (.aload_n 0, 1) := by decide +kernel
theorem dX11_walker_24 : decode cX11_walker 24 = .ok (.iconst 1, 1) := by decide +kernel
theorem dX11_walker_25 : decode cX11_walker 25 = .ok (.invokevirtual 46, 3) := by decide +kernel
theorem dX11_walker_28 : decode cX11_walker 28 = .ok (.ireturn, 1) := by decide +kernel
theorem dX11_walker_29 : decode cX11_walker 29 = .ok (.iload_n 2, 1) := by decide +kernel
theorem dX11_walker_30 : decode cX11_walker 30 = .ok (.tableswitch 122 0 5 #[38, 52, 66, 80, 94, 108], 38) := by decide +kernel
theorem dX11_walker_68 : decode cX11_walker 68 = .ok (.aload_n 0, 1) := by decide +kernel
theorem dX11_walker_69 : decode cX11_walker 69 = .ok (.aload_n 0, 1) := by decide +kernel
theorem dX11_walker_70 : decode cX11_walker 70 = .ok (.getfield 338, 3) := by decide +kernel
theorem dX11_walker_73 : decode cX11_walker 73 = .ok (.getfield 302, 3) := by decide +kernel
theorem dX11_walker_76 : decode cX11_walker 76 = .ok (.iload_n 1, 1) := by decide +kernel
theorem dX11_walker_77 : decode cX11_walker 77 = .ok (.iaload, 1) := by decide +kernel
theorem dX11_walker_78 : decode cX11_walker 78 = .ok (.invokevirtual 50, 3) := by decide +kernel
theorem dX11_walker_81 : decode cX11_walker 81 = .ok (.ireturn, 1) := by decide +kernel
theorem dX11_walker_82 : decode cX11_walker 82 = .ok (.aload_n 0, 1) := by decide +kernel
theorem dX11_walker_83 : decode cX11_walker 83 = .ok (.aload_n 0, 1) := by decide +kernel
theorem dX11_walker_84 : decode cX11_walker 84 = .ok (.getfield 338, 3) := by decide +kernel
theorem dX11_walker_87 : decode cX11_walker 87 = .ok (.getfield 305, 3) := by decide +kernel
theorem dX11_walker_90 : decode cX11_walker 90 = .ok (.iload_n 1, 1) := by decide +kernel
theorem dX11_walker_91 : decode cX11_walker 91 = .ok (.iaload, 1) := by decide +kernel
theorem dX11_walker_92 : decode cX11_walker 92 = .ok (.invokevirtual 50, 3) := by decide +kernel
theorem dX11_walker_95 : decode cX11_walker 95 = .ok (.ireturn, 1) := by decide +kernel
theorem dX11_walker_96 : decode cX11_walker 96 = .ok (.aload_n 0, 1) := by decide +kernel
theorem dX11_walker_97 : decode cX11_walker 97 = .ok (.aload_n 0, 1) := by decide +kernel
theorem dX11_walker_98 : decode cX11_walker 98 = .ok (.getfield 338, 3) := by decide +kernel
theorem dX11_walker_101 : decode cX11_walker 101 = .ok (.getfield 308, 3) := by decide +kernel
theorem dX11_walker_104 : decode cX11_walker 104 = .ok (.iload_n 1, 1) := by decide +kernel
theorem dX11_walker_105 : decode cX11_walker 105 = .ok (.iaload, 1) := by decide +kernel
theorem dX11_walker_106 : decode cX11_walker 106 = .ok (.invokevirtual 50, 3) := by decide +kernel
theorem dX11_walker_109 : decode cX11_walker 109 = .ok (.ireturn, 1) := by decide +kernel
theorem dX11_walker_110 : decode cX11_walker 110 = .ok (.aload_n 0, 1) := by decide +kernel
theorem dX11_walker_111 : decode cX11_walker 111 = .ok (.aload_n 0, 1) := by decide +kernel
theorem dX11_walker_112 : decode cX11_walker 112 = .ok (.getfield 338, 3) := by decide +kernel
theorem dX11_walker_115 : decode cX11_walker 115 = .ok (.getfield 311, 3) := by decide +kernel
theorem dX11_walker_118 : decode cX11_walker 118 = .ok (.iload_n 1, 1) := by decide +kernel
theorem dX11_walker_119 : decode cX11_walker 119 = .ok (.iaload, 1) := by decide +kernel
theorem dX11_walker_120 : decode cX11_walker 120 = .ok (.invokevirtual 50, 3) := by decide +kernel
theorem dX11_walker_123 : decode cX11_walker 123 = .ok (.ireturn, 1) := by decide +kernel
theorem dX11_walker_124 : decode cX11_walker 124 = .ok (.aload_n 0, 1) := by decide +kernel
theorem dX11_walker_125 : decode cX11_walker 125 = .ok (.aload_n 0, 1) := by decide +kernel
theorem dX11_walker_126 : decode cX11_walker 126 = .ok (.getfield 338, 3) := by decide +kernel
theorem dX11_walker_129 : decode cX11_walker 129 = .ok (.getfield 314, 3) := by decide +kernel
theorem dX11_walker_132 : decode cX11_walker 132 = .ok (.iload_n 1, 1) := by decide +kernel
theorem dX11_walker_133 : decode cX11_walker 133 = .ok (.iaload, 1) := by decide +kernel
theorem dX11_walker_134 : decode cX11_walker 134 = .ok (.invokevirtual 50, 3) := by decide +kernel
theorem dX11_walker_137 : decode cX11_walker 137 = .ok (.ireturn, 1) := by decide +kernel
theorem dX11_walker_138 : decode cX11_walker 138 = .ok (.aload_n 0, 1) := by decide +kernel
theorem dX11_walker_139 : decode cX11_walker 139 = .ok (.aload_n 0, 1) := by decide +kernel
theorem dX11_walker_140 : decode cX11_walker 140 = .ok (.getfield 338, 3) := by decide +kernel
theorem dX11_walker_143 : decode cX11_walker 143 = .ok (.getfield 317, 3) := by decide +kernel
theorem dX11_walker_146 : decode cX11_walker 146 = .ok (.iload_n 1, 1) := by decide +kernel
theorem dX11_walker_147 : decode cX11_walker 147 = .ok (.iaload, 1) := by decide +kernel
theorem dX11_walker_148 : decode cX11_walker 148 = .ok (.invokevirtual 50, 3) := by decide +kernel
theorem dX11_walker_151 : decode cX11_walker 151 = .ok (.ireturn, 1) := by decide +kernel
theorem dX11_walker_152 : decode cX11_walker 152 = .ok (.aload_n 0, 1) := by decide +kernel
theorem dX11_walker_153 : decode cX11_walker 153 = .ok (.aload_n 0, 1) := by decide +kernel
theorem dX11_walker_154 : decode cX11_walker 154 = .ok (.getfield 338, 3) := by decide +kernel
theorem dX11_walker_157 : decode cX11_walker 157 = .ok (.getfield 320, 3) := by decide +kernel
theorem dX11_walker_160 : decode cX11_walker 160 = .ok (.iload_n 1, 1) := by decide +kernel
theorem dX11_walker_161 : decode cX11_walker 161 = .ok (.iaload, 1) := by decide +kernel
theorem dX11_walker_162 : decode cX11_walker 162 = .ok (.invokevirtual 50, 3) := by decide +kernel
theorem dX11_walker_165 : decode cX11_walker 165 = .ok (.ireturn, 1) := by decide +kernel
theorem dX11_road_0 : decode cX11_road 0 = .ok (.aload_n 0, 1) := by decide +kernel
theorem dX11_road_1 : decode cX11_road 1 = .ok (.iconst 0, 1) := by decide +kernel
theorem dX11_road_2 : decode cX11_road 2 = .ok (.putfield 40, 3) := by decide +kernel
theorem dX11_road_5 : decode cX11_road 5 = .ok (.aload_n 0, 1) := by decide +kernel
theorem dX11_road_6 : decode cX11_road 6 = .ok (.iload_n 1, 1) := by decide +kernel
theorem dX11_road_7 : decode cX11_road 7 = .ok (.invokevirtual 349, 3) := by decide +kernel
theorem dX11_road_10 : decode cX11_road 10 = .ok (.ifCond .eq 12, 3) := by decide +kernel
theorem dX11_road_13 : decode cX11_road 13 = .ok (.iload_n 2, 1) := by decide +kernel
theorem dX11_road_14 : decode cX11_road 14 = .ok (.iconst 0, 1) := by decide +kernel
theorem dX11_road_15 : decode cX11_road 15 = .ok (.iconst 4, 1) := by decide +kernel
theorem dX11_road_16 : decode cX11_road 16 = .ok (.invokestatic 118, 3) := by decide +kernel
theorem dX11_road_19 : decode cX11_road 19 = .ok (.ifCond .ne 9, 3) := by decide +kernel
theorem dX11_road_22 : decode cX11_road 22 = .ok (.aload_n 0, 1) := by decide +kernel
theorem dX11_road_23 : decode cX11_road 23 = .ok (.iconst 1, 1) := by decide +kernel
theorem dX11_road_24 : decode cX11_road 24 = .ok (.invokevirtual 46, 3) := by decide +kernel
theorem dX11_road_27 : decode cX11_road 27 = .ok (.ireturn, 1) := by decide +kernel
theorem dX11_road_28 : decode cX11_road 28 = .ok (.iload_n 2, 1) := by decide +kernel
theorem dX11_road_29 : decode cX11_road 29 = .ok (.tableswitch 87 0 3 #[31, 45, 59, 73], 31) := by decide +kernel
theorem dX11_road_60 : decode cX11_road 60 = .ok (.aload_n 0, 1) := by decide +kernel
theorem dX11_road_61 : decode cX11_road 61 = .ok (.aload_n 0, 1) := by decide +kernel
theorem dX11_road_62 : decode cX11_road 62 = .ok (.getfield 338, 3) := by decide +kernel
theorem dX11_road_65 : decode cX11_road 65 = .ok (.getfield 270, 3) := by decide +kernel
theorem dX11_road_68 : decode cX11_road 68 = .ok (.iload_n 1, 1) := by decide +kernel
theorem dX11_road_69 : decode cX11_road 69 = .ok (.iaload, 1) := by decide +kernel
theorem dX11_road_70 : decode cX11_road 70 = .ok (.invokevirtual 50, 3) := by decide +kernel
theorem dX11_road_73 : decode cX11_road 73 = .ok (.ireturn, 1) := by decide +kernel
theorem dX11_road_74 : decode cX11_road 74 = .ok (.aload_n 0, 1) := by decide +kernel
theorem dX11_road_75 : decode cX11_road 75 = .ok (.aload_n 0, 1) := by decide +kernel
theorem dX11_road_76 : decode cX11_road 76 = .ok (.getfield 338, 3) := by decide +kernel
theorem dX11_road_79 : decode cX11_road 79 = .ok (.getfield 273, 3) := by decide +kernel
theorem dX11_road_82 : decode cX11_road 82 = .ok (.iload_n 1, 1) := by decide +kernel
theorem dX11_road_83 : decode cX11_road 83 = .ok (.iaload, 1) := by decide +kernel
theorem dX11_road_84 : decode cX11_road 84 = .ok (.invokevirtual 50, 3) := by decide +kernel
theorem dX11_road_87 : decode cX11_road 87 = .ok (.ireturn, 1) := by decide +kernel
theorem dX11_road_88 : decode cX11_road 88 = .ok (.aload_n 0, 1) := by decide +kernel
theorem dX11_road_89 : decode cX11_road 89 = .ok (.aload_n 0, 1) := by decide +kernel
theorem dX11_road_90 : decode cX11_road 90 = .ok (.getfield 338, 3) := by decide +kernel
theorem dX11_road_93 : decode cX11_road 93 = .ok (.getfield 276, 3) := by decide +kernel
theorem dX11_road_96 : decode cX11_road 96 = .ok (.iload_n 1, 1) := by decide +kernel
theorem dX11_road_97 : decode cX11_road 97 = .ok (.iaload, 1) := by decide +kernel
theorem dX11_road_98 : decode cX11_road 98 = .ok (.invokevirtual 50, 3) := by decide +kernel
theorem dX11_road_101 : decode cX11_road 101 = .ok (.ireturn, 1) := by decide +kernel
theorem dX11_road_102 : decode cX11_road 102 = .ok (.aload_n 0, 1) := by decide +kernel
theorem dX11_road_103 : decode cX11_road 103 = .ok (.aload_n 0, 1) := by decide +kernel
theorem dX11_road_104 : decode cX11_road 104 = .ok (.getfield 338, 3) := by decide +kernel
theorem dX11_road_107 : decode cX11_road 107 = .ok (.getfield 279, 3) := by decide +kernel
theorem dX11_road_110 : decode cX11_road 110 = .ok (.iload_n 1, 1) := by decide +kernel
theorem dX11_road_111 : decode cX11_road 111 = .ok (.iaload, 1) := by decide +kernel
theorem dX11_road_112 : decode cX11_road 112 = .ok (.invokevirtual 50, 3) := by decide +kernel
theorem dX11_road_115 : decode cX11_road 115 = .ok (.ireturn, 1) := by decide +kernel
theorem dX11_road_116 : decode cX11_road 116 = .ok (.aload_n 0, 1) := by decide +kernel
theorem dX11_road_117 : decode cX11_road 117 = .ok (.aload_n 0, 1) := by decide +kernel
theorem dX11_road_118 : decode cX11_road 118 = .ok (.getfield 338, 3) := by decide +kernel
theorem dX11_road_121 : decode cX11_road 121 = .ok (.getfield 282, 3) := by decide +kernel
theorem dX11_road_124 : decode cX11_road 124 = .ok (.iload_n 1, 1) := by decide +kernel
theorem dX11_road_125 : decode cX11_road 125 = .ok (.iaload, 1) := by decide +kernel
theorem dX11_road_126 : decode cX11_road 126 = .ok (.invokevirtual 50, 3) := by decide +kernel
theorem dX11_road_129 : decode cX11_road 129 = .ok (.ireturn, 1) := by decide +kernel
theorem dX11_led_0 : decode cX11_led 0 = .ok (.aload_n 0, 1) := by decide +kernel
theorem dX11_led_1 : decode cX11_led 1 = .ok (.iconst 0, 1) := by decide +kernel
theorem dX11_led_2 : decode cX11_led 2 = .ok (.putfield 40, 3) := by decide +kernel
theorem dX11_led_5 : decode cX11_led 5 = .ok (.iconst 0, 1) := by decide +kernel
theorem dX11_led_6 : decode cX11_led 6 = .ok (.istore_n 2, 1) := by decide +kernel
theorem dX11_led_7 : decode cX11_led 7 = .ok (.iconst 0, 1) := by decide +kernel
theorem dX11_led_8 : decode cX11_led 8 = .ok (.istore_n 3, 1) := by decide +kernel
theorem dX11_led_9 : decode cX11_led 9 = .ok (.aload_n 0, 1) := by decide +kernel
theorem dX11_led_10 : decode cX11_led 10 = .ok (.invokevirtual 484, 3) := by decide +kernel
theorem dX11_led_13 : decode cX11_led 13 = .ok (.ifCond .eq 73, 3) := by decide +kernel
theorem dX11_led_16 : decode cX11_led 16 = .ok (.iload_n 3, 1) := by decide +kernel
theorem dX11_led_17 : decode cX11_led 17 = .ok (.aload_n 0, 1) := by decide +kernel
theorem dX11_led_18 : decode cX11_led 18 = .ok (.getfield 338, 3) := by decide +kernel
theorem dX11_led_21 : decode cX11_led 21 = .ok (.getfield 264, 3) := by decide +kernel
theorem dX11_led_24 : decode cX11_led 24 = .ok (.if_icmp .ge 62, 3) := by decide +kernel
theorem dX11_led_27 : decode cX11_led 27 = .ok (.aload_n 0, 1) := by decide +kernel
theorem dX11_led_28 : decode cX11_led 28 = .ok (.getfield 338, 3) := by decide +kernel
theorem dX11_led_31 : decode cX11_led 31 = .ok (.getfield 270, 3) := by decide +kernel
theorem dX11_led_34 : decode cX11_led 34 = .ok (.iload_n 3, 1) := by decide +kernel
theorem dX11_led_35 : decode cX11_led 35 = .ok (.iaload, 1) := by decide +kernel
theorem dX11_led_36 : decode cX11_led 36 = .ok (.i2l, 1) := by decide +kernel
theorem dX11_led_37 : decode cX11_led 37 = .ok (.aload_n 0, 1) := by decide +kernel
theorem dX11_led_38 : decode cX11_led 38 = .ok (.getfield 31, 3) := by decide +kernel
theorem dX11_led_41 : decode cX11_led 41 = .ok (.iconst 0, 1) := by decide +kernel
theorem dX11_led_42 : decode cX11_led 42 = .ok (.laload, 1) := by decide +kernel
theorem dX11_led_43 : decode cX11_led 43 = .ok (.lcmp, 1) := by decide +kernel
theorem dX11_led_44 : decode cX11_led 44 = .ok (.ifCond .eq 26, 3) := by decide +kernel
theorem dX11_led_47 : decode cX11_led 47 = .ok (.aload_n 0, 1) := by decide +kernel
theorem dX11_led_48 : decode cX11_led 48 = .ok (.getfield 338, 3) := by decide +kernel
theorem dX11_led_51 : decode cX11_led 51 = .ok (.getfield 273, 3) := by decide +kernel
theorem dX11_led_54 : decode cX11_led 54 = .ok (.iload_n 3, 1) := by decide +kernel
theorem dX11_led_55 : decode cX11_led 55 = .ok (.iaload, 1) := by decide +kernel
theorem dX11_led_56 : decode cX11_led 56 = .ok (.i2l, 1) := by decide +kernel
theorem dX11_led_57 : decode cX11_led 57 = .ok (.aload_n 0, 1) := by decide +kernel
theorem dX11_led_58 : decode cX11_led 58 = .ok (.getfield 31, 3) := by decide +kernel
theorem dX11_led_61 : decode cX11_led 61 = .ok (.iconst 0, 1) := by decide +kernel
theorem dX11_led_62 : decode cX11_led 62 = .ok (.laload, 1) := by decide +kernel
theorem dX11_led_63 : decode cX11_led 63 = .ok (.lcmp, 1) := by decide +kernel
theorem dX11_led_64 : decode cX11_led 64 = .ok (.ifCond .eq 6, 3) := by decide +kernel
theorem dX11_led_67 : decode cX11_led 67 = .ok (.goto 13, 3) := by decide +kernel
theorem dX11_led_70 : decode cX11_led 70 = .ok (.iload_n 2, 1) := by decide +kernel
theorem dX11_led_71 : decode cX11_led 71 = .ok (.iload_n 1, 1) := by decide +kernel
theorem dX11_led_72 : decode cX11_led 72 = .ok (.if_icmp .ne 5, 3) := by decide +kernel
theorem dX11_led_75 : decode cX11_led 75 = .ok (.iload_n 3, 1) := by decide +kernel
theorem dX11_led_76 : decode cX11_led 76 = .ok (.ireturn, 1) := by decide +kernel
theorem dX11_led_77 : decode cX11_led 77 = .ok (.iinc 2 1, 3) := by decide +kernel
theorem dX11_led_80 : decode cX11_led 80 = .ok (.iinc 3 1, 3) := by decide +kernel
theorem dX11_led_83 : decode cX11_led 83 = .ok (.goto (-74), 3) := by decide +kernel
theorem dX11_led_86 : decode cX11_led 86 = .ok (.aload_n 0, 1) := by decide +kernel
theorem dX11_led_87 : decode cX11_led 87 = .ok (.iconst 1, 1) := by decide +kernel
theorem dX11_led_88 : decode cX11_led 88 = .ok (.putfield 40, 3) := by decide +kernel
theorem dX11_led_91 : decode cX11_led 91 = .ok (.iconst 0, 1) := by decide +kernel
theorem dX11_led_92 : decode cX11_led 92 = .ok (.ireturn, 1) := by decide +kernel
theorem dX11_size_0 : decode cX11_size 0 = .ok (.aload_n 0, 1) := by decide +kernel
theorem dX11_size_1 : decode cX11_size 1 = .ok (.iconst 0, 1) := by decide +kernel
theorem dX11_size_2 : decode cX11_size 2 = .ok (.putfield 40, 3) := by decide +kernel
theorem dX11_size_5 : decode cX11_size 5 = .ok (.iload_n 1, 1) := by decide +kernel
theorem dX11_size_6 : decode cX11_size 6 = .ok (.bipush 11, 2) := by decide +kernel
theorem dX11_size_8 : decode cX11_size 8 = .ok (.if_icmp .ne 8, 3) := by decide +kernel
theorem dX11_size_11 : decode cX11_size 11 = .ok (.aload_n 0, 1) := by decide +kernel
theorem dX11_size_12 : decode cX11_size 12 = .ok (.getfield 331, 3) := by decide +kernel
theorem dX11_size_15 : decode cX11_size 15 = .ok (.ireturn, 1) := by decide +kernel
theorem dX11_size_16 : decode cX11_size 16 = .ok (.iload_n 1, 1) := by decide +kernel
theorem dX11_size_17 : decode cX11_size 17 = .ok (.iconst 0, 1) := by decide +kernel
theorem dX11_size_18 : decode cX11_size 18 = .ok (.bipush 10, 2) := by decide +kernel
theorem dX11_size_20 : decode cX11_size 20 = .ok (.invokestatic 118, 3) := by decide +kernel
theorem dX11_size_23 : decode cX11_size 23 = .ok (.ifCond .ne 5, 3) := by decide +kernel
theorem dX11_size_26 : decode cX11_size 26 = .ok (.iconst (-1), 1) := by decide +kernel
theorem dX11_size_27 : decode cX11_size 27 = .ok (.ireturn, 1) := by decide +kernel
theorem dX11_size_28 : decode cX11_size 28 = .ok (.aload_n 0, 1) := by decide +kernel
theorem dX11_size_29 : decode cX11_size 29 = .ok (.getfield 338, 3) := by decide +kernel
theorem dX11_size_32 : decode cX11_size 32 = .ok (.ifnonnull 5, 3) := by decide +kernel
theorem dX11_size_35 : decode cX11_size 35 = .ok (.iconst 0, 1) := by decide +kernel
theorem dX11_size_36 : decode cX11_size 36 = .ok (.ireturn, 1) := by decide +kernel
theorem dX11_size_37 : decode cX11_size 37 = .ok (.iload_n 1, 1) := by decide +kernel
theorem dX11_size_38 : decode cX11_size 38 = .ok (.tableswitch 151 0 9 #[54, 62, 70, 78, 86, 94, 102, 107, 127, 146], 54) := by decide +kernel
theorem dX11_size_92 : decode cX11_size 92 = .ok (.aload_n 0, 1) := by decide +kernel
theorem dX11_size_93 : decode cX11_size 93 = .ok (.getfield 338, 3) := by decide +kernel
theorem dX11_size_96 : decode cX11_size 96 = .ok (.getfield 151, 3) := by decide +kernel
theorem dX11_size_99 : decode cX11_size 99 = .ok (.ireturn, 1) := by decide +kernel
theorem dX11_size_100 : decode cX11_size 100 = .ok (.aload_n 0, 1) := by decide +kernel
theorem dX11_size_101 : decode cX11_size 101 = .ok (.getfield 338, 3) := by decide +kernel
theorem dX11_size_104 : decode cX11_size 104 = .ok (.getfield 219, 3) := by decide +kernel
theorem dX11_size_107 : decode cX11_size 107 = .ok (.ireturn, 1) := by decide +kernel
theorem dX11_size_108 : decode cX11_size 108 = .ok (.aload_n 0, 1) := by decide +kernel
theorem dX11_size_109 : decode cX11_size 109 = .ok (.getfield 338, 3) := by decide +kernel
theorem dX11_size_112 : decode cX11_size 112 = .ok (.getfield 190, 3) := by decide +kernel
theorem dX11_size_115 : decode cX11_size 115 = .ok (.ireturn, 1) := by decide +kernel
theorem dX11_size_116 : decode cX11_size 116 = .ok (.aload_n 0, 1) := by decide +kernel
theorem dX11_size_117 : decode cX11_size 117 = .ok (.getfield 338, 3) := by decide +kernel
theorem dX11_size_120 : decode cX11_size 120 = .ok (.getfield 264, 3) := by decide +kernel
theorem dX11_size_123 : decode cX11_size 123 = .ok (.ireturn, 1) := by decide +kernel
theorem dX11_size_124 : decode cX11_size 124 = .ok (.aload_n 0, 1) := by decide +kernel
theorem dX11_size_125 : decode cX11_size 125 = .ok (.getfield 338, 3) := by decide +kernel
theorem dX11_size_128 : decode cX11_size 128 = .ok (.getfield 193, 3) := by decide +kernel
theorem dX11_size_131 : decode cX11_size 131 = .ok (.ireturn, 1) := by decide +kernel
theorem dX11_size_132 : decode cX11_size 132 = .ok (.aload_n 0, 1) := by decide +kernel
theorem dX11_size_133 : decode cX11_size 133 = .ok (.getfield 338, 3) := by decide +kernel
theorem dX11_size_136 : decode cX11_size 136 = .ok (.getfield 323, 3) := by decide +kernel
theorem dX11_size_139 : decode cX11_size 139 = .ok (.ireturn, 1) := by decide +kernel
theorem dX11_size_140 : decode cX11_size 140 = .ok (.aload_n 0, 1) := by decide +kernel
theorem dX11_size_141 : decode cX11_size 141 = .ok (.getfield 28, 3) := by decide +kernel
theorem dX11_size_144 : decode cX11_size 144 = .ok (.ireturn, 1) := by decide +kernel
theorem dX11_size_145 : decode cX11_size 145 = .ok (.aload_n 0, 1) := by decide +kernel
theorem dX11_size_146 : decode cX11_size 146 = .ok (.invokevirtual 484, 3) := by decide +kernel
theorem dX11_size_149 : decode cX11_size 149 = .ok (.ifCond .eq 13, 3) := by decide +kernel
theorem dX11_size_152 : decode cX11_size 152 = .ok (.aload_n 0, 1) := by decide +kernel
theorem dX11_size_153 : decode cX11_size 153 = .ok (.getfield 31, 3) := by decide +kernel
theorem dX11_size_156 : decode cX11_size 156 = .ok (.iconst 0, 1) := by decide +kernel
theorem dX11_size_157 : decode cX11_size 157 = .ok (.laload, 1) := by decide +kernel
theorem dX11_size_158 : decode cX11_size 158 = .ok (.l2i, 1) := by decide +kernel
theorem dX11_size_159 : decode cX11_size 159 = .ok (.goto 5, 3) := by decide +kernel
theorem dX11_size_162 : decode cX11_size 162 = .ok (.bipush (-2), 2) := by decide +kernel
theorem dX11_size_164 : decode cX11_size 164 = .ok (.ireturn, 1) := by decide +kernel
theorem dX11_size_165 : decode cX11_size 165 = .ok (.aload_n 0, 1) := by decide +kernel
theorem dX11_size_166 : decode cX11_size 166 = .ok (.invokevirtual 484, 3) := by decide +kernel
theorem dX11_size_169 : decode cX11_size 169 = .ok (.ifCond .eq 13, 3) := by decide +kernel
theorem dX11_size_172 : decode cX11_size 172 = .ok (.aload_n 0, 1) := by decide +kernel
theorem dX11_size_173 : decode cX11_size 173 = .ok (.getfield 31, 3) := by decide +kernel
theorem dX11_size_176 : decode cX11_size 176 = .ok (.iconst 1, 1) := by decide +kernel
theorem dX11_size_177 : decode cX11_size 177 = .ok (.laload, 1) := by decide +kernel
theorem dX11_size_178 : decode cX11_size 178 = .ok (.l2i, 1) := by decide +kernel
theorem dX11_size_179 : decode cX11_size 179 = .ok (.goto 4, 3) := by decide +kernel
theorem dX11_size_182 : decode cX11_size 182 = .ok (.iconst 0, 1) := by decide +kernel
theorem dX11_size_183 : decode cX11_size 183 = .ok (.ireturn, 1) := by decide +kernel
theorem dX11_size_184 : decode cX11_size 184 = .ok (.aload_n 0, 1) := by decide +kernel
theorem dX11_size_185 : decode cX11_size 185 = .ok (.getfield 340, 3) := by decide +kernel
theorem dX11_size_188 : decode cX11_size 188 = .ok (.ireturn, 1) := by decide +kernel
theorem dX11_size_189 : decode cX11_size 189 = .ok (.aload_n 0, 1) := by decide +kernel
theorem dX11_size_190 : decode cX11_size 190 = .ok (.getfield 343, 3) := by decide +kernel
theorem dX11_size_193 : decode cX11_size 193 = .ok (.ireturn, 1) := by decide +kernel
theorem dX11_trouble_0 : decode cX11_trouble 0 = .ok (.aload_n 0, 1) := by decide +kernel
theorem dX11_trouble_1 : decode cX11_trouble 1 = .ok (.iconst 0, 1) := by decide +kernel
theorem dX11_trouble_2 : decode cX11_trouble 2 = .ok (.putfield 40, 3) := by decide +kernel
theorem dX11_trouble_5 : decode cX11_trouble 5 = .ok (.aload_n 0, 1) := by decide +kernel
theorem dX11_trouble_6 : decode cX11_trouble 6 = .ok (.getfield 43, 3) := by decide +kernel
theorem dX11_trouble_9 : decode cX11_trouble 9 = .ok (.ireturn, 1) := by decide +kernel
theorem dJ0_length_8abf5_0 : decode cJ0_length_8abf5 0 = .ok (.aload_n 0, 1) := by decide +kernel
theorem dJ0_length_8abf5_1 : decode cJ0_length_8abf5 1 = .ok (.getfield 9, 3) := by decide +kernel
theorem dJ0_length_8abf5_4 : decode cJ0_length_8abf5 4 = .ok (.arraylength, 1) := by decide +kernel
theorem dJ0_length_8abf5_5 : decode cJ0_length_8abf5 5 = .ok (.aload_n 0, 1) := by decide +kernel
theorem dJ0_length_8abf5_6 : decode cJ0_length_8abf5 6 = .ok (.invokevirtual 335, 3) := by decide +kernel
theorem dJ0_length_8abf5_9 : decode cJ0_length_8abf5 9 = .ok (.ishr, 1) := by decide +kernel
theorem dJ0_length_8abf5_10 : decode cJ0_length_8abf5 10 = .ok (.ireturn, 1) := by decide +kernel
theorem dJ0_charAt_5068e_0 : decode cJ0_charAt_5068e 0 = .ok (.aload_n 0, 1) := by decide +kernel
theorem dJ0_charAt_5068e_1 : decode cJ0_charAt_5068e 1 = .ok (.invokevirtual 492, 3) := by decide +kernel
theorem dJ0_charAt_5068e_4 : decode cJ0_charAt_5068e 4 = .ok (.ifCond .eq 12, 3) := by decide +kernel
theorem dJ0_charAt_5068e_7 : decode cJ0_charAt_5068e 7 = .ok (.aload_n 0, 1) := by decide +kernel
theorem dJ0_charAt_5068e_8 : decode cJ0_charAt_5068e 8 = .ok (.getfield 9, 3) := by decide +kernel
theorem dJ0_charAt_5068e_11 : decode cJ0_charAt_5068e 11 = .ok (.iload_n 1, 1) := by decide +kernel
theorem dJ0_charAt_5068e_12 : decode cJ0_charAt_5068e 12 = .ok (.invokestatic 495, 3) := by decide +kernel
theorem dJ0_charAt_5068e_15 : decode cJ0_charAt_5068e 15 = .ok (.ireturn, 1) := by decide +kernel
theorem dJ0_coder_7d493_0 : decode cJ0_coder_7d493 0 = .ok (.getstatic 38, 3) := by decide +kernel
theorem dJ0_coder_7d493_3 : decode cJ0_coder_7d493 3 = .ok (.ifCond .eq 10, 3) := by decide +kernel
theorem dJ0_coder_7d493_6 : decode cJ0_coder_7d493 6 = .ok (.aload_n 0, 1) := by decide +kernel
theorem dJ0_coder_7d493_7 : decode cJ0_coder_7d493 7 = .ok (.getfield 15, 3) := by decide +kernel
theorem dJ0_coder_7d493_10 : decode cJ0_coder_7d493 10 = .ok (.goto 4, 3) := by decide +kernel
theorem dJ0_coder_7d493_14 : decode cJ0_coder_7d493 14 = .ok (.ireturn, 1) := by decide +kernel
theorem dJ0_isLatin1_aae02_0 : decode cJ0_isLatin1_aae02 0 = .ok (.getstatic 38, 3) := by decide +kernel
theorem dJ0_isLatin1_aae02_3 : decode cJ0_isLatin1_aae02 3 = .ok (.ifCond .eq 14, 3) := by decide +kernel
theorem dJ0_isLatin1_aae02_6 : decode cJ0_isLatin1_aae02 6 = .ok (.aload_n 0, 1) := by decide +kernel
theorem dJ0_isLatin1_aae02_7 : decode cJ0_isLatin1_aae02 7 = .ok (.getfield 15, 3) := by decide +kernel
theorem dJ0_isLatin1_aae02_10 : decode cJ0_isLatin1_aae02 10 = .ok (.ifCond .ne 7, 3) := by decide +kernel
theorem dJ0_isLatin1_aae02_13 : decode cJ0_isLatin1_aae02 13 = .ok (.iconst 1, 1) := by decide +kernel
theorem dJ0_isLatin1_aae02_14 : decode cJ0_isLatin1_aae02 14 = .ok (.goto 4, 3) := by decide +kernel
theorem dJ0_isLatin1_aae02_18 : decode cJ0_isLatin1_aae02 18 = .ok (.ireturn, 1) := by decide +kernel
theorem dJ0_checkIndex_df160_0 : decode cJ0_checkIndex_df160 0 = .ok (.iload_n 0, 1) := by decide +kernel
theorem dJ0_checkIndex_df160_1 : decode cJ0_checkIndex_df160 1 = .ok (.iload_n 1, 1) := by decide +kernel
theorem dJ0_checkIndex_df160_2 : decode cJ0_checkIndex_df160 2 = .ok (.getstatic 1053, 3) := by decide +kernel
theorem dJ0_checkIndex_df160_5 : decode cJ0_checkIndex_df160 5 = .ok (.invokestatic 1059, 3) := by decide +kernel
theorem dJ0_checkIndex_df160_8 : decode cJ0_checkIndex_df160 8 = .ok (.pop, 1) := by decide +kernel
theorem dJ0_checkIndex_df160_9 : decode cJ0_checkIndex_df160 9 = .ok (.return_, 1) := by decide +kernel
theorem dJ1_charAt_3b067_0 : decode cJ1_charAt_3b067 0 = .ok (.iload_n 1, 1) := by decide +kernel
theorem dJ1_charAt_3b067_1 : decode cJ1_charAt_3b067 1 = .ok (.aload_n 0, 1) := by decide +kernel
theorem dJ1_charAt_3b067_2 : decode cJ1_charAt_3b067 2 = .ok (.arraylength, 1) := by decide +kernel
theorem dJ1_charAt_3b067_3 : decode cJ1_charAt_3b067 3 = .ok (.invokestatic 9, 3) := by decide +kernel
theorem dJ1_charAt_3b067_6 : decode cJ1_charAt_3b067 6 = .ok (.aload_n 0, 1) := by decide +kernel
theorem dJ1_charAt_3b067_7 : decode cJ1_charAt_3b067 7 = .ok (.iload_n 1, 1) := by decide +kernel
theorem dJ1_charAt_3b067_8 : decode cJ1_charAt_3b067 8 = .ok (.baload, 1) := by decide +kernel
theorem dJ1_charAt_3b067_9 : decode cJ1_charAt_3b067 9 = .ok (.sipush 255, 3) := by decide +kernel
theorem dJ1_charAt_3b067_12 : decode cJ1_charAt_3b067 12 = .ok (.iand, 1) := by decide +kernel
theorem dJ1_charAt_3b067_13 : decode cJ1_charAt_3b067 13 = .ok (.i2c, 1) := by decide +kernel
theorem dJ1_charAt_3b067_14 : decode cJ1_charAt_3b067 14 = .ok (.ireturn, 1) := by decide +kernel
theorem dJ3_checkIndex_8e157_0 : decode cJ3_checkIndex_8e157 0 = .ok (.iload_n 0, 1) := by decide +kernel
theorem dJ3_checkIndex_8e157_1 : decode cJ3_checkIndex_8e157 1 = .ok (.ifCond .lt 8, 3) := by decide +kernel
theorem dJ3_checkIndex_8e157_4 : decode cJ3_checkIndex_8e157 4 = .ok (.iload_n 0, 1) := by decide +kernel
theorem dJ3_checkIndex_8e157_5 : decode cJ3_checkIndex_8e157 5 = .ok (.iload_n 1, 1) := by decide +kernel
theorem dJ3_checkIndex_8e157_6 : decode cJ3_checkIndex_8e157 6 = .ok (.if_icmp .lt 10, 3) := by decide +kernel
theorem dJ3_checkIndex_8e157_16 : decode cJ3_checkIndex_8e157 16 = .ok (.iload_n 0, 1) := by decide +kernel
theorem dJ3_checkIndex_8e157_17 : decode cJ3_checkIndex_8e157 17 = .ok (.ireturn, 1) := by decide +kernel
theorem dL_led_0 : decode cL_led 0 = .ok (.aload_n 2, 1) := by decide +kernel
theorem dL_led_1 : decode cL_led 1 = .ok (.iconst 0, 1) := by decide +kernel
theorem dL_led_2 : decode cL_led 2 = .ok (.aload_n 0, 1) := by decide +kernel
theorem dL_led_3 : decode cL_led 3 = .ok (.iload_n 1, 1) := by decide +kernel
theorem dL_led_4 : decode cL_led 4 = .ok (.invokevirtual 7, 3) := by decide +kernel
theorem dL_led_7 : decode cL_led 7 = .ok (.i2l, 1) := by decide +kernel
theorem dL_led_8 : decode cL_led 8 = .ok (.lastore, 1) := by decide +kernel
theorem dL_led_9 : decode cL_led 9 = .ok (.goto 6, 3) := by decide +kernel
theorem dL_led_12 : decode cL_led 12 = .ok (.astore_n 3, 1) := by decide +kernel
theorem dL_led_13 : decode cL_led 13 = .ok (.iconst 1, 1) := by decide +kernel
theorem dL_led_14 : decode cL_led 14 = .ok (.ireturn, 1) := by decide +kernel
theorem dL_led_15 : decode cL_led 15 = .ok (.iconst 0, 1) := by decide +kernel
theorem dL_led_16 : decode cL_led 16 = .ok (.ireturn, 1) := by decide +kernel
end
