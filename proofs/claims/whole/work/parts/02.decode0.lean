theorem d_R_byteAt_0 : decode b_R_byteAt 0 = .ok (.iload_n 1, 1) := by decide +kernel
theorem d_R_byteAt_1 : decode b_R_byteAt 1 = .ok (.ifCond .lt 20, 3) := by decide +kernel
theorem d_R_byteAt_4 : decode b_R_byteAt 4 = .ok (.iload_n 1, 1) := by decide +kernel
theorem d_R_byteAt_5 : decode b_R_byteAt 5 = .ok (.aload_n 0, 1) := by decide +kernel
theorem d_R_byteAt_6 : decode b_R_byteAt 6 = .ok (.getfield 15, 3) := by decide +kernel
theorem d_R_byteAt_9 : decode b_R_byteAt 9 = .ok (.if_icmp .ge 12, 3) := by decide +kernel
theorem d_R_byteAt_12 : decode b_R_byteAt 12 = .ok (.aload_n 0, 1) := by decide +kernel
theorem d_R_byteAt_13 : decode b_R_byteAt 13 = .ok (.getfield 9, 3) := by decide +kernel
theorem d_R_byteAt_16 : decode b_R_byteAt 16 = .ok (.iload_n 1, 1) := by decide +kernel
theorem d_R_byteAt_17 : decode b_R_byteAt 17 = .ok (.iaload, 1) := by decide +kernel
theorem d_R_byteAt_18 : decode b_R_byteAt 18 = .ok (.goto 4, 3) := by decide +kernel
theorem d_R_byteAt_21 : decode b_R_byteAt 21 = .ok (.iconst (-1), 1) := by decide +kernel
theorem d_R_byteAt_22 : decode b_R_byteAt 22 = .ok (.ireturn, 1) := by decide +kernel
theorem d_X_itemAt_0 : decode b_X_itemAt 0 = .ok (.aload_n 0, 1) := by decide +kernel
theorem d_X_itemAt_1 : decode b_X_itemAt 1 = .ok (.getfield 19, 3) := by decide +kernel
theorem d_X_itemAt_4 : decode b_X_itemAt 4 = .ok (.iload_n 1, 1) := by decide +kernel
theorem d_X_itemAt_5 : decode b_X_itemAt 5 = .ok (.invokevirtual 58, 3) := by decide +kernel
theorem d_X_itemAt_8 : decode b_X_itemAt 8 = .ok (.ireturn, 1) := by decide +kernel
theorem d_M_itemAt_0 : decode b_M_itemAt 0 = .ok (.iload_n 1, 1) := by decide +kernel
theorem d_M_itemAt_1 : decode b_M_itemAt 1 = .ok (.ifCond .lt 20, 3) := by decide +kernel
theorem d_M_itemAt_4 : decode b_M_itemAt 4 = .ok (.iload_n 1, 1) := by decide +kernel
theorem d_M_itemAt_5 : decode b_M_itemAt 5 = .ok (.aload_n 0, 1) := by decide +kernel
theorem d_M_itemAt_6 : decode b_M_itemAt 6 = .ok (.getfield 99, 3) := by decide +kernel
theorem d_M_itemAt_9 : decode b_M_itemAt 9 = .ok (.if_icmp .ge 12, 3) := by decide +kernel
theorem d_M_itemAt_12 : decode b_M_itemAt 12 = .ok (.aload_n 0, 1) := by decide +kernel
theorem d_M_itemAt_13 : decode b_M_itemAt 13 = .ok (.getfield 16, 3) := by decide +kernel
theorem d_M_itemAt_16 : decode b_M_itemAt 16 = .ok (.iload_n 1, 1) := by decide +kernel
theorem d_M_itemAt_17 : decode b_M_itemAt 17 = .ok (.iaload, 1) := by decide +kernel
theorem d_M_itemAt_18 : decode b_M_itemAt 18 = .ok (.goto 4, 3) := by decide +kernel
theorem d_M_itemAt_21 : decode b_M_itemAt 21 = .ok (.iconst (-1), 1) := by decide +kernel
theorem d_M_itemAt_22 : decode b_M_itemAt 22 = .ok (.ireturn, 1) := by decide +kernel
theorem d_X_listAt_0 : decode b_X_listAt 0 = .ok (.aload_n 0, 1) := by decide +kernel
theorem d_X_listAt_1 : decode b_X_listAt 1 = .ok (.getfield 16, 3) := by decide +kernel
theorem d_X_listAt_4 : decode b_X_listAt 4 = .ok (.iload_n 1, 1) := by decide +kernel
theorem d_X_listAt_5 : decode b_X_listAt 5 = .ok (.invokevirtual 58, 3) := by decide +kernel
theorem d_X_listAt_8 : decode b_X_listAt 8 = .ok (.ireturn, 1) := by decide +kernel
theorem d_M_listAt_0 : decode b_M_listAt 0 = .ok (.iload_n 1, 1) := by decide +kernel
theorem d_M_listAt_1 : decode b_M_listAt 1 = .ok (.ifCond .lt 20, 3) := by decide +kernel
theorem d_M_listAt_4 : decode b_M_listAt 4 = .ok (.iload_n 1, 1) := by decide +kernel
theorem d_M_listAt_5 : decode b_M_listAt 5 = .ok (.aload_n 0, 1) := by decide +kernel
theorem d_M_listAt_6 : decode b_M_listAt 6 = .ok (.getfield 25, 3) := by decide +kernel
theorem d_M_listAt_9 : decode b_M_listAt 9 = .ok (.if_icmp .ge 12, 3) := by decide +kernel
theorem d_M_listAt_12 : decode b_M_listAt 12 = .ok (.aload_n 0, 1) := by decide +kernel
theorem d_M_listAt_13 : decode b_M_listAt 13 = .ok (.getfield 13, 3) := by decide +kernel
theorem d_M_listAt_16 : decode b_M_listAt 16 = .ok (.iload_n 1, 1) := by decide +kernel
theorem d_M_listAt_17 : decode b_M_listAt 17 = .ok (.iaload, 1) := by decide +kernel
theorem d_M_listAt_18 : decode b_M_listAt 18 = .ok (.goto 4, 3) := by decide +kernel
theorem d_M_listAt_21 : decode b_M_listAt 21 = .ok (.iconst (-1), 1) := by decide +kernel
theorem d_M_listAt_22 : decode b_M_listAt 22 = .ok (.ireturn, 1) := by decide +kernel
theorem d_R_putAll_0 : decode b_R_putAll 0 = .ok (.aload_n 1, 1) := by decide +kernel
theorem d_R_putAll_1 : decode b_R_putAll 1 = .ok (.getfield 15, 3) := by decide +kernel
theorem d_R_putAll_4 : decode b_R_putAll 4 = .ok (.sipush 1024, 3) := by decide +kernel
theorem d_R_putAll_7 : decode b_R_putAll 7 = .ok (.aload_n 0, 1) := by decide +kernel
theorem d_R_putAll_8 : decode b_R_putAll 8 = .ok (.getfield 15, 3) := by decide +kernel
theorem d_R_putAll_11 : decode b_R_putAll 11 = .ok (.isub, 1) := by decide +kernel
theorem d_R_putAll_12 : decode b_R_putAll 12 = .ok (.if_icmp .le 5, 3) := by decide +kernel
theorem d_R_putAll_15 : decode b_R_putAll 15 = .ok (.iconst 0, 1) := by decide +kernel
theorem d_R_putAll_16 : decode b_R_putAll 16 = .ok (.ireturn, 1) := by decide +kernel
theorem d_R_putAll_17 : decode b_R_putAll 17 = .ok (.aload_n 1, 1) := by decide +kernel
theorem d_R_putAll_18 : decode b_R_putAll 18 = .ok (.getfield 9, 3) := by decide +kernel
theorem d_R_putAll_21 : decode b_R_putAll 21 = .ok (.iconst 0, 1) := by decide +kernel
theorem d_R_putAll_22 : decode b_R_putAll 22 = .ok (.aload_n 0, 1) := by decide +kernel
theorem d_R_putAll_23 : decode b_R_putAll 23 = .ok (.getfield 9, 3) := by decide +kernel
theorem d_R_putAll_26 : decode b_R_putAll 26 = .ok (.aload_n 0, 1) := by decide +kernel
theorem d_R_putAll_27 : decode b_R_putAll 27 = .ok (.getfield 15, 3) := by decide +kernel
theorem d_R_putAll_30 : decode b_R_putAll 30 = .ok (.aload_n 1, 1) := by decide +kernel
theorem d_R_putAll_31 : decode b_R_putAll 31 = .ok (.getfield 15, 3) := by decide +kernel
theorem d_R_putAll_34 : decode b_R_putAll 34 = .ok (.invokestatic 23, 3) := by decide +kernel
theorem d_R_putAll_37 : decode b_R_putAll 37 = .ok (.aload_n 0, 1) := by decide +kernel
theorem d_R_putAll_38 : decode b_R_putAll 38 = .ok (.dup, 1) := by decide +kernel
theorem d_R_putAll_39 : decode b_R_putAll 39 = .ok (.getfield 15, 3) := by decide +kernel
theorem d_R_putAll_42 : decode b_R_putAll 42 = .ok (.aload_n 1, 1) := by decide +kernel
theorem d_R_putAll_43 : decode b_R_putAll 43 = .ok (.getfield 15, 3) := by decide +kernel
theorem d_R_putAll_46 : decode b_R_putAll 46 = .ok (.iadd, 1) := by decide +kernel
theorem d_R_putAll_47 : decode b_R_putAll 47 = .ok (.putfield 15, 3) := by decide +kernel
theorem d_R_putAll_50 : decode b_R_putAll 50 = .ok (.iconst 1, 1) := by decide +kernel
theorem d_R_putAll_51 : decode b_R_putAll 51 = .ok (.ireturn, 1) := by decide +kernel
theorem d_R_takeAll_0 : decode b_R_takeAll 0 = .ok (.aload_n 0, 1) := by decide +kernel
theorem d_R_takeAll_1 : decode b_R_takeAll 1 = .ok (.iconst 0, 1) := by decide +kernel
theorem d_R_takeAll_2 : decode b_R_takeAll 2 = .ok (.putfield 15, 3) := by decide +kernel
theorem d_R_takeAll_5 : decode b_R_takeAll 5 = .ok (.aload_n 0, 1) := by decide +kernel
theorem d_R_takeAll_6 : decode b_R_takeAll 6 = .ok (.aload_n 1, 1) := by decide +kernel
theorem d_R_takeAll_7 : decode b_R_takeAll 7 = .ok (.invokevirtual 29, 3) := by decide +kernel
theorem d_R_takeAll_10 : decode b_R_takeAll 10 = .ok (.pop, 1) := by decide +kernel
theorem d_R_takeAll_11 : decode b_R_takeAll 11 = .ok (.aload_n 1, 1) := by decide +kernel
theorem d_R_takeAll_12 : decode b_R_takeAll 12 = .ok (.iconst 0, 1) := by decide +kernel
theorem d_R_takeAll_13 : decode b_R_takeAll 13 = .ok (.putfield 15, 3) := by decide +kernel
theorem d_R_takeAll_16 : decode b_R_takeAll 16 = .ok (.aload_n 0, 1) := by decide +kernel
theorem d_R_takeAll_17 : decode b_R_takeAll 17 = .ok (.getfield 15, 3) := by decide +kernel
theorem d_R_takeAll_20 : decode b_R_takeAll 20 = .ok (.ireturn, 1) := by decide +kernel
theorem d_X_wrap_0 : decode b_X_wrap 0 = .ok (.aload_n 0, 1) := by decide +kernel
theorem d_X_wrap_1 : decode b_X_wrap 1 = .ok (.getfield 19, 3) := by decide +kernel
theorem d_X_wrap_4 : decode b_X_wrap 4 = .ok (.aload_n 0, 1) := by decide +kernel
theorem d_X_wrap_5 : decode b_X_wrap 5 = .ok (.getfield 16, 3) := by decide +kernel
theorem d_X_wrap_8 : decode b_X_wrap 8 = .ok (.invokevirtual 44, 3) := by decide +kernel
theorem d_X_wrap_11 : decode b_X_wrap 11 = .ok (.ireturn, 1) := by decide +kernel
theorem d_M_wrap_0 : decode b_M_wrap 0 = .ok (.iconst 0, 1) := by decide +kernel
theorem d_M_wrap_1 : decode b_M_wrap 1 = .ok (.istore_n 1, 1) := by decide +kernel
theorem d_M_wrap_2 : decode b_M_wrap 2 = .ok (.iload_n 1, 1) := by decide +kernel
theorem d_M_wrap_3 : decode b_M_wrap 3 = .ok (.aload_n 0, 1) := by decide +kernel
theorem d_M_wrap_4 : decode b_M_wrap 4 = .ok (.getfield 25, 3) := by decide +kernel
theorem d_M_wrap_7 : decode b_M_wrap 7 = .ok (.if_icmp .ge 21, 3) := by decide +kernel
theorem d_M_wrap_10 : decode b_M_wrap 10 = .ok (.aload_n 0, 1) := by decide +kernel
theorem d_M_wrap_11 : decode b_M_wrap 11 = .ok (.getfield 16, 3) := by decide +kernel
theorem d_M_wrap_14 : decode b_M_wrap 14 = .ok (.iload_n 1, 1) := by decide +kernel
theorem d_M_wrap_15 : decode b_M_wrap 15 = .ok (.aload_n 0, 1) := by decide +kernel
theorem d_M_wrap_16 : decode b_M_wrap 16 = .ok (.getfield 13, 3) := by decide +kernel
theorem d_M_wrap_19 : decode b_M_wrap 19 = .ok (.iload_n 1, 1) := by decide +kernel
theorem d_M_wrap_20 : decode b_M_wrap 20 = .ok (.iaload, 1) := by decide +kernel
theorem d_M_wrap_21 : decode b_M_wrap 21 = .ok (.iastore, 1) := by decide +kernel
theorem d_M_wrap_22 : decode b_M_wrap 22 = .ok (.iinc 1 1, 3) := by decide +kernel
theorem d_M_wrap_25 : decode b_M_wrap 25 = .ok (.goto (-23), 3) := by decide +kernel
theorem d_M_wrap_28 : decode b_M_wrap 28 = .ok (.aload_n 0, 1) := by decide +kernel
theorem d_M_wrap_29 : decode b_M_wrap 29 = .ok (.aload_n 0, 1) := by decide +kernel
theorem d_M_wrap_30 : decode b_M_wrap 30 = .ok (.getfield 25, 3) := by decide +kernel
theorem d_M_wrap_33 : decode b_M_wrap 33 = .ok (.putfield 99, 3) := by decide +kernel
theorem d_M_wrap_36 : decode b_M_wrap 36 = .ok (.aload_n 0, 1) := by decide +kernel
theorem d_M_wrap_37 : decode b_M_wrap 37 = .ok (.iconst 0, 1) := by decide +kernel
theorem d_M_wrap_38 : decode b_M_wrap 38 = .ok (.putfield 25, 3) := by decide +kernel
theorem d_M_wrap_41 : decode b_M_wrap 41 = .ok (.aload_n 0, 1) := by decide +kernel
theorem d_M_wrap_42 : decode b_M_wrap 42 = .ok (.getfield 99, 3) := by decide +kernel
theorem d_M_wrap_45 : decode b_M_wrap 45 = .ok (.ireturn, 1) := by decide +kernel
theorem d_R_size_0 : decode b_R_size 0 = .ok (.aload_n 0, 1) := by decide +kernel
theorem d_R_size_1 : decode b_R_size 1 = .ok (.getfield 15, 3) := by decide +kernel
theorem d_R_size_4 : decode b_R_size 4 = .ok (.ireturn, 1) := by decide +kernel
theorem d_X_isNamedSpace_0 : decode b_X_isNamedSpace 0 = .ok (.iload_n 0, 1) := by decide +kernel
theorem d_X_isNamedSpace_1 : decode b_X_isNamedSpace 1 = .ok (.bipush 9, 2) := by decide +kernel
theorem d_X_isNamedSpace_3 : decode b_X_isNamedSpace 3 = .ok (.if_icmp .lt 13, 3) := by decide +kernel
theorem d_X_isNamedSpace_6 : decode b_X_isNamedSpace 6 = .ok (.iload_n 0, 1) := by decide +kernel
theorem d_X_isNamedSpace_7 : decode b_X_isNamedSpace 7 = .ok (.bipush 13, 2) := by decide +kernel
theorem d_X_isNamedSpace_9 : decode b_X_isNamedSpace 9 = .ok (.if_icmp .gt 7, 3) := by decide +kernel
theorem d_X_isNamedSpace_12 : decode b_X_isNamedSpace 12 = .ok (.iconst 1, 1) := by decide +kernel
theorem d_X_isNamedSpace_13 : decode b_X_isNamedSpace 13 = .ok (.goto 4, 3) := by decide +kernel
theorem d_X_isNamedSpace_16 : decode b_X_isNamedSpace 16 = .ok (.iconst 0, 1) := by decide +kernel
theorem d_X_isNamedSpace_17 : decode b_X_isNamedSpace 17 = .ok (.ireturn, 1) := by decide +kernel
theorem d_X_isSpace_0 : decode b_X_isSpace 0 = .ok (.iload_n 0, 1) := by decide +kernel
theorem d_X_isSpace_1 : decode b_X_isSpace 1 = .ok (.bipush 32, 2) := by decide +kernel
theorem d_X_isSpace_3 : decode b_X_isSpace 3 = .ok (.if_icmp .eq 10, 3) := by decide +kernel
theorem d_X_isSpace_6 : decode b_X_isSpace 6 = .ok (.iload_n 0, 1) := by decide +kernel
theorem d_X_isSpace_7 : decode b_X_isSpace 7 = .ok (.invokestatic 113, 3) := by decide +kernel
theorem d_X_isSpace_10 : decode b_X_isSpace 10 = .ok (.ifCond .eq 7, 3) := by decide +kernel
theorem d_X_isSpace_13 : decode b_X_isSpace 13 = .ok (.iconst 1, 1) := by decide +kernel
theorem d_X_isSpace_14 : decode b_X_isSpace 14 = .ok (.goto 4, 3) := by decide +kernel
theorem d_X_isSpace_17 : decode b_X_isSpace 17 = .ok (.iconst 0, 1) := by decide +kernel
theorem d_X_isSpace_18 : decode b_X_isSpace 18 = .ok (.ireturn, 1) := by decide +kernel
theorem d_X_behindSpaces_0 : decode b_X_behindSpaces 0 = .ok (.iload_n 1, 1) := by decide +kernel
theorem d_X_behindSpaces_1 : decode b_X_behindSpaces 1 = .ok (.istore_n 2, 1) := by decide +kernel
theorem d_X_behindSpaces_2 : decode b_X_behindSpaces 2 = .ok (.iload_n 2, 1) := by decide +kernel
theorem d_X_behindSpaces_3 : decode b_X_behindSpaces 3 = .ok (.aload_n 0, 1) := by decide +kernel
theorem d_X_behindSpaces_4 : decode b_X_behindSpaces 4 = .ok (.getfield 16, 3) := by decide +kernel
theorem d_X_behindSpaces_7 : decode b_X_behindSpaces 7 = .ok (.invokevirtual 32, 3) := by decide +kernel
theorem d_X_behindSpaces_10 : decode b_X_behindSpaces 10 = .ok (.if_icmp .ge 23, 3) := by decide +kernel
theorem d_X_behindSpaces_13 : decode b_X_behindSpaces 13 = .ok (.aload_n 0, 1) := by decide +kernel
theorem d_X_behindSpaces_14 : decode b_X_behindSpaces 14 = .ok (.getfield 16, 3) := by decide +kernel
theorem d_X_behindSpaces_17 : decode b_X_behindSpaces 17 = .ok (.iload_n 2, 1) := by decide +kernel
theorem d_X_behindSpaces_18 : decode b_X_behindSpaces 18 = .ok (.invokevirtual 58, 3) := by decide +kernel
theorem d_X_behindSpaces_21 : decode b_X_behindSpaces 21 = .ok (.invokestatic 75, 3) := by decide +kernel
theorem d_X_behindSpaces_24 : decode b_X_behindSpaces 24 = .ok (.ifCond .eq 9, 3) := by decide +kernel
theorem d_X_behindSpaces_27 : decode b_X_behindSpaces 27 = .ok (.iinc 2 1, 3) := by decide +kernel
theorem d_X_behindSpaces_30 : decode b_X_behindSpaces 30 = .ok (.goto (-28), 3) := by decide +kernel
theorem d_X_behindSpaces_33 : decode b_X_behindSpaces 33 = .ok (.iload_n 2, 1) := by decide +kernel
theorem d_X_behindSpaces_34 : decode b_X_behindSpaces 34 = .ok (.ireturn, 1) := by decide +kernel
theorem d_R_cutTo_0 : decode b_R_cutTo 0 = .ok (.iload_n 1, 1) := by decide +kernel
theorem d_R_cutTo_1 : decode b_R_cutTo 1 = .ok (.ifCond .lt 11, 3) := by decide +kernel
theorem d_R_cutTo_4 : decode b_R_cutTo 4 = .ok (.iload_n 1, 1) := by decide +kernel
theorem d_R_cutTo_5 : decode b_R_cutTo 5 = .ok (.aload_n 0, 1) := by decide +kernel
theorem d_R_cutTo_6 : decode b_R_cutTo 6 = .ok (.getfield 15, 3) := by decide +kernel
theorem d_R_cutTo_9 : decode b_R_cutTo 9 = .ok (.if_icmp .le 5, 3) := by decide +kernel
theorem d_R_cutTo_12 : decode b_R_cutTo 12 = .ok (.iconst 0, 1) := by decide +kernel
theorem d_R_cutTo_13 : decode b_R_cutTo 13 = .ok (.ireturn, 1) := by decide +kernel
theorem d_R_cutTo_14 : decode b_R_cutTo 14 = .ok (.aload_n 0, 1) := by decide +kernel
theorem d_R_cutTo_15 : decode b_R_cutTo 15 = .ok (.iload_n 1, 1) := by decide +kernel
theorem d_R_cutTo_16 : decode b_R_cutTo 16 = .ok (.putfield 15, 3) := by decide +kernel
theorem d_R_cutTo_19 : decode b_R_cutTo 19 = .ok (.iconst 1, 1) := by decide +kernel
theorem d_R_cutTo_20 : decode b_R_cutTo 20 = .ok (.ireturn, 1) := by decide +kernel
theorem d_R_put_0 : decode b_R_put 0 = .ok (.aload_n 0, 1) := by decide +kernel
theorem d_R_put_1 : decode b_R_put 1 = .ok (.getfield 15, 3) := by decide +kernel
theorem d_R_put_4 : decode b_R_put 4 = .ok (.sipush 1024, 3) := by decide +kernel
theorem d_R_put_7 : decode b_R_put 7 = .ok (.if_icmp .lt 5, 3) := by decide +kernel
theorem d_R_put_10 : decode b_R_put 10 = .ok (.iconst 0, 1) := by decide +kernel
theorem d_R_put_11 : decode b_R_put 11 = .ok (.ireturn, 1) := by decide +kernel
theorem d_R_put_12 : decode b_R_put 12 = .ok (.aload_n 0, 1) := by decide +kernel
theorem d_R_put_13 : decode b_R_put 13 = .ok (.getfield 9, 3) := by decide +kernel
theorem d_R_put_16 : decode b_R_put 16 = .ok (.aload_n 0, 1) := by decide +kernel
theorem d_R_put_17 : decode b_R_put 17 = .ok (.getfield 15, 3) := by decide +kernel
theorem d_R_put_20 : decode b_R_put 20 = .ok (.iload_n 1, 1) := by decide +kernel
theorem d_R_put_21 : decode b_R_put 21 = .ok (.sipush 255, 3) := by decide +kernel
theorem d_R_put_24 : decode b_R_put 24 = .ok (.iand, 1) := by decide +kernel
theorem d_R_put_25 : decode b_R_put 25 = .ok (.iastore, 1) := by decide +kernel
theorem d_R_put_26 : decode b_R_put 26 = .ok (.aload_n 0, 1) := by decide +kernel
theorem d_R_put_27 : decode b_R_put 27 = .ok (.dup, 1) := by decide +kernel
theorem d_R_put_28 : decode b_R_put 28 = .ok (.getfield 15, 3) := by decide +kernel
theorem d_R_put_31 : decode b_R_put 31 = .ok (.iconst 1, 1) := by decide +kernel
theorem d_R_put_32 : decode b_R_put 32 = .ok (.iadd, 1) := by decide +kernel
theorem d_R_put_33 : decode b_R_put 33 = .ok (.putfield 15, 3) := by decide +kernel
theorem d_R_put_36 : decode b_R_put 36 = .ok (.iconst 1, 1) := by decide +kernel
theorem d_R_put_37 : decode b_R_put 37 = .ok (.ireturn, 1) := by decide +kernel
theorem d_X_readBraced_0 : decode b_X_readBraced 0 = .ok (.iconst 1, 1) := by decide +kernel
theorem d_X_readBraced_1 : decode b_X_readBraced 1 = .ok (.istore_n 2, 1) := by decide +kernel
theorem d_X_readBraced_2 : decode b_X_readBraced 2 = .ok (.iload_n 1, 1) := by decide +kernel
theorem d_X_readBraced_3 : decode b_X_readBraced 3 = .ok (.istore_n 3, 1) := by decide +kernel
theorem d_X_readBraced_4 : decode b_X_readBraced 4 = .ok (.iload_n 3, 1) := by decide +kernel
theorem d_X_readBraced_5 : decode b_X_readBraced 5 = .ok (.aload_n 0, 1) := by decide +kernel
theorem d_X_readBraced_6 : decode b_X_readBraced 6 = .ok (.getfield 16, 3) := by decide +kernel
theorem d_X_readBraced_9 : decode b_X_readBraced 9 = .ok (.invokevirtual 32, 3) := by decide +kernel
theorem d_X_readBraced_12 : decode b_X_readBraced 12 = .ok (.if_icmp .ge 97, 3) := by decide +kernel
theorem d_X_readBraced_15 : decode b_X_readBraced 15 = .ok (.aload_n 0, 1) := by decide +kernel
theorem d_X_readBraced_16 : decode b_X_readBraced 16 = .ok (.getfield 16, 3) := by decide +kernel
theorem d_X_readBraced_19 : decode b_X_readBraced 19 = .ok (.iload_n 3, 1) := by decide +kernel
theorem d_X_readBraced_20 : decode b_X_readBraced 20 = .ok (.invokevirtual 58, 3) := by decide +kernel
theorem d_X_readBraced_23 : decode b_X_readBraced 23 = .ok (.istore 4, 2) := by decide +kernel
theorem d_X_readBraced_25 : decode b_X_readBraced 25 = .ok (.iload 4, 2) := by decide +kernel
theorem d_X_readBraced_27 : decode b_X_readBraced 27 = .ok (.bipush 123, 2) := by decide +kernel
theorem d_X_readBraced_29 : decode b_X_readBraced 29 = .ok (.if_icmp .ne 9, 3) := by decide +kernel
theorem d_X_readBraced_32 : decode b_X_readBraced 32 = .ok (.iinc 2 1, 3) := by decide +kernel
theorem d_X_readBraced_35 : decode b_X_readBraced 35 = .ok (.goto 13, 3) := by decide +kernel
theorem d_X_readBraced_38 : decode b_X_readBraced 38 = .ok (.iload 4, 2) := by decide +kernel
theorem d_X_readBraced_40 : decode b_X_readBraced 40 = .ok (.bipush 125, 2) := by decide +kernel
theorem d_X_readBraced_42 : decode b_X_readBraced 42 = .ok (.if_icmp .ne 6, 3) := by decide +kernel
theorem d_X_readBraced_45 : decode b_X_readBraced 45 = .ok (.iinc 2 (-1), 3) := by decide +kernel
theorem d_X_readBraced_48 : decode b_X_readBraced 48 = .ok (.iload_n 2, 1) := by decide +kernel
theorem d_X_readBraced_49 : decode b_X_readBraced 49 = .ok (.ifCond .ne 5, 3) := by decide +kernel
theorem d_X_readBraced_52 : decode b_X_readBraced 52 = .ok (.iload_n 3, 1) := by decide +kernel
theorem d_X_readBraced_53 : decode b_X_readBraced 53 = .ok (.ireturn, 1) := by decide +kernel
theorem d_X_readBraced_54 : decode b_X_readBraced 54 = .ok (.aload_n 0, 1) := by decide +kernel
theorem d_X_readBraced_55 : decode b_X_readBraced 55 = .ok (.getfield 22, 3) := by decide +kernel
theorem d_X_readBraced_58 : decode b_X_readBraced 58 = .ok (.iload 4, 2) := by decide +kernel
theorem d_X_readBraced_60 : decode b_X_readBraced 60 = .ok (.invokevirtual 78, 3) := by decide +kernel
theorem d_X_readBraced_63 : decode b_X_readBraced 63 = .ok (.pop, 1) := by decide +kernel
theorem d_X_readBraced_64 : decode b_X_readBraced 64 = .ok (.iload 4, 2) := by decide +kernel
theorem d_X_readBraced_66 : decode b_X_readBraced 66 = .ok (.bipush 92, 2) := by decide +kernel
theorem d_X_readBraced_68 : decode b_X_readBraced 68 = .ok (.if_icmp .ne 35, 3) := by decide +kernel
theorem d_X_readBraced_71 : decode b_X_readBraced 71 = .ok (.iload_n 3, 1) := by decide +kernel
theorem d_X_readBraced_72 : decode b_X_readBraced 72 = .ok (.iconst 1, 1) := by decide +kernel
theorem d_X_readBraced_73 : decode b_X_readBraced 73 = .ok (.iadd, 1) := by decide +kernel
theorem d_X_readBraced_74 : decode b_X_readBraced 74 = .ok (.aload_n 0, 1) := by decide +kernel
theorem d_X_readBraced_75 : decode b_X_readBraced 75 = .ok (.getfield 16, 3) := by decide +kernel
theorem d_X_readBraced_78 : decode b_X_readBraced 78 = .ok (.invokevirtual 32, 3) := by decide +kernel
theorem d_X_readBraced_81 : decode b_X_readBraced 81 = .ok (.if_icmp .ge 22, 3) := by decide +kernel
theorem d_X_readBraced_84 : decode b_X_readBraced 84 = .ok (.iinc 3 1, 3) := by decide +kernel
theorem d_X_readBraced_87 : decode b_X_readBraced 87 = .ok (.aload_n 0, 1) := by decide +kernel
theorem d_X_readBraced_88 : decode b_X_readBraced 88 = .ok (.getfield 22, 3) := by decide +kernel
theorem d_X_readBraced_91 : decode b_X_readBraced 91 = .ok (.aload_n 0, 1) := by decide +kernel
theorem d_X_readBraced_92 : decode b_X_readBraced 92 = .ok (.getfield 16, 3) := by decide +kernel
theorem d_X_readBraced_95 : decode b_X_readBraced 95 = .ok (.iload_n 3, 1) := by decide +kernel
theorem d_X_readBraced_96 : decode b_X_readBraced 96 = .ok (.invokevirtual 58, 3) := by decide +kernel
theorem d_X_readBraced_99 : decode b_X_readBraced 99 = .ok (.invokevirtual 78, 3) := by decide +kernel
theorem d_X_readBraced_102 : decode b_X_readBraced 102 = .ok (.pop, 1) := by decide +kernel
theorem d_X_readBraced_103 : decode b_X_readBraced 103 = .ok (.iinc 3 1, 3) := by decide +kernel
theorem d_X_readBraced_106 : decode b_X_readBraced 106 = .ok (.goto (-102), 3) := by decide +kernel
theorem d_X_readBraced_109 : decode b_X_readBraced 109 = .ok (.bipush (-2), 2) := by decide +kernel
theorem d_X_readBraced_111 : decode b_X_readBraced 111 = .ok (.ireturn, 1) := by decide +kernel
theorem d_X_behindCloser_0 : decode b_X_behindCloser 0 = .ok (.iload_n 1, 1) := by decide +kernel
theorem d_X_behindCloser_1 : decode b_X_behindCloser 1 = .ok (.bipush (-2), 2) := by decide +kernel
theorem d_X_behindCloser_3 : decode b_X_behindCloser 3 = .ok (.if_icmp .ne 6, 3) := by decide +kernel
theorem d_X_behindCloser_6 : decode b_X_behindCloser 6 = .ok (.bipush (-2), 2) := by decide +kernel
theorem d_X_behindCloser_8 : decode b_X_behindCloser 8 = .ok (.ireturn, 1) := by decide +kernel
theorem d_X_behindCloser_9 : decode b_X_behindCloser 9 = .ok (.aload_n 0, 1) := by decide +kernel
theorem d_X_behindCloser_10 : decode b_X_behindCloser 10 = .ok (.getfield 16, 3) := by decide +kernel
theorem d_X_behindCloser_13 : decode b_X_behindCloser 13 = .ok (.iload_n 1, 1) := by decide +kernel
theorem d_X_behindCloser_14 : decode b_X_behindCloser 14 = .ok (.iconst 1, 1) := by decide +kernel
theorem d_X_behindCloser_15 : decode b_X_behindCloser 15 = .ok (.iadd, 1) := by decide +kernel
theorem d_X_behindCloser_16 : decode b_X_behindCloser 16 = .ok (.invokevirtual 58, 3) := by decide +kernel
theorem d_X_behindCloser_19 : decode b_X_behindCloser 19 = .ok (.istore_n 2, 1) := by decide +kernel
theorem d_X_behindCloser_20 : decode b_X_behindCloser 20 = .ok (.iload_n 2, 1) := by decide +kernel
theorem d_X_behindCloser_21 : decode b_X_behindCloser 21 = .ok (.iconst (-1), 1) := by decide +kernel
theorem d_X_behindCloser_22 : decode b_X_behindCloser 22 = .ok (.if_icmp .eq 10, 3) := by decide +kernel
theorem d_X_behindCloser_25 : decode b_X_behindCloser 25 = .ok (.iload_n 2, 1) := by decide +kernel
theorem d_X_behindCloser_26 : decode b_X_behindCloser 26 = .ok (.invokestatic 75, 3) := by decide +kernel
theorem d_X_behindCloser_29 : decode b_X_behindCloser 29 = .ok (.ifCond .eq 9, 3) := by decide +kernel
theorem d_X_behindCloser_32 : decode b_X_behindCloser 32 = .ok (.iload_n 1, 1) := by decide +kernel
theorem d_X_behindCloser_33 : decode b_X_behindCloser 33 = .ok (.iconst 1, 1) := by decide +kernel
theorem d_X_behindCloser_34 : decode b_X_behindCloser 34 = .ok (.iadd, 1) := by decide +kernel
theorem d_X_behindCloser_35 : decode b_X_behindCloser 35 = .ok (.goto 5, 3) := by decide +kernel
theorem d_X_behindCloser_38 : decode b_X_behindCloser 38 = .ok (.bipush (-2), 2) := by decide +kernel
theorem d_X_behindCloser_40 : decode b_X_behindCloser 40 = .ok (.ireturn, 1) := by decide +kernel
theorem d_X_digitOf_0 : decode b_X_digitOf 0 = .ok (.iload_n 0, 1) := by decide +kernel
theorem d_X_digitOf_1 : decode b_X_digitOf 1 = .ok (.bipush 48, 2) := by decide +kernel
theorem d_X_digitOf_3 : decode b_X_digitOf 3 = .ok (.if_icmp .lt 14, 3) := by decide +kernel
theorem d_X_digitOf_6 : decode b_X_digitOf 6 = .ok (.iload_n 0, 1) := by decide +kernel
theorem d_X_digitOf_7 : decode b_X_digitOf 7 = .ok (.bipush 57, 2) := by decide +kernel
theorem d_X_digitOf_9 : decode b_X_digitOf 9 = .ok (.if_icmp .gt 8, 3) := by decide +kernel
theorem d_X_digitOf_12 : decode b_X_digitOf 12 = .ok (.iload_n 0, 1) := by decide +kernel
theorem d_X_digitOf_13 : decode b_X_digitOf 13 = .ok (.bipush 48, 2) := by decide +kernel
theorem d_X_digitOf_15 : decode b_X_digitOf 15 = .ok (.isub, 1) := by decide +kernel
theorem d_X_digitOf_16 : decode b_X_digitOf 16 = .ok (.ireturn, 1) := by decide +kernel
theorem d_X_digitOf_17 : decode b_X_digitOf 17 = .ok (.iload_n 0, 1) := by decide +kernel
theorem d_X_digitOf_18 : decode b_X_digitOf 18 = .ok (.bipush 97, 2) := by decide +kernel
theorem d_X_digitOf_20 : decode b_X_digitOf 20 = .ok (.if_icmp .lt 17, 3) := by decide +kernel
theorem d_X_digitOf_23 : decode b_X_digitOf 23 = .ok (.iload_n 0, 1) := by decide +kernel
theorem d_X_digitOf_24 : decode b_X_digitOf 24 = .ok (.bipush 102, 2) := by decide +kernel
theorem d_X_digitOf_26 : decode b_X_digitOf 26 = .ok (.if_icmp .gt 11, 3) := by decide +kernel
theorem d_X_digitOf_29 : decode b_X_digitOf 29 = .ok (.iload_n 0, 1) := by decide +kernel
theorem d_X_digitOf_30 : decode b_X_digitOf 30 = .ok (.bipush 97, 2) := by decide +kernel
theorem d_X_digitOf_32 : decode b_X_digitOf 32 = .ok (.isub, 1) := by decide +kernel
theorem d_X_digitOf_33 : decode b_X_digitOf 33 = .ok (.bipush 10, 2) := by decide +kernel
theorem d_X_digitOf_35 : decode b_X_digitOf 35 = .ok (.iadd, 1) := by decide +kernel
theorem d_X_digitOf_36 : decode b_X_digitOf 36 = .ok (.ireturn, 1) := by decide +kernel
theorem d_X_digitOf_37 : decode b_X_digitOf 37 = .ok (.iload_n 0, 1) := by decide +kernel
theorem d_X_digitOf_38 : decode b_X_digitOf 38 = .ok (.bipush 65, 2) := by decide +kernel
theorem d_X_digitOf_40 : decode b_X_digitOf 40 = .ok (.if_icmp .lt 17, 3) := by decide +kernel
theorem d_X_digitOf_43 : decode b_X_digitOf 43 = .ok (.iload_n 0, 1) := by decide +kernel
theorem d_X_digitOf_44 : decode b_X_digitOf 44 = .ok (.bipush 70, 2) := by decide +kernel
theorem d_X_digitOf_46 : decode b_X_digitOf 46 = .ok (.if_icmp .gt 11, 3) := by decide +kernel
theorem d_X_digitOf_49 : decode b_X_digitOf 49 = .ok (.iload_n 0, 1) := by decide +kernel
theorem d_X_digitOf_50 : decode b_X_digitOf 50 = .ok (.bipush 65, 2) := by decide +kernel
theorem d_X_digitOf_52 : decode b_X_digitOf 52 = .ok (.isub, 1) := by decide +kernel
theorem d_X_digitOf_53 : decode b_X_digitOf 53 = .ok (.bipush 10, 2) := by decide +kernel
theorem d_X_digitOf_55 : decode b_X_digitOf 55 = .ok (.iadd, 1) := by decide +kernel
theorem d_X_digitOf_56 : decode b_X_digitOf 56 = .ok (.ireturn, 1) := by decide +kernel
theorem d_X_digitOf_57 : decode b_X_digitOf 57 = .ok (.bipush 16, 2) := by decide +kernel
theorem d_X_digitOf_59 : decode b_X_digitOf 59 = .ok (.ireturn, 1) := by decide +kernel
theorem d_X_countDigits_0 : decode b_X_countDigits 0 = .ok (.iconst 0, 1) := by decide +kernel
theorem d_X_countDigits_1 : decode b_X_countDigits 1 = .ok (.istore 4, 2) := by decide +kernel
theorem d_X_countDigits_3 : decode b_X_countDigits 3 = .ok (.iload 4, 2) := by decide +kernel
theorem d_X_countDigits_5 : decode b_X_countDigits 5 = .ok (.iload_n 2, 1) := by decide +kernel
theorem d_X_countDigits_6 : decode b_X_countDigits 6 = .ok (.if_icmp .ge 27, 3) := by decide +kernel
theorem d_X_countDigits_9 : decode b_X_countDigits 9 = .ok (.aload_n 0, 1) := by decide +kernel
theorem d_X_countDigits_10 : decode b_X_countDigits 10 = .ok (.getfield 16, 3) := by decide +kernel
theorem d_X_countDigits_13 : decode b_X_countDigits 13 = .ok (.iload_n 1, 1) := by decide +kernel
theorem d_X_countDigits_14 : decode b_X_countDigits 14 = .ok (.iload 4, 2) := by decide +kernel
theorem d_X_countDigits_16 : decode b_X_countDigits 16 = .ok (.iadd, 1) := by decide +kernel
theorem d_X_countDigits_17 : decode b_X_countDigits 17 = .ok (.invokevirtual 58, 3) := by decide +kernel
theorem d_X_countDigits_20 : decode b_X_countDigits 20 = .ok (.invokestatic 110, 3) := by decide +kernel
theorem d_X_countDigits_23 : decode b_X_countDigits 23 = .ok (.iload_n 3, 1) := by decide +kernel
theorem d_X_countDigits_24 : decode b_X_countDigits 24 = .ok (.if_icmp .ge 9, 3) := by decide +kernel
theorem d_X_countDigits_27 : decode b_X_countDigits 27 = .ok (.iinc 4 1, 3) := by decide +kernel
theorem d_X_countDigits_30 : decode b_X_countDigits 30 = .ok (.goto (-27), 3) := by decide +kernel
theorem d_X_countDigits_33 : decode b_X_countDigits 33 = .ok (.iload 4, 2) := by decide +kernel
theorem d_X_countDigits_35 : decode b_X_countDigits 35 = .ok (.ireturn, 1) := by decide +kernel
theorem d_X_numberAt_0 : decode b_X_numberAt 0 = .ok (.iconst 0, 1) := by decide +kernel
theorem d_X_numberAt_1 : decode b_X_numberAt 1 = .ok (.istore 4, 2) := by decide +kernel
theorem d_X_numberAt_3 : decode b_X_numberAt 3 = .ok (.iconst 0, 1) := by decide +kernel
theorem d_X_numberAt_4 : decode b_X_numberAt 4 = .ok (.istore 5, 2) := by decide +kernel
theorem d_X_numberAt_6 : decode b_X_numberAt 6 = .ok (.iload 5, 2) := by decide +kernel
theorem d_X_numberAt_8 : decode b_X_numberAt 8 = .ok (.iload_n 2, 1) := by decide +kernel
theorem d_X_numberAt_9 : decode b_X_numberAt 9 = .ok (.if_icmp .ge 30, 3) := by decide +kernel
theorem d_X_numberAt_12 : decode b_X_numberAt 12 = .ok (.iload 4, 2) := by decide +kernel
theorem d_X_numberAt_14 : decode b_X_numberAt 14 = .ok (.iload_n 3, 1) := by decide +kernel
theorem d_X_numberAt_15 : decode b_X_numberAt 15 = .ok (.imul, 1) := by decide +kernel
theorem d_X_numberAt_16 : decode b_X_numberAt 16 = .ok (.aload_n 0, 1) := by decide +kernel
theorem d_X_numberAt_17 : decode b_X_numberAt 17 = .ok (.getfield 16, 3) := by decide +kernel
theorem d_X_numberAt_20 : decode b_X_numberAt 20 = .ok (.iload_n 1, 1) := by decide +kernel
theorem d_X_numberAt_21 : decode b_X_numberAt 21 = .ok (.iload 5, 2) := by decide +kernel
theorem d_X_numberAt_23 : decode b_X_numberAt 23 = .ok (.iadd, 1) := by decide +kernel
theorem d_X_numberAt_24 : decode b_X_numberAt 24 = .ok (.invokevirtual 58, 3) := by decide +kernel
theorem d_X_numberAt_27 : decode b_X_numberAt 27 = .ok (.invokestatic 110, 3) := by decide +kernel
theorem d_X_numberAt_30 : decode b_X_numberAt 30 = .ok (.iadd, 1) := by decide +kernel
theorem d_X_numberAt_31 : decode b_X_numberAt 31 = .ok (.istore 4, 2) := by decide +kernel
theorem d_X_numberAt_33 : decode b_X_numberAt 33 = .ok (.iinc 5 1, 3) := by decide +kernel
theorem d_X_numberAt_36 : decode b_X_numberAt 36 = .ok (.goto (-30), 3) := by decide +kernel
theorem d_X_numberAt_39 : decode b_X_numberAt 39 = .ok (.iload 4, 2) := by decide +kernel
theorem d_X_numberAt_41 : decode b_X_numberAt 41 = .ok (.sipush 255, 3) := by decide +kernel
theorem d_X_numberAt_44 : decode b_X_numberAt 44 = .ok (.iand, 1) := by decide +kernel
theorem d_X_numberAt_45 : decode b_X_numberAt 45 = .ok (.ireturn, 1) := by decide +kernel
theorem d_S_isLatin1_0 : decode b_S_isLatin1 0 = .ok (.getstatic 38, 3) := by decide +kernel
theorem d_S_isLatin1_3 : decode b_S_isLatin1 3 = .ok (.ifCond .eq 14, 3) := by decide +kernel
theorem d_S_isLatin1_6 : decode b_S_isLatin1 6 = .ok (.aload_n 0, 1) := by decide +kernel
theorem d_S_isLatin1_7 : decode b_S_isLatin1 7 = .ok (.getfield 15, 3) := by decide +kernel
theorem d_S_isLatin1_10 : decode b_S_isLatin1 10 = .ok (.ifCond .ne 7, 3) := by decide +kernel
theorem d_S_isLatin1_13 : decode b_S_isLatin1 13 = .ok (.iconst 1, 1) := by decide +kernel
theorem d_S_isLatin1_14 : decode b_S_isLatin1 14 = .ok (.goto 4, 3) := by decide +kernel
theorem d_S_isLatin1_17 : decode b_S_isLatin1 17 = .ok (.iconst 0, 1) := by decide +kernel
theorem d_S_isLatin1_18 : decode b_S_isLatin1 18 = .ok (.ireturn, 1) := by decide +kernel
theorem d_S_coder_0 : decode b_S_coder 0 = .ok (.getstatic 38, 3) := by decide +kernel
theorem d_S_coder_3 : decode b_S_coder 3 = .ok (.ifCond .eq 10, 3) := by decide +kernel
theorem d_S_coder_6 : decode b_S_coder 6 = .ok (.aload_n 0, 1) := by decide +kernel
theorem d_S_coder_7 : decode b_S_coder 7 = .ok (.getfield 15, 3) := by decide +kernel
theorem d_S_coder_10 : decode b_S_coder 10 = .ok (.goto 4, 3) := by decide +kernel
theorem d_S_coder_13 : decode b_S_coder 13 = .ok (.iconst 1, 1) := by decide +kernel
theorem d_S_coder_14 : decode b_S_coder 14 = .ok (.ireturn, 1) := by decide +kernel
theorem d_S_length_0 : decode b_S_length 0 = .ok (.aload_n 0, 1) := by decide +kernel
theorem d_S_length_1 : decode b_S_length 1 = .ok (.getfield 9, 3) := by decide +kernel
theorem d_S_length_4 : decode b_S_length 4 = .ok (.arraylength, 1) := by decide +kernel
theorem d_S_length_5 : decode b_S_length 5 = .ok (.aload_n 0, 1) := by decide +kernel
theorem d_S_length_6 : decode b_S_length 6 = .ok (.invokevirtual 335, 3) := by decide +kernel
theorem d_S_length_9 : decode b_S_length 9 = .ok (.ishr, 1) := by decide +kernel
theorem d_S_length_10 : decode b_S_length 10 = .ok (.ireturn, 1) := by decide +kernel
theorem d_SL_canEncode1_0 : decode b_SL_canEncode1 0 = .ok (.iload_n 0, 1) := by decide +kernel
theorem d_SL_canEncode1_1 : decode b_SL_canEncode1 1 = .ok (.ifCond .lt 14, 3) := by decide +kernel
theorem d_SL_canEncode1_4 : decode b_SL_canEncode1 4 = .ok (.iload_n 0, 1) := by decide +kernel
theorem d_SL_canEncode1_5 : decode b_SL_canEncode1 5 = .ok (.sipush 255, 3) := by decide +kernel
theorem d_SL_canEncode1_8 : decode b_SL_canEncode1 8 = .ok (.if_icmp .gt 7, 3) := by decide +kernel
theorem d_SL_canEncode1_11 : decode b_SL_canEncode1 11 = .ok (.iconst 1, 1) := by decide +kernel
theorem d_SL_canEncode1_12 : decode b_SL_canEncode1 12 = .ok (.goto 4, 3) := by decide +kernel
theorem d_SL_canEncode1_15 : decode b_SL_canEncode1 15 = .ok (.iconst 0, 1) := by decide +kernel
theorem d_SL_canEncode1_16 : decode b_SL_canEncode1 16 = .ok (.ireturn, 1) := by decide +kernel
theorem d_SL_indexOfChar_0 : decode b_SL_indexOfChar 0 = .ok (.iload_n 1, 1) := by decide +kernel
theorem d_SL_indexOfChar_1 : decode b_SL_indexOfChar 1 = .ok (.i2b, 1) := by decide +kernel
theorem d_SL_indexOfChar_2 : decode b_SL_indexOfChar 2 = .ok (.istore 4, 2) := by decide +kernel
theorem d_SL_indexOfChar_4 : decode b_SL_indexOfChar 4 = .ok (.iload_n 2, 1) := by decide +kernel
theorem d_SL_indexOfChar_5 : decode b_SL_indexOfChar 5 = .ok (.istore 5, 2) := by decide +kernel
theorem d_SL_indexOfChar_7 : decode b_SL_indexOfChar 7 = .ok (.iload 5, 2) := by decide +kernel
theorem d_SL_indexOfChar_9 : decode b_SL_indexOfChar 9 = .ok (.iload_n 3, 1) := by decide +kernel
theorem d_SL_indexOfChar_10 : decode b_SL_indexOfChar 10 = .ok (.if_icmp .ge 21, 3) := by decide +kernel
theorem d_SL_indexOfChar_13 : decode b_SL_indexOfChar 13 = .ok (.aload_n 0, 1) := by decide +kernel
theorem d_SL_indexOfChar_14 : decode b_SL_indexOfChar 14 = .ok (.iload 5, 2) := by decide +kernel
theorem d_SL_indexOfChar_16 : decode b_SL_indexOfChar 16 = .ok (.baload, 1) := by decide +kernel
theorem d_SL_indexOfChar_17 : decode b_SL_indexOfChar 17 = .ok (.iload 4, 2) := by decide +kernel
theorem d_SL_indexOfChar_19 : decode b_SL_indexOfChar 19 = .ok (.if_icmp .ne 6, 3) := by decide +kernel
theorem d_SL_indexOfChar_22 : decode b_SL_indexOfChar 22 = .ok (.iload 5, 2) := by decide +kernel
theorem d_SL_indexOfChar_24 : decode b_SL_indexOfChar 24 = .ok (.ireturn, 1) := by decide +kernel
theorem d_SL_indexOfChar_25 : decode b_SL_indexOfChar 25 = .ok (.iinc 5 1, 3) := by decide +kernel
theorem d_SL_indexOfChar_28 : decode b_SL_indexOfChar 28 = .ok (.goto (-21), 3) := by decide +kernel
theorem d_SL_indexOfChar_31 : decode b_SL_indexOfChar 31 = .ok (.iconst (-1), 1) := by decide +kernel
theorem d_SL_indexOfChar_32 : decode b_SL_indexOfChar 32 = .ok (.ireturn, 1) := by decide +kernel
theorem d_SL_indexOf0_0 : decode b_SL_indexOf0 0 = .ok (.iload_n 1, 1) := by decide +kernel
theorem d_SL_indexOf0_1 : decode b_SL_indexOf0 1 = .ok (.invokestatic 88, 3) := by decide +kernel
theorem d_SL_indexOf0_4 : decode b_SL_indexOf0 4 = .ok (.ifCond .ne 5, 3) := by decide +kernel
theorem d_SL_indexOf0_7 : decode b_SL_indexOf0 7 = .ok (.iconst (-1), 1) := by decide +kernel
theorem d_SL_indexOf0_8 : decode b_SL_indexOf0 8 = .ok (.ireturn, 1) := by decide +kernel
theorem d_SL_indexOf0_9 : decode b_SL_indexOf0 9 = .ok (.iload_n 2, 1) := by decide +kernel
theorem d_SL_indexOf0_10 : decode b_SL_indexOf0 10 = .ok (.iconst 0, 1) := by decide +kernel
theorem d_SL_indexOf0_11 : decode b_SL_indexOf0 11 = .ok (.invokestatic 92, 3) := by decide +kernel
theorem d_SL_indexOf0_14 : decode b_SL_indexOf0 14 = .ok (.istore_n 2, 1) := by decide +kernel
theorem d_SL_indexOf0_15 : decode b_SL_indexOf0 15 = .ok (.iload_n 3, 1) := by decide +kernel
theorem d_SL_indexOf0_16 : decode b_SL_indexOf0 16 = .ok (.aload_n 0, 1) := by decide +kernel
theorem d_SL_indexOf0_17 : decode b_SL_indexOf0 17 = .ok (.arraylength, 1) := by decide +kernel
theorem d_SL_indexOf0_18 : decode b_SL_indexOf0 18 = .ok (.invokestatic 38, 3) := by decide +kernel
theorem d_SL_indexOf0_21 : decode b_SL_indexOf0 21 = .ok (.istore_n 3, 1) := by decide +kernel
theorem d_SL_indexOf0_22 : decode b_SL_indexOf0 22 = .ok (.iload_n 2, 1) := by decide +kernel
theorem d_SL_indexOf0_23 : decode b_SL_indexOf0 23 = .ok (.iload_n 3, 1) := by decide +kernel
theorem d_SL_indexOf0_24 : decode b_SL_indexOf0 24 = .ok (.if_icmp .lt 5, 3) := by decide +kernel
theorem d_SL_indexOf0_27 : decode b_SL_indexOf0 27 = .ok (.iconst (-1), 1) := by decide +kernel
theorem d_SL_indexOf0_28 : decode b_SL_indexOf0 28 = .ok (.ireturn, 1) := by decide +kernel
theorem d_SL_indexOf0_29 : decode b_SL_indexOf0 29 = .ok (.aload_n 0, 1) := by decide +kernel
theorem d_SL_indexOf0_30 : decode b_SL_indexOf0 30 = .ok (.iload_n 1, 1) := by decide +kernel
theorem d_SL_indexOf0_31 : decode b_SL_indexOf0 31 = .ok (.iload_n 2, 1) := by decide +kernel
theorem d_SL_indexOf0_32 : decode b_SL_indexOf0 32 = .ok (.iload_n 3, 1) := by decide +kernel
theorem d_SL_indexOf0_33 : decode b_SL_indexOf0 33 = .ok (.invokestatic 95, 3) := by decide +kernel
theorem d_SL_indexOf0_36 : decode b_SL_indexOf0 36 = .ok (.ireturn, 1) := by decide +kernel
theorem d_S_indexOf1_0 : decode b_S_indexOf1 0 = .ok (.aload_n 0, 1) := by decide +kernel
theorem d_S_indexOf1_1 : decode b_S_indexOf1 1 = .ok (.invokevirtual 492, 3) := by decide +kernel
theorem d_S_indexOf1_4 : decode b_S_indexOf1 4 = .ok (.ifCond .eq 19, 3) := by decide +kernel
theorem d_S_indexOf1_7 : decode b_S_indexOf1 7 = .ok (.aload_n 0, 1) := by decide +kernel
theorem d_S_indexOf1_8 : decode b_S_indexOf1 8 = .ok (.getfield 9, 3) := by decide +kernel
theorem d_S_indexOf1_11 : decode b_S_indexOf1 11 = .ok (.iload_n 1, 1) := by decide +kernel
theorem d_S_indexOf1_12 : decode b_S_indexOf1 12 = .ok (.iload_n 2, 1) := by decide +kernel
theorem d_S_indexOf1_13 : decode b_S_indexOf1 13 = .ok (.aload_n 0, 1) := by decide +kernel
theorem d_S_indexOf1_14 : decode b_S_indexOf1 14 = .ok (.invokevirtual 505, 3) := by decide +kernel
theorem d_S_indexOf1_17 : decode b_S_indexOf1 17 = .ok (.invokestatic 637, 3) := by decide +kernel
theorem d_S_indexOf1_20 : decode b_S_indexOf1 20 = .ok (.goto 16, 3) := by decide +kernel
theorem d_S_indexOf1_23 : decode b_S_indexOf1 23 = .ok (.aload_n 0, 1) := by decide +kernel
theorem d_S_indexOf1_24 : decode b_S_indexOf1 24 = .ok (.getfield 9, 3) := by decide +kernel
theorem d_S_indexOf1_27 : decode b_S_indexOf1 27 = .ok (.iload_n 1, 1) := by decide +kernel
theorem d_S_indexOf1_28 : decode b_S_indexOf1 28 = .ok (.iload_n 2, 1) := by decide +kernel
theorem d_S_indexOf1_29 : decode b_S_indexOf1 29 = .ok (.aload_n 0, 1) := by decide +kernel
theorem d_S_indexOf1_30 : decode b_S_indexOf1 30 = .ok (.invokevirtual 505, 3) := by decide +kernel
theorem d_S_indexOf1_36 : decode b_S_indexOf1 36 = .ok (.ireturn, 1) := by decide +kernel
theorem d_S_indexOf0_0 : decode b_S_indexOf0 0 = .ok (.aload_n 0, 1) := by decide +kernel
theorem d_S_indexOf0_1 : decode b_S_indexOf0 1 = .ok (.iload_n 1, 1) := by decide +kernel
theorem d_S_indexOf0_2 : decode b_S_indexOf0 2 = .ok (.iconst 0, 1) := by decide +kernel
theorem d_S_indexOf0_3 : decode b_S_indexOf0 3 = .ok (.invokevirtual 633, 3) := by decide +kernel
theorem d_S_indexOf0_6 : decode b_S_indexOf0 6 = .ok (.ireturn, 1) := by decide +kernel
theorem d_X_meaningOfBackslash_0 : decode b_X_meaningOfBackslash 0 = .ok (.aload_n 0, 1) := by decide +kernel
theorem d_X_meaningOfBackslash_1 : decode b_X_meaningOfBackslash 1 = .ok (.getfield 16, 3) := by decide +kernel
theorem d_X_meaningOfBackslash_4 : decode b_X_meaningOfBackslash 4 = .ok (.iload_n 1, 1) := by decide +kernel
theorem d_X_meaningOfBackslash_5 : decode b_X_meaningOfBackslash 5 = .ok (.iconst 1, 1) := by decide +kernel
theorem d_X_meaningOfBackslash_6 : decode b_X_meaningOfBackslash 6 = .ok (.iadd, 1) := by decide +kernel
theorem d_X_meaningOfBackslash_7 : decode b_X_meaningOfBackslash 7 = .ok (.invokevirtual 58, 3) := by decide +kernel
theorem d_X_meaningOfBackslash_10 : decode b_X_meaningOfBackslash 10 = .ok (.istore_n 2, 1) := by decide +kernel
theorem d_X_meaningOfBackslash_11 : decode b_X_meaningOfBackslash 11 = .ok (.iload_n 2, 1) := by decide +kernel
theorem d_X_meaningOfBackslash_12 : decode b_X_meaningOfBackslash 12 = .ok (.iconst (-1), 1) := by decide +kernel
theorem d_X_meaningOfBackslash_13 : decode b_X_meaningOfBackslash 13 = .ok (.if_icmp .ne 6, 3) := by decide +kernel
theorem d_X_meaningOfBackslash_16 : decode b_X_meaningOfBackslash 16 = .ok (.bipush 92, 2) := by decide +kernel
theorem d_X_meaningOfBackslash_18 : decode b_X_meaningOfBackslash 18 = .ok (.ireturn, 1) := by decide +kernel
theorem d_X_meaningOfBackslash_19 : decode b_X_meaningOfBackslash 19 = .ok (.iload_n 2, 1) := by decide +kernel
theorem d_X_meaningOfBackslash_20 : decode b_X_meaningOfBackslash 20 = .ok (.bipush 10, 2) := by decide +kernel
theorem d_X_meaningOfBackslash_22 : decode b_X_meaningOfBackslash 22 = .ok (.if_icmp .ne 6, 3) := by decide +kernel
theorem d_X_meaningOfBackslash_25 : decode b_X_meaningOfBackslash 25 = .ok (.bipush 32, 2) := by decide +kernel
theorem d_X_meaningOfBackslash_27 : decode b_X_meaningOfBackslash 27 = .ok (.ireturn, 1) := by decide +kernel
theorem d_X_meaningOfBackslash_28 : decode b_X_meaningOfBackslash 28 = .ok (.iload_n 2, 1) := by decide +kernel
theorem d_X_meaningOfBackslash_29 : decode b_X_meaningOfBackslash 29 = .ok (.bipush 120, 2) := by decide +kernel
theorem d_X_meaningOfBackslash_31 : decode b_X_meaningOfBackslash 31 = .ok (.if_icmp .ne 34, 3) := by decide +kernel
theorem d_X_meaningOfBackslash_34 : decode b_X_meaningOfBackslash 34 = .ok (.aload_n 0, 1) := by decide +kernel
theorem d_X_meaningOfBackslash_35 : decode b_X_meaningOfBackslash 35 = .ok (.iload_n 1, 1) := by decide +kernel
theorem d_X_meaningOfBackslash_36 : decode b_X_meaningOfBackslash 36 = .ok (.iconst 2, 1) := by decide +kernel
theorem d_X_meaningOfBackslash_37 : decode b_X_meaningOfBackslash 37 = .ok (.iadd, 1) := by decide +kernel
theorem d_X_meaningOfBackslash_38 : decode b_X_meaningOfBackslash 38 = .ok (.iconst 2, 1) := by decide +kernel
theorem d_X_meaningOfBackslash_39 : decode b_X_meaningOfBackslash 39 = .ok (.bipush 16, 2) := by decide +kernel
theorem d_X_meaningOfBackslash_41 : decode b_X_meaningOfBackslash 41 = .ok (.invokevirtual 87, 3) := by decide +kernel
theorem d_X_meaningOfBackslash_44 : decode b_X_meaningOfBackslash 44 = .ok (.istore_n 3, 1) := by decide +kernel
theorem d_X_meaningOfBackslash_45 : decode b_X_meaningOfBackslash 45 = .ok (.iload_n 3, 1) := by decide +kernel
theorem d_X_meaningOfBackslash_46 : decode b_X_meaningOfBackslash 46 = .ok (.ifCond .ne 8, 3) := by decide +kernel
theorem d_X_meaningOfBackslash_49 : decode b_X_meaningOfBackslash 49 = .ok (.bipush 120, 2) := by decide +kernel
theorem d_X_meaningOfBackslash_51 : decode b_X_meaningOfBackslash 51 = .ok (.goto 13, 3) := by decide +kernel
theorem d_X_meaningOfBackslash_54 : decode b_X_meaningOfBackslash 54 = .ok (.aload_n 0, 1) := by decide +kernel
theorem d_X_meaningOfBackslash_55 : decode b_X_meaningOfBackslash 55 = .ok (.iload_n 1, 1) := by decide +kernel
theorem d_X_meaningOfBackslash_56 : decode b_X_meaningOfBackslash 56 = .ok (.iconst 2, 1) := by decide +kernel
theorem d_X_meaningOfBackslash_57 : decode b_X_meaningOfBackslash 57 = .ok (.iadd, 1) := by decide +kernel
theorem d_X_meaningOfBackslash_58 : decode b_X_meaningOfBackslash 58 = .ok (.iload_n 3, 1) := by decide +kernel
theorem d_X_meaningOfBackslash_59 : decode b_X_meaningOfBackslash 59 = .ok (.bipush 16, 2) := by decide +kernel
theorem d_X_meaningOfBackslash_61 : decode b_X_meaningOfBackslash 61 = .ok (.invokevirtual 91, 3) := by decide +kernel
theorem d_X_meaningOfBackslash_64 : decode b_X_meaningOfBackslash 64 = .ok (.ireturn, 1) := by decide +kernel
theorem d_X_meaningOfBackslash_65 : decode b_X_meaningOfBackslash 65 = .ok (.aload_n 0, 1) := by decide +kernel
theorem d_X_meaningOfBackslash_66 : decode b_X_meaningOfBackslash 66 = .ok (.iload_n 1, 1) := by decide +kernel
theorem d_X_meaningOfBackslash_67 : decode b_X_meaningOfBackslash 67 = .ok (.iconst 1, 1) := by decide +kernel
theorem d_X_meaningOfBackslash_68 : decode b_X_meaningOfBackslash 68 = .ok (.iadd, 1) := by decide +kernel
theorem d_X_meaningOfBackslash_69 : decode b_X_meaningOfBackslash 69 = .ok (.iconst 3, 1) := by decide +kernel
theorem d_X_meaningOfBackslash_70 : decode b_X_meaningOfBackslash 70 = .ok (.bipush 8, 2) := by decide +kernel
