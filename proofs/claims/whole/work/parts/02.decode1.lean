theorem d_X_meaningOfBackslash_72 : decode b_X_meaningOfBackslash 72 = .ok (.invokevirtual 87, 3) := by decide +kernel
theorem d_X_meaningOfBackslash_75 : decode b_X_meaningOfBackslash 75 = .ok (.istore_n 3, 1) := by decide +kernel
theorem d_X_meaningOfBackslash_76 : decode b_X_meaningOfBackslash 76 = .ok (.iload_n 3, 1) := by decide +kernel
theorem d_X_meaningOfBackslash_77 : decode b_X_meaningOfBackslash 77 = .ok (.ifCond .le 14, 3) := by decide +kernel
theorem d_X_meaningOfBackslash_80 : decode b_X_meaningOfBackslash 80 = .ok (.aload_n 0, 1) := by decide +kernel
theorem d_X_meaningOfBackslash_81 : decode b_X_meaningOfBackslash 81 = .ok (.iload_n 1, 1) := by decide +kernel
theorem d_X_meaningOfBackslash_82 : decode b_X_meaningOfBackslash 82 = .ok (.iconst 1, 1) := by decide +kernel
theorem d_X_meaningOfBackslash_83 : decode b_X_meaningOfBackslash 83 = .ok (.iadd, 1) := by decide +kernel
theorem d_X_meaningOfBackslash_84 : decode b_X_meaningOfBackslash 84 = .ok (.iload_n 3, 1) := by decide +kernel
theorem d_X_meaningOfBackslash_85 : decode b_X_meaningOfBackslash 85 = .ok (.bipush 8, 2) := by decide +kernel
theorem d_X_meaningOfBackslash_87 : decode b_X_meaningOfBackslash 87 = .ok (.invokevirtual 91, 3) := by decide +kernel
theorem d_X_meaningOfBackslash_90 : decode b_X_meaningOfBackslash 90 = .ok (.ireturn, 1) := by decide +kernel
theorem d_X_meaningOfBackslash_91 : decode b_X_meaningOfBackslash 91 = .ok (.ldc 94, 2) := by decide +kernel
theorem d_X_meaningOfBackslash_93 : decode b_X_meaningOfBackslash 93 = .ok (.iload_n 2, 1) := by decide +kernel
theorem d_X_meaningOfBackslash_94 : decode b_X_meaningOfBackslash 94 = .ok (.i2c, 1) := by decide +kernel
theorem d_X_meaningOfBackslash_95 : decode b_X_meaningOfBackslash 95 = .ok (.invokevirtual 96, 3) := by decide +kernel
theorem d_X_meaningOfBackslash_98 : decode b_X_meaningOfBackslash 98 = .ok (.istore 4, 2) := by decide +kernel
theorem d_X_meaningOfBackslash_100 : decode b_X_meaningOfBackslash 100 = .ok (.iload 4, 2) := by decide +kernel
theorem d_X_meaningOfBackslash_102 : decode b_X_meaningOfBackslash 102 = .ok (.ifCond .lt 11, 3) := by decide +kernel
theorem d_X_meaningOfBackslash_105 : decode b_X_meaningOfBackslash 105 = .ok (.bipush 7, 2) := by decide +kernel
theorem d_X_meaningOfBackslash_107 : decode b_X_meaningOfBackslash 107 = .ok (.iload 4, 2) := by decide +kernel
theorem d_X_meaningOfBackslash_109 : decode b_X_meaningOfBackslash 109 = .ok (.iadd, 1) := by decide +kernel
theorem d_X_meaningOfBackslash_110 : decode b_X_meaningOfBackslash 110 = .ok (.goto 4, 3) := by decide +kernel
theorem d_X_meaningOfBackslash_113 : decode b_X_meaningOfBackslash 113 = .ok (.iload_n 2, 1) := by decide +kernel
theorem d_X_meaningOfBackslash_114 : decode b_X_meaningOfBackslash 114 = .ok (.ireturn, 1) := by decide +kernel
theorem d_X_countBlanks_0 : decode b_X_countBlanks 0 = .ok (.iload_n 1, 1) := by decide +kernel
theorem d_X_countBlanks_1 : decode b_X_countBlanks 1 = .ok (.istore_n 2, 1) := by decide +kernel
theorem d_X_countBlanks_2 : decode b_X_countBlanks 2 = .ok (.iload_n 2, 1) := by decide +kernel
theorem d_X_countBlanks_3 : decode b_X_countBlanks 3 = .ok (.aload_n 0, 1) := by decide +kernel
theorem d_X_countBlanks_4 : decode b_X_countBlanks 4 = .ok (.getfield 16, 3) := by decide +kernel
theorem d_X_countBlanks_7 : decode b_X_countBlanks 7 = .ok (.invokevirtual 32, 3) := by decide +kernel
theorem d_X_countBlanks_10 : decode b_X_countBlanks 10 = .ok (.if_icmp .ge 35, 3) := by decide +kernel
theorem d_X_countBlanks_13 : decode b_X_countBlanks 13 = .ok (.aload_n 0, 1) := by decide +kernel
theorem d_X_countBlanks_14 : decode b_X_countBlanks 14 = .ok (.getfield 16, 3) := by decide +kernel
theorem d_X_countBlanks_17 : decode b_X_countBlanks 17 = .ok (.iload_n 2, 1) := by decide +kernel
theorem d_X_countBlanks_18 : decode b_X_countBlanks 18 = .ok (.invokevirtual 58, 3) := by decide +kernel
theorem d_X_countBlanks_21 : decode b_X_countBlanks 21 = .ok (.bipush 32, 2) := by decide +kernel
theorem d_X_countBlanks_23 : decode b_X_countBlanks 23 = .ok (.if_icmp .eq 16, 3) := by decide +kernel
theorem d_X_countBlanks_26 : decode b_X_countBlanks 26 = .ok (.aload_n 0, 1) := by decide +kernel
theorem d_X_countBlanks_27 : decode b_X_countBlanks 27 = .ok (.getfield 16, 3) := by decide +kernel
theorem d_X_countBlanks_30 : decode b_X_countBlanks 30 = .ok (.iload_n 2, 1) := by decide +kernel
theorem d_X_countBlanks_31 : decode b_X_countBlanks 31 = .ok (.invokevirtual 58, 3) := by decide +kernel
theorem d_X_countBlanks_34 : decode b_X_countBlanks 34 = .ok (.bipush 9, 2) := by decide +kernel
theorem d_X_countBlanks_36 : decode b_X_countBlanks 36 = .ok (.if_icmp .ne 9, 3) := by decide +kernel
theorem d_X_countBlanks_39 : decode b_X_countBlanks 39 = .ok (.iinc 2 1, 3) := by decide +kernel
theorem d_X_countBlanks_42 : decode b_X_countBlanks 42 = .ok (.goto (-40), 3) := by decide +kernel
theorem d_X_countBlanks_45 : decode b_X_countBlanks 45 = .ok (.iload_n 2, 1) := by decide +kernel
theorem d_X_countBlanks_46 : decode b_X_countBlanks 46 = .ok (.iload_n 1, 1) := by decide +kernel
theorem d_X_countBlanks_47 : decode b_X_countBlanks 47 = .ok (.isub, 1) := by decide +kernel
theorem d_X_countBlanks_48 : decode b_X_countBlanks 48 = .ok (.ireturn, 1) := by decide +kernel
theorem d_X_bytesBehindBackslash_0 : decode b_X_bytesBehindBackslash 0 = .ok (.aload_n 0, 1) := by decide +kernel
theorem d_X_bytesBehindBackslash_1 : decode b_X_bytesBehindBackslash 1 = .ok (.getfield 16, 3) := by decide +kernel
theorem d_X_bytesBehindBackslash_4 : decode b_X_bytesBehindBackslash 4 = .ok (.iload_n 1, 1) := by decide +kernel
theorem d_X_bytesBehindBackslash_5 : decode b_X_bytesBehindBackslash 5 = .ok (.iconst 1, 1) := by decide +kernel
theorem d_X_bytesBehindBackslash_6 : decode b_X_bytesBehindBackslash 6 = .ok (.iadd, 1) := by decide +kernel
theorem d_X_bytesBehindBackslash_7 : decode b_X_bytesBehindBackslash 7 = .ok (.invokevirtual 58, 3) := by decide +kernel
theorem d_X_bytesBehindBackslash_10 : decode b_X_bytesBehindBackslash 10 = .ok (.istore_n 2, 1) := by decide +kernel
theorem d_X_bytesBehindBackslash_11 : decode b_X_bytesBehindBackslash 11 = .ok (.aload_n 0, 1) := by decide +kernel
theorem d_X_bytesBehindBackslash_12 : decode b_X_bytesBehindBackslash 12 = .ok (.getfield 16, 3) := by decide +kernel
theorem d_X_bytesBehindBackslash_15 : decode b_X_bytesBehindBackslash 15 = .ok (.iload_n 1, 1) := by decide +kernel
theorem d_X_bytesBehindBackslash_16 : decode b_X_bytesBehindBackslash 16 = .ok (.invokevirtual 58, 3) := by decide +kernel
theorem d_X_bytesBehindBackslash_19 : decode b_X_bytesBehindBackslash 19 = .ok (.bipush 92, 2) := by decide +kernel
theorem d_X_bytesBehindBackslash_21 : decode b_X_bytesBehindBackslash 21 = .ok (.if_icmp .ne 8, 3) := by decide +kernel
theorem d_X_bytesBehindBackslash_24 : decode b_X_bytesBehindBackslash 24 = .ok (.iload_n 2, 1) := by decide +kernel
theorem d_X_bytesBehindBackslash_25 : decode b_X_bytesBehindBackslash 25 = .ok (.iconst (-1), 1) := by decide +kernel
theorem d_X_bytesBehindBackslash_26 : decode b_X_bytesBehindBackslash 26 = .ok (.if_icmp .ne 5, 3) := by decide +kernel
theorem d_X_bytesBehindBackslash_29 : decode b_X_bytesBehindBackslash 29 = .ok (.iconst 0, 1) := by decide +kernel
theorem d_X_bytesBehindBackslash_30 : decode b_X_bytesBehindBackslash 30 = .ok (.ireturn, 1) := by decide +kernel
theorem d_X_bytesBehindBackslash_31 : decode b_X_bytesBehindBackslash 31 = .ok (.iload_n 2, 1) := by decide +kernel
theorem d_X_bytesBehindBackslash_32 : decode b_X_bytesBehindBackslash 32 = .ok (.bipush 10, 2) := by decide +kernel
theorem d_X_bytesBehindBackslash_34 : decode b_X_bytesBehindBackslash 34 = .ok (.if_icmp .ne 13, 3) := by decide +kernel
theorem d_X_bytesBehindBackslash_37 : decode b_X_bytesBehindBackslash 37 = .ok (.iconst 1, 1) := by decide +kernel
theorem d_X_bytesBehindBackslash_38 : decode b_X_bytesBehindBackslash 38 = .ok (.aload_n 0, 1) := by decide +kernel
theorem d_X_bytesBehindBackslash_39 : decode b_X_bytesBehindBackslash 39 = .ok (.iload_n 1, 1) := by decide +kernel
theorem d_X_bytesBehindBackslash_40 : decode b_X_bytesBehindBackslash 40 = .ok (.iconst 2, 1) := by decide +kernel
theorem d_X_bytesBehindBackslash_41 : decode b_X_bytesBehindBackslash 41 = .ok (.iadd, 1) := by decide +kernel
theorem d_X_bytesBehindBackslash_42 : decode b_X_bytesBehindBackslash 42 = .ok (.invokevirtual 101, 3) := by decide +kernel
theorem d_X_bytesBehindBackslash_45 : decode b_X_bytesBehindBackslash 45 = .ok (.iadd, 1) := by decide +kernel
theorem d_X_bytesBehindBackslash_46 : decode b_X_bytesBehindBackslash 46 = .ok (.ireturn, 1) := by decide +kernel
theorem d_X_bytesBehindBackslash_47 : decode b_X_bytesBehindBackslash 47 = .ok (.iload_n 2, 1) := by decide +kernel
theorem d_X_bytesBehindBackslash_48 : decode b_X_bytesBehindBackslash 48 = .ok (.bipush 120, 2) := by decide +kernel
theorem d_X_bytesBehindBackslash_50 : decode b_X_bytesBehindBackslash 50 = .ok (.if_icmp .ne 16, 3) := by decide +kernel
theorem d_X_bytesBehindBackslash_53 : decode b_X_bytesBehindBackslash 53 = .ok (.iconst 1, 1) := by decide +kernel
theorem d_X_bytesBehindBackslash_54 : decode b_X_bytesBehindBackslash 54 = .ok (.aload_n 0, 1) := by decide +kernel
theorem d_X_bytesBehindBackslash_55 : decode b_X_bytesBehindBackslash 55 = .ok (.iload_n 1, 1) := by decide +kernel
theorem d_X_bytesBehindBackslash_56 : decode b_X_bytesBehindBackslash 56 = .ok (.iconst 2, 1) := by decide +kernel
theorem d_X_bytesBehindBackslash_57 : decode b_X_bytesBehindBackslash 57 = .ok (.iadd, 1) := by decide +kernel
theorem d_X_bytesBehindBackslash_58 : decode b_X_bytesBehindBackslash 58 = .ok (.iconst 2, 1) := by decide +kernel
theorem d_X_bytesBehindBackslash_59 : decode b_X_bytesBehindBackslash 59 = .ok (.bipush 16, 2) := by decide +kernel
theorem d_X_bytesBehindBackslash_61 : decode b_X_bytesBehindBackslash 61 = .ok (.invokevirtual 87, 3) := by decide +kernel
theorem d_X_bytesBehindBackslash_64 : decode b_X_bytesBehindBackslash 64 = .ok (.iadd, 1) := by decide +kernel
theorem d_X_bytesBehindBackslash_65 : decode b_X_bytesBehindBackslash 65 = .ok (.ireturn, 1) := by decide +kernel
theorem d_X_bytesBehindBackslash_66 : decode b_X_bytesBehindBackslash 66 = .ok (.iconst 1, 1) := by decide +kernel
theorem d_X_bytesBehindBackslash_67 : decode b_X_bytesBehindBackslash 67 = .ok (.aload_n 0, 1) := by decide +kernel
theorem d_X_bytesBehindBackslash_68 : decode b_X_bytesBehindBackslash 68 = .ok (.iload_n 1, 1) := by decide +kernel
theorem d_X_bytesBehindBackslash_69 : decode b_X_bytesBehindBackslash 69 = .ok (.iconst 1, 1) := by decide +kernel
theorem d_X_bytesBehindBackslash_70 : decode b_X_bytesBehindBackslash 70 = .ok (.iadd, 1) := by decide +kernel
theorem d_X_bytesBehindBackslash_71 : decode b_X_bytesBehindBackslash 71 = .ok (.iconst 3, 1) := by decide +kernel
theorem d_X_bytesBehindBackslash_72 : decode b_X_bytesBehindBackslash 72 = .ok (.bipush 8, 2) := by decide +kernel
theorem d_X_bytesBehindBackslash_74 : decode b_X_bytesBehindBackslash 74 = .ok (.invokevirtual 87, 3) := by decide +kernel
theorem d_X_bytesBehindBackslash_77 : decode b_X_bytesBehindBackslash 77 = .ok (.invokestatic 104, 3) := by decide +kernel
theorem d_X_bytesBehindBackslash_80 : decode b_X_bytesBehindBackslash 80 = .ok (.ireturn, 1) := by decide +kernel
theorem d_X_readUnbraced_0 : decode b_X_readUnbraced 0 = .ok (.iload_n 1, 1) := by decide +kernel
theorem d_X_readUnbraced_1 : decode b_X_readUnbraced 1 = .ok (.istore_n 3, 1) := by decide +kernel
theorem d_X_readUnbraced_2 : decode b_X_readUnbraced 2 = .ok (.iload_n 3, 1) := by decide +kernel
theorem d_X_readUnbraced_3 : decode b_X_readUnbraced 3 = .ok (.aload_n 0, 1) := by decide +kernel
theorem d_X_readUnbraced_4 : decode b_X_readUnbraced 4 = .ok (.getfield 16, 3) := by decide +kernel
theorem d_X_readUnbraced_7 : decode b_X_readUnbraced 7 = .ok (.invokevirtual 32, 3) := by decide +kernel
theorem d_X_readUnbraced_10 : decode b_X_readUnbraced 10 = .ok (.if_icmp .ge 76, 3) := by decide +kernel
theorem d_X_readUnbraced_13 : decode b_X_readUnbraced 13 = .ok (.aload_n 0, 1) := by decide +kernel
theorem d_X_readUnbraced_14 : decode b_X_readUnbraced 14 = .ok (.getfield 16, 3) := by decide +kernel
theorem d_X_readUnbraced_17 : decode b_X_readUnbraced 17 = .ok (.iload_n 3, 1) := by decide +kernel
theorem d_X_readUnbraced_18 : decode b_X_readUnbraced 18 = .ok (.invokevirtual 58, 3) := by decide +kernel
theorem d_X_readUnbraced_21 : decode b_X_readUnbraced 21 = .ok (.istore 4, 2) := by decide +kernel
theorem d_X_readUnbraced_23 : decode b_X_readUnbraced 23 = .ok (.iload_n 2, 1) := by decide +kernel
theorem d_X_readUnbraced_24 : decode b_X_readUnbraced 24 = .ok (.ifCond .eq 13, 3) := by decide +kernel
theorem d_X_readUnbraced_27 : decode b_X_readUnbraced 27 = .ok (.iload 4, 2) := by decide +kernel
theorem d_X_readUnbraced_29 : decode b_X_readUnbraced 29 = .ok (.bipush 34, 2) := by decide +kernel
theorem d_X_readUnbraced_31 : decode b_X_readUnbraced 31 = .ok (.if_icmp .ne 16, 3) := by decide +kernel
theorem d_X_readUnbraced_34 : decode b_X_readUnbraced 34 = .ok (.goto 11, 3) := by decide +kernel
theorem d_X_readUnbraced_37 : decode b_X_readUnbraced 37 = .ok (.iload 4, 2) := by decide +kernel
theorem d_X_readUnbraced_39 : decode b_X_readUnbraced 39 = .ok (.invokestatic 75, 3) := by decide +kernel
theorem d_X_readUnbraced_42 : decode b_X_readUnbraced 42 = .ok (.ifCond .eq 5, 3) := by decide +kernel
theorem d_X_readUnbraced_45 : decode b_X_readUnbraced 45 = .ok (.iload_n 3, 1) := by decide +kernel
theorem d_X_readUnbraced_46 : decode b_X_readUnbraced 46 = .ok (.ireturn, 1) := by decide +kernel
theorem d_X_readUnbraced_47 : decode b_X_readUnbraced 47 = .ok (.aload_n 0, 1) := by decide +kernel
theorem d_X_readUnbraced_48 : decode b_X_readUnbraced 48 = .ok (.getfield 22, 3) := by decide +kernel
theorem d_X_readUnbraced_51 : decode b_X_readUnbraced 51 = .ok (.iload 4, 2) := by decide +kernel
theorem d_X_readUnbraced_53 : decode b_X_readUnbraced 53 = .ok (.bipush 92, 2) := by decide +kernel
theorem d_X_readUnbraced_55 : decode b_X_readUnbraced 55 = .ok (.if_icmp .ne 11, 3) := by decide +kernel
theorem d_X_readUnbraced_58 : decode b_X_readUnbraced 58 = .ok (.aload_n 0, 1) := by decide +kernel
theorem d_X_readUnbraced_59 : decode b_X_readUnbraced 59 = .ok (.iload_n 3, 1) := by decide +kernel
theorem d_X_readUnbraced_60 : decode b_X_readUnbraced 60 = .ok (.invokevirtual 81, 3) := by decide +kernel
theorem d_X_readUnbraced_63 : decode b_X_readUnbraced 63 = .ok (.goto 5, 3) := by decide +kernel
theorem d_X_readUnbraced_66 : decode b_X_readUnbraced 66 = .ok (.iload 4, 2) := by decide +kernel
theorem d_X_readUnbraced_68 : decode b_X_readUnbraced 68 = .ok (.invokevirtual 78, 3) := by decide +kernel
theorem d_X_readUnbraced_71 : decode b_X_readUnbraced 71 = .ok (.pop, 1) := by decide +kernel
theorem d_X_readUnbraced_72 : decode b_X_readUnbraced 72 = .ok (.iload_n 3, 1) := by decide +kernel
theorem d_X_readUnbraced_73 : decode b_X_readUnbraced 73 = .ok (.aload_n 0, 1) := by decide +kernel
theorem d_X_readUnbraced_74 : decode b_X_readUnbraced 74 = .ok (.iload_n 3, 1) := by decide +kernel
theorem d_X_readUnbraced_75 : decode b_X_readUnbraced 75 = .ok (.invokevirtual 84, 3) := by decide +kernel
theorem d_X_readUnbraced_78 : decode b_X_readUnbraced 78 = .ok (.iadd, 1) := by decide +kernel
theorem d_X_readUnbraced_79 : decode b_X_readUnbraced 79 = .ok (.istore_n 3, 1) := by decide +kernel
theorem d_X_readUnbraced_80 : decode b_X_readUnbraced 80 = .ok (.iinc 3 1, 3) := by decide +kernel
theorem d_X_readUnbraced_83 : decode b_X_readUnbraced 83 = .ok (.goto (-81), 3) := by decide +kernel
theorem d_X_readUnbraced_86 : decode b_X_readUnbraced 86 = .ok (.iload_n 2, 1) := by decide +kernel
theorem d_X_readUnbraced_87 : decode b_X_readUnbraced 87 = .ok (.ifCond .eq 8, 3) := by decide +kernel
theorem d_X_readUnbraced_90 : decode b_X_readUnbraced 90 = .ok (.bipush (-2), 2) := by decide +kernel
theorem d_X_readUnbraced_92 : decode b_X_readUnbraced 92 = .ok (.goto 10, 3) := by decide +kernel
theorem d_X_readUnbraced_95 : decode b_X_readUnbraced 95 = .ok (.aload_n 0, 1) := by decide +kernel
theorem d_X_readUnbraced_96 : decode b_X_readUnbraced 96 = .ok (.getfield 16, 3) := by decide +kernel
theorem d_X_readUnbraced_99 : decode b_X_readUnbraced 99 = .ok (.invokevirtual 32, 3) := by decide +kernel
theorem d_X_readUnbraced_102 : decode b_X_readUnbraced 102 = .ok (.ireturn, 1) := by decide +kernel
theorem d_X_nextElement_0 : decode b_X_nextElement 0 = .ok (.aload_n 0, 1) := by decide +kernel
theorem d_X_nextElement_1 : decode b_X_nextElement 1 = .ok (.aload_n 0, 1) := by decide +kernel
theorem d_X_nextElement_2 : decode b_X_nextElement 2 = .ok (.getfield 28, 3) := by decide +kernel
theorem d_X_nextElement_5 : decode b_X_nextElement 5 = .ok (.invokevirtual 62, 3) := by decide +kernel
theorem d_X_nextElement_8 : decode b_X_nextElement 8 = .ok (.istore_n 1, 1) := by decide +kernel
theorem d_X_nextElement_9 : decode b_X_nextElement 9 = .ok (.aload_n 0, 1) := by decide +kernel
theorem d_X_nextElement_10 : decode b_X_nextElement 10 = .ok (.getfield 16, 3) := by decide +kernel
theorem d_X_nextElement_13 : decode b_X_nextElement 13 = .ok (.iload_n 1, 1) := by decide +kernel
theorem d_X_nextElement_14 : decode b_X_nextElement 14 = .ok (.invokevirtual 58, 3) := by decide +kernel
theorem d_X_nextElement_17 : decode b_X_nextElement 17 = .ok (.istore_n 2, 1) := by decide +kernel
theorem d_X_nextElement_18 : decode b_X_nextElement 18 = .ok (.iload_n 2, 1) := by decide +kernel
theorem d_X_nextElement_19 : decode b_X_nextElement 19 = .ok (.iconst (-1), 1) := by decide +kernel
theorem d_X_nextElement_20 : decode b_X_nextElement 20 = .ok (.if_icmp .ne 5, 3) := by decide +kernel
theorem d_X_nextElement_23 : decode b_X_nextElement 23 = .ok (.iconst (-1), 1) := by decide +kernel
theorem d_X_nextElement_24 : decode b_X_nextElement 24 = .ok (.ireturn, 1) := by decide +kernel
theorem d_X_nextElement_25 : decode b_X_nextElement 25 = .ok (.aload_n 0, 1) := by decide +kernel
theorem d_X_nextElement_26 : decode b_X_nextElement 26 = .ok (.getfield 22, 3) := by decide +kernel
theorem d_X_nextElement_29 : decode b_X_nextElement 29 = .ok (.iconst 0, 1) := by decide +kernel
theorem d_X_nextElement_30 : decode b_X_nextElement 30 = .ok (.invokevirtual 40, 3) := by decide +kernel
theorem d_X_nextElement_33 : decode b_X_nextElement 33 = .ok (.pop, 1) := by decide +kernel
theorem d_X_nextElement_34 : decode b_X_nextElement 34 = .ok (.iload_n 2, 1) := by decide +kernel
theorem d_X_nextElement_35 : decode b_X_nextElement 35 = .ok (.bipush 123, 2) := by decide +kernel
theorem d_X_nextElement_37 : decode b_X_nextElement 37 = .ok (.if_icmp .ne 18, 3) := by decide +kernel
theorem d_X_nextElement_40 : decode b_X_nextElement 40 = .ok (.aload_n 0, 1) := by decide +kernel
theorem d_X_nextElement_41 : decode b_X_nextElement 41 = .ok (.aload_n 0, 1) := by decide +kernel
theorem d_X_nextElement_42 : decode b_X_nextElement 42 = .ok (.iload_n 1, 1) := by decide +kernel
theorem d_X_nextElement_43 : decode b_X_nextElement 43 = .ok (.iconst 1, 1) := by decide +kernel
theorem d_X_nextElement_44 : decode b_X_nextElement 44 = .ok (.iadd, 1) := by decide +kernel
theorem d_X_nextElement_45 : decode b_X_nextElement 45 = .ok (.invokevirtual 65, 3) := by decide +kernel
theorem d_X_nextElement_48 : decode b_X_nextElement 48 = .ok (.invokevirtual 68, 3) := by decide +kernel
theorem d_X_nextElement_51 : decode b_X_nextElement 51 = .ok (.istore_n 3, 1) := by decide +kernel
theorem d_X_nextElement_52 : decode b_X_nextElement 52 = .ok (.goto 32, 3) := by decide +kernel
theorem d_X_nextElement_55 : decode b_X_nextElement 55 = .ok (.iload_n 2, 1) := by decide +kernel
theorem d_X_nextElement_56 : decode b_X_nextElement 56 = .ok (.bipush 34, 2) := by decide +kernel
theorem d_X_nextElement_58 : decode b_X_nextElement 58 = .ok (.if_icmp .ne 19, 3) := by decide +kernel
theorem d_X_nextElement_61 : decode b_X_nextElement 61 = .ok (.aload_n 0, 1) := by decide +kernel
theorem d_X_nextElement_62 : decode b_X_nextElement 62 = .ok (.aload_n 0, 1) := by decide +kernel
theorem d_X_nextElement_63 : decode b_X_nextElement 63 = .ok (.iload_n 1, 1) := by decide +kernel
theorem d_X_nextElement_64 : decode b_X_nextElement 64 = .ok (.iconst 1, 1) := by decide +kernel
theorem d_X_nextElement_65 : decode b_X_nextElement 65 = .ok (.iadd, 1) := by decide +kernel
theorem d_X_nextElement_66 : decode b_X_nextElement 66 = .ok (.iconst 1, 1) := by decide +kernel
theorem d_X_nextElement_67 : decode b_X_nextElement 67 = .ok (.invokevirtual 71, 3) := by decide +kernel
theorem d_X_nextElement_70 : decode b_X_nextElement 70 = .ok (.invokevirtual 68, 3) := by decide +kernel
theorem d_X_nextElement_73 : decode b_X_nextElement 73 = .ok (.istore_n 3, 1) := by decide +kernel
theorem d_X_nextElement_74 : decode b_X_nextElement 74 = .ok (.goto 10, 3) := by decide +kernel
theorem d_X_nextElement_77 : decode b_X_nextElement 77 = .ok (.aload_n 0, 1) := by decide +kernel
theorem d_X_nextElement_78 : decode b_X_nextElement 78 = .ok (.iload_n 1, 1) := by decide +kernel
theorem d_X_nextElement_79 : decode b_X_nextElement 79 = .ok (.iconst 0, 1) := by decide +kernel
theorem d_X_nextElement_80 : decode b_X_nextElement 80 = .ok (.invokevirtual 71, 3) := by decide +kernel
theorem d_X_nextElement_83 : decode b_X_nextElement 83 = .ok (.istore_n 3, 1) := by decide +kernel
theorem d_X_nextElement_84 : decode b_X_nextElement 84 = .ok (.iload_n 3, 1) := by decide +kernel
theorem d_X_nextElement_85 : decode b_X_nextElement 85 = .ok (.bipush (-2), 2) := by decide +kernel
theorem d_X_nextElement_87 : decode b_X_nextElement 87 = .ok (.if_icmp .ne 6, 3) := by decide +kernel
theorem d_X_nextElement_90 : decode b_X_nextElement 90 = .ok (.bipush (-2), 2) := by decide +kernel
theorem d_X_nextElement_92 : decode b_X_nextElement 92 = .ok (.ireturn, 1) := by decide +kernel
theorem d_X_nextElement_93 : decode b_X_nextElement 93 = .ok (.aload_n 0, 1) := by decide +kernel
theorem d_X_nextElement_94 : decode b_X_nextElement 94 = .ok (.iload_n 3, 1) := by decide +kernel
theorem d_X_nextElement_95 : decode b_X_nextElement 95 = .ok (.putfield 28, 3) := by decide +kernel
theorem d_X_nextElement_98 : decode b_X_nextElement 98 = .ok (.aload_n 0, 1) := by decide +kernel
theorem d_X_nextElement_99 : decode b_X_nextElement 99 = .ok (.getfield 22, 3) := by decide +kernel
theorem d_X_nextElement_102 : decode b_X_nextElement 102 = .ok (.invokevirtual 32, 3) := by decide +kernel
theorem d_X_nextElement_105 : decode b_X_nextElement 105 = .ok (.ireturn, 1) := by decide +kernel
theorem d_X_count_0 : decode b_X_count 0 = .ok (.aload_n 0, 1) := by decide +kernel
theorem d_X_count_1 : decode b_X_count 1 = .ok (.iconst 0, 1) := by decide +kernel
theorem d_X_count_2 : decode b_X_count 2 = .ok (.putfield 28, 3) := by decide +kernel
theorem d_X_count_5 : decode b_X_count 5 = .ok (.iconst 0, 1) := by decide +kernel
theorem d_X_count_6 : decode b_X_count 6 = .ok (.istore_n 1, 1) := by decide +kernel
theorem d_X_count_7 : decode b_X_count 7 = .ok (.aload_n 0, 1) := by decide +kernel
theorem d_X_count_8 : decode b_X_count 8 = .ok (.invokevirtual 48, 3) := by decide +kernel
theorem d_X_count_11 : decode b_X_count 11 = .ok (.istore_n 2, 1) := by decide +kernel
theorem d_X_count_12 : decode b_X_count 12 = .ok (.iload_n 2, 1) := by decide +kernel
theorem d_X_count_13 : decode b_X_count 13 = .ok (.ifCond .lt 21, 3) := by decide +kernel
theorem d_X_count_16 : decode b_X_count 16 = .ok (.iload_n 1, 1) := by decide +kernel
theorem d_X_count_17 : decode b_X_count 17 = .ok (.sipush 1024, 3) := by decide +kernel
theorem d_X_count_20 : decode b_X_count 20 = .ok (.if_icmp .ge 14, 3) := by decide +kernel
theorem d_X_count_23 : decode b_X_count 23 = .ok (.iinc 1 1, 3) := by decide +kernel
theorem d_X_count_26 : decode b_X_count 26 = .ok (.aload_n 0, 1) := by decide +kernel
theorem d_X_count_27 : decode b_X_count 27 = .ok (.invokevirtual 48, 3) := by decide +kernel
theorem d_X_count_30 : decode b_X_count 30 = .ok (.istore_n 2, 1) := by decide +kernel
theorem d_X_count_31 : decode b_X_count 31 = .ok (.goto (-19), 3) := by decide +kernel
theorem d_X_count_34 : decode b_X_count 34 = .ok (.iload_n 2, 1) := by decide +kernel
theorem d_X_count_35 : decode b_X_count 35 = .ok (.bipush (-2), 2) := by decide +kernel
theorem d_X_count_37 : decode b_X_count 37 = .ok (.if_icmp .ne 8, 3) := by decide +kernel
theorem d_X_count_40 : decode b_X_count 40 = .ok (.bipush (-2), 2) := by decide +kernel
theorem d_X_count_42 : decode b_X_count 42 = .ok (.goto 4, 3) := by decide +kernel
theorem d_X_count_45 : decode b_X_count 45 = .ok (.iload_n 1, 1) := by decide +kernel
theorem d_X_count_46 : decode b_X_count 46 = .ok (.ireturn, 1) := by decide +kernel
theorem d_X_needsBackslash_0 : decode b_X_needsBackslash 0 = .ok (.aload_n 0, 1) := by decide +kernel
theorem d_X_needsBackslash_1 : decode b_X_needsBackslash 1 = .ok (.iload_n 1, 1) := by decide +kernel
theorem d_X_needsBackslash_2 : decode b_X_needsBackslash 2 = .ok (.invokevirtual 58, 3) := by decide +kernel
theorem d_X_needsBackslash_5 : decode b_X_needsBackslash 5 = .ok (.istore_n 2, 1) := by decide +kernel
theorem d_X_needsBackslash_6 : decode b_X_needsBackslash 6 = .ok (.iload_n 2, 1) := by decide +kernel
theorem d_X_needsBackslash_7 : decode b_X_needsBackslash 7 = .ok (.invokestatic 75, 3) := by decide +kernel
theorem d_X_needsBackslash_10 : decode b_X_needsBackslash 10 = .ok (.ifCond .ne 23, 3) := by decide +kernel
theorem d_X_needsBackslash_13 : decode b_X_needsBackslash 13 = .ok (.ldc 137, 2) := by decide +kernel
theorem d_X_needsBackslash_15 : decode b_X_needsBackslash 15 = .ok (.iload_n 2, 1) := by decide +kernel
theorem d_X_needsBackslash_16 : decode b_X_needsBackslash 16 = .ok (.i2c, 1) := by decide +kernel
theorem d_X_needsBackslash_17 : decode b_X_needsBackslash 17 = .ok (.invokevirtual 96, 3) := by decide +kernel
theorem d_X_needsBackslash_20 : decode b_X_needsBackslash 20 = .ok (.ifCond .ge 13, 3) := by decide +kernel
theorem d_X_needsBackslash_23 : decode b_X_needsBackslash 23 = .ok (.iload_n 2, 1) := by decide +kernel
theorem d_X_needsBackslash_24 : decode b_X_needsBackslash 24 = .ok (.bipush 35, 2) := by decide +kernel
theorem d_X_needsBackslash_26 : decode b_X_needsBackslash 26 = .ok (.if_icmp .ne 11, 3) := by decide +kernel
theorem d_X_needsBackslash_29 : decode b_X_needsBackslash 29 = .ok (.iload_n 1, 1) := by decide +kernel
theorem d_X_needsBackslash_30 : decode b_X_needsBackslash 30 = .ok (.ifCond .ne 7, 3) := by decide +kernel
theorem d_X_needsBackslash_33 : decode b_X_needsBackslash 33 = .ok (.iconst 1, 1) := by decide +kernel
theorem d_X_needsBackslash_34 : decode b_X_needsBackslash 34 = .ok (.goto 4, 3) := by decide +kernel
theorem d_X_needsBackslash_37 : decode b_X_needsBackslash 37 = .ok (.iconst 0, 1) := by decide +kernel
theorem d_X_needsBackslash_38 : decode b_X_needsBackslash 38 = .ok (.ireturn, 1) := by decide +kernel
theorem d_X_canStandBare_0 : decode b_X_canStandBare 0 = .ok (.iconst 0, 1) := by decide +kernel
theorem d_X_canStandBare_1 : decode b_X_canStandBare 1 = .ok (.istore_n 1, 1) := by decide +kernel
theorem d_X_canStandBare_2 : decode b_X_canStandBare 2 = .ok (.iload_n 1, 1) := by decide +kernel
theorem d_X_canStandBare_3 : decode b_X_canStandBare 3 = .ok (.aload_n 0, 1) := by decide +kernel
theorem d_X_canStandBare_4 : decode b_X_canStandBare 4 = .ok (.invokevirtual 32, 3) := by decide +kernel
theorem d_X_canStandBare_7 : decode b_X_canStandBare 7 = .ok (.if_icmp .ge 19, 3) := by decide +kernel
theorem d_X_canStandBare_10 : decode b_X_canStandBare 10 = .ok (.aload_n 0, 1) := by decide +kernel
theorem d_X_canStandBare_11 : decode b_X_canStandBare 11 = .ok (.iload_n 1, 1) := by decide +kernel
theorem d_X_canStandBare_12 : decode b_X_canStandBare 12 = .ok (.invokestatic 129, 3) := by decide +kernel
theorem d_X_canStandBare_15 : decode b_X_canStandBare 15 = .ok (.ifCond .eq 5, 3) := by decide +kernel
theorem d_X_canStandBare_18 : decode b_X_canStandBare 18 = .ok (.iconst 0, 1) := by decide +kernel
theorem d_X_canStandBare_19 : decode b_X_canStandBare 19 = .ok (.ireturn, 1) := by decide +kernel
theorem d_X_canStandBare_20 : decode b_X_canStandBare 20 = .ok (.iinc 1 1, 3) := by decide +kernel
theorem d_X_canStandBare_23 : decode b_X_canStandBare 23 = .ok (.goto (-21), 3) := by decide +kernel
theorem d_X_canStandBare_26 : decode b_X_canStandBare 26 = .ok (.aload_n 0, 1) := by decide +kernel
theorem d_X_canStandBare_27 : decode b_X_canStandBare 27 = .ok (.invokevirtual 32, 3) := by decide +kernel
theorem d_X_canStandBare_30 : decode b_X_canStandBare 30 = .ok (.ifCond .le 7, 3) := by decide +kernel
theorem d_X_canStandBare_33 : decode b_X_canStandBare 33 = .ok (.iconst 1, 1) := by decide +kernel
theorem d_X_canStandBare_34 : decode b_X_canStandBare 34 = .ok (.goto 4, 3) := by decide +kernel
theorem d_X_canStandBare_37 : decode b_X_canStandBare 37 = .ok (.iconst 0, 1) := by decide +kernel
theorem d_X_canStandBare_38 : decode b_X_canStandBare 38 = .ok (.ireturn, 1) := by decide +kernel
theorem d_X_canStandInBraces_0 : decode b_X_canStandInBraces 0 = .ok (.iconst 0, 1) := by decide +kernel
theorem d_X_canStandInBraces_1 : decode b_X_canStandInBraces 1 = .ok (.istore_n 1, 1) := by decide +kernel
theorem d_X_canStandInBraces_2 : decode b_X_canStandInBraces 2 = .ok (.iconst 0, 1) := by decide +kernel
theorem d_X_canStandInBraces_3 : decode b_X_canStandInBraces 3 = .ok (.istore_n 2, 1) := by decide +kernel
theorem d_X_canStandInBraces_4 : decode b_X_canStandInBraces 4 = .ok (.iload_n 2, 1) := by decide +kernel
theorem d_X_canStandInBraces_5 : decode b_X_canStandInBraces 5 = .ok (.aload_n 0, 1) := by decide +kernel
theorem d_X_canStandInBraces_6 : decode b_X_canStandInBraces 6 = .ok (.invokevirtual 32, 3) := by decide +kernel
theorem d_X_canStandInBraces_9 : decode b_X_canStandInBraces 9 = .ok (.if_icmp .ge 48, 3) := by decide +kernel
theorem d_X_canStandInBraces_12 : decode b_X_canStandInBraces 12 = .ok (.aload_n 0, 1) := by decide +kernel
theorem d_X_canStandInBraces_13 : decode b_X_canStandInBraces 13 = .ok (.iload_n 2, 1) := by decide +kernel
theorem d_X_canStandInBraces_14 : decode b_X_canStandInBraces 14 = .ok (.invokevirtual 58, 3) := by decide +kernel
theorem d_X_canStandInBraces_17 : decode b_X_canStandInBraces 17 = .ok (.istore_n 3, 1) := by decide +kernel
theorem d_X_canStandInBraces_18 : decode b_X_canStandInBraces 18 = .ok (.iload_n 3, 1) := by decide +kernel
theorem d_X_canStandInBraces_19 : decode b_X_canStandInBraces 19 = .ok (.bipush 123, 2) := by decide +kernel
theorem d_X_canStandInBraces_21 : decode b_X_canStandInBraces 21 = .ok (.if_icmp .ne 9, 3) := by decide +kernel
theorem d_X_canStandInBraces_24 : decode b_X_canStandInBraces 24 = .ok (.iinc 1 1, 3) := by decide +kernel
theorem d_X_canStandInBraces_27 : decode b_X_canStandInBraces 27 = .ok (.goto 12, 3) := by decide +kernel
theorem d_X_canStandInBraces_30 : decode b_X_canStandInBraces 30 = .ok (.iload_n 3, 1) := by decide +kernel
theorem d_X_canStandInBraces_31 : decode b_X_canStandInBraces 31 = .ok (.bipush 125, 2) := by decide +kernel
theorem d_X_canStandInBraces_33 : decode b_X_canStandInBraces 33 = .ok (.if_icmp .ne 6, 3) := by decide +kernel
theorem d_X_canStandInBraces_36 : decode b_X_canStandInBraces 36 = .ok (.iinc 1 (-1), 3) := by decide +kernel
theorem d_X_canStandInBraces_39 : decode b_X_canStandInBraces 39 = .ok (.iload_n 3, 1) := by decide +kernel
theorem d_X_canStandInBraces_40 : decode b_X_canStandInBraces 40 = .ok (.bipush 92, 2) := by decide +kernel
theorem d_X_canStandInBraces_42 : decode b_X_canStandInBraces 42 = .ok (.if_icmp .eq 7, 3) := by decide +kernel
theorem d_X_canStandInBraces_45 : decode b_X_canStandInBraces 45 = .ok (.iload_n 1, 1) := by decide +kernel
theorem d_X_canStandInBraces_46 : decode b_X_canStandInBraces 46 = .ok (.ifCond .ge 5, 3) := by decide +kernel
theorem d_X_canStandInBraces_49 : decode b_X_canStandInBraces 49 = .ok (.iconst 0, 1) := by decide +kernel
theorem d_X_canStandInBraces_50 : decode b_X_canStandInBraces 50 = .ok (.ireturn, 1) := by decide +kernel
theorem d_X_canStandInBraces_51 : decode b_X_canStandInBraces 51 = .ok (.iinc 2 1, 3) := by decide +kernel
theorem d_X_canStandInBraces_54 : decode b_X_canStandInBraces 54 = .ok (.goto (-50), 3) := by decide +kernel
theorem d_X_canStandInBraces_57 : decode b_X_canStandInBraces 57 = .ok (.iload_n 1, 1) := by decide +kernel
theorem d_X_canStandInBraces_58 : decode b_X_canStandInBraces 58 = .ok (.ifCond .ne 7, 3) := by decide +kernel
theorem d_X_canStandInBraces_61 : decode b_X_canStandInBraces 61 = .ok (.iconst 1, 1) := by decide +kernel
theorem d_X_canStandInBraces_62 : decode b_X_canStandInBraces 62 = .ok (.goto 4, 3) := by decide +kernel
theorem d_X_canStandInBraces_65 : decode b_X_canStandInBraces 65 = .ok (.iconst 0, 1) := by decide +kernel
theorem d_X_canStandInBraces_66 : decode b_X_canStandInBraces 66 = .ok (.ireturn, 1) := by decide +kernel
theorem d_PC_checkIndex0_0 : decode b_PC_checkIndex0 0 = .ok (.iload_n 0, 1) := by decide +kernel
theorem d_PC_checkIndex0_1 : decode b_PC_checkIndex0 1 = .ok (.ifCond .lt 8, 3) := by decide +kernel
theorem d_PC_checkIndex0_4 : decode b_PC_checkIndex0 4 = .ok (.iload_n 0, 1) := by decide +kernel
theorem d_PC_checkIndex0_5 : decode b_PC_checkIndex0 5 = .ok (.iload_n 1, 1) := by decide +kernel
theorem d_PC_checkIndex0_6 : decode b_PC_checkIndex0 6 = .ok (.if_icmp .lt 10, 3) := by decide +kernel
theorem d_PC_checkIndex0_16 : decode b_PC_checkIndex0 16 = .ok (.iload_n 0, 1) := by decide +kernel
theorem d_PC_checkIndex0_17 : decode b_PC_checkIndex0 17 = .ok (.ireturn, 1) := by decide +kernel
theorem d_S_checkIndex_0 : decode b_S_checkIndex 0 = .ok (.iload_n 0, 1) := by decide +kernel
theorem d_S_checkIndex_1 : decode b_S_checkIndex 1 = .ok (.iload_n 1, 1) := by decide +kernel
theorem d_S_checkIndex_2 : decode b_S_checkIndex 2 = .ok (.getstatic 1053, 3) := by decide +kernel
theorem d_S_checkIndex_5 : decode b_S_checkIndex 5 = .ok (.invokestatic 1059, 3) := by decide +kernel
theorem d_S_checkIndex_8 : decode b_S_checkIndex 8 = .ok (.pop, 1) := by decide +kernel
theorem d_S_checkIndex_9 : decode b_S_checkIndex 9 = .ok (.return_, 1) := by decide +kernel
theorem d_SL_charAt_0 : decode b_SL_charAt 0 = .ok (.iload_n 1, 1) := by decide +kernel
theorem d_SL_charAt_1 : decode b_SL_charAt 1 = .ok (.aload_n 0, 1) := by decide +kernel
theorem d_SL_charAt_2 : decode b_SL_charAt 2 = .ok (.arraylength, 1) := by decide +kernel
theorem d_SL_charAt_3 : decode b_SL_charAt 3 = .ok (.invokestatic 9, 3) := by decide +kernel
theorem d_SL_charAt_6 : decode b_SL_charAt 6 = .ok (.aload_n 0, 1) := by decide +kernel
theorem d_SL_charAt_7 : decode b_SL_charAt 7 = .ok (.iload_n 1, 1) := by decide +kernel
theorem d_SL_charAt_8 : decode b_SL_charAt 8 = .ok (.baload, 1) := by decide +kernel
theorem d_SL_charAt_9 : decode b_SL_charAt 9 = .ok (.sipush 255, 3) := by decide +kernel
theorem d_SL_charAt_12 : decode b_SL_charAt 12 = .ok (.iand, 1) := by decide +kernel
theorem d_SL_charAt_13 : decode b_SL_charAt 13 = .ok (.i2c, 1) := by decide +kernel
theorem d_SL_charAt_14 : decode b_SL_charAt 14 = .ok (.ireturn, 1) := by decide +kernel
theorem d_S_charAt_0 : decode b_S_charAt 0 = .ok (.aload_n 0, 1) := by decide +kernel
theorem d_S_charAt_1 : decode b_S_charAt 1 = .ok (.invokevirtual 492, 3) := by decide +kernel
theorem d_S_charAt_4 : decode b_S_charAt 4 = .ok (.ifCond .eq 12, 3) := by decide +kernel
theorem d_S_charAt_7 : decode b_S_charAt 7 = .ok (.aload_n 0, 1) := by decide +kernel
theorem d_S_charAt_8 : decode b_S_charAt 8 = .ok (.getfield 9, 3) := by decide +kernel
theorem d_S_charAt_11 : decode b_S_charAt 11 = .ok (.iload_n 1, 1) := by decide +kernel
theorem d_S_charAt_12 : decode b_S_charAt 12 = .ok (.invokestatic 495, 3) := by decide +kernel
theorem d_S_charAt_15 : decode b_S_charAt 15 = .ok (.ireturn, 1) := by decide +kernel
theorem d_S_charAt_16 : decode b_S_charAt 16 = .ok (.aload_n 0, 1) := by decide +kernel
theorem d_S_charAt_17 : decode b_S_charAt 17 = .ok (.getfield 9, 3) := by decide +kernel
theorem d_S_charAt_20 : decode b_S_charAt 20 = .ok (.iload_n 1, 1) := by decide +kernel
theorem d_X_writeWithBackslashes_0 : decode b_X_writeWithBackslashes 0 = .ok (.iconst 0, 1) := by decide +kernel
theorem d_X_writeWithBackslashes_1 : decode b_X_writeWithBackslashes 1 = .ok (.istore_n 2, 1) := by decide +kernel
theorem d_X_writeWithBackslashes_2 : decode b_X_writeWithBackslashes 2 = .ok (.iload_n 2, 1) := by decide +kernel
theorem d_X_writeWithBackslashes_3 : decode b_X_writeWithBackslashes 3 = .ok (.aload_n 1, 1) := by decide +kernel
theorem d_X_writeWithBackslashes_4 : decode b_X_writeWithBackslashes 4 = .ok (.invokevirtual 32, 3) := by decide +kernel
theorem d_X_writeWithBackslashes_7 : decode b_X_writeWithBackslashes 7 = .ok (.if_icmp .ge 63, 3) := by decide +kernel
theorem d_X_writeWithBackslashes_10 : decode b_X_writeWithBackslashes 10 = .ok (.aload_n 1, 1) := by decide +kernel
theorem d_X_writeWithBackslashes_11 : decode b_X_writeWithBackslashes 11 = .ok (.iload_n 2, 1) := by decide +kernel
theorem d_X_writeWithBackslashes_12 : decode b_X_writeWithBackslashes 12 = .ok (.invokevirtual 58, 3) := by decide +kernel
theorem d_X_writeWithBackslashes_15 : decode b_X_writeWithBackslashes 15 = .ok (.istore_n 3, 1) := by decide +kernel
theorem d_X_writeWithBackslashes_16 : decode b_X_writeWithBackslashes 16 = .ok (.aload_n 1, 1) := by decide +kernel
theorem d_X_writeWithBackslashes_17 : decode b_X_writeWithBackslashes 17 = .ok (.iload_n 2, 1) := by decide +kernel
theorem d_X_writeWithBackslashes_18 : decode b_X_writeWithBackslashes 18 = .ok (.invokestatic 129, 3) := by decide +kernel
theorem d_X_writeWithBackslashes_21 : decode b_X_writeWithBackslashes 21 = .ok (.ifCond .eq 14, 3) := by decide +kernel
theorem d_X_writeWithBackslashes_24 : decode b_X_writeWithBackslashes 24 = .ok (.aload_n 0, 1) := by decide +kernel
theorem d_X_writeWithBackslashes_25 : decode b_X_writeWithBackslashes 25 = .ok (.bipush 92, 2) := by decide +kernel
theorem d_X_writeWithBackslashes_27 : decode b_X_writeWithBackslashes 27 = .ok (.invokevirtual 78, 3) := by decide +kernel
theorem d_X_writeWithBackslashes_30 : decode b_X_writeWithBackslashes 30 = .ok (.ifCond .ne 5, 3) := by decide +kernel
theorem d_X_writeWithBackslashes_33 : decode b_X_writeWithBackslashes 33 = .ok (.iconst 0, 1) := by decide +kernel
theorem d_X_writeWithBackslashes_34 : decode b_X_writeWithBackslashes 34 = .ok (.ireturn, 1) := by decide +kernel
theorem d_X_writeWithBackslashes_35 : decode b_X_writeWithBackslashes 35 = .ok (.aload_n 0, 1) := by decide +kernel
theorem d_X_writeWithBackslashes_36 : decode b_X_writeWithBackslashes 36 = .ok (.iload_n 3, 1) := by decide +kernel
theorem d_X_writeWithBackslashes_37 : decode b_X_writeWithBackslashes 37 = .ok (.invokestatic 113, 3) := by decide +kernel
theorem d_X_writeWithBackslashes_40 : decode b_X_writeWithBackslashes 40 = .ok (.ifCond .eq 15, 3) := by decide +kernel
theorem d_X_writeWithBackslashes_43 : decode b_X_writeWithBackslashes 43 = .ok (.ldc 94, 2) := by decide +kernel
theorem d_X_writeWithBackslashes_45 : decode b_X_writeWithBackslashes 45 = .ok (.iload_n 3, 1) := by decide +kernel
theorem d_X_writeWithBackslashes_46 : decode b_X_writeWithBackslashes 46 = .ok (.bipush 7, 2) := by decide +kernel
theorem d_X_writeWithBackslashes_48 : decode b_X_writeWithBackslashes 48 = .ok (.isub, 1) := by decide +kernel
theorem d_X_writeWithBackslashes_49 : decode b_X_writeWithBackslashes 49 = .ok (.invokevirtual 133, 3) := by decide +kernel
theorem d_X_writeWithBackslashes_52 : decode b_X_writeWithBackslashes 52 = .ok (.goto 4, 3) := by decide +kernel
theorem d_X_writeWithBackslashes_55 : decode b_X_writeWithBackslashes 55 = .ok (.iload_n 3, 1) := by decide +kernel
theorem d_X_writeWithBackslashes_56 : decode b_X_writeWithBackslashes 56 = .ok (.invokevirtual 78, 3) := by decide +kernel
theorem d_X_writeWithBackslashes_59 : decode b_X_writeWithBackslashes 59 = .ok (.ifCond .ne 5, 3) := by decide +kernel
theorem d_X_writeWithBackslashes_62 : decode b_X_writeWithBackslashes 62 = .ok (.iconst 0, 1) := by decide +kernel
theorem d_X_writeWithBackslashes_63 : decode b_X_writeWithBackslashes 63 = .ok (.ireturn, 1) := by decide +kernel
theorem d_X_writeWithBackslashes_64 : decode b_X_writeWithBackslashes 64 = .ok (.iinc 2 1, 3) := by decide +kernel
theorem d_X_writeWithBackslashes_67 : decode b_X_writeWithBackslashes 67 = .ok (.goto (-65), 3) := by decide +kernel
theorem d_X_writeWithBackslashes_70 : decode b_X_writeWithBackslashes 70 = .ok (.iconst 1, 1) := by decide +kernel
theorem d_X_writeWithBackslashes_71 : decode b_X_writeWithBackslashes 71 = .ok (.ireturn, 1) := by decide +kernel
theorem d_X_writeBehind_0 : decode b_X_writeBehind 0 = .ok (.aload_n 0, 1) := by decide +kernel
theorem d_X_writeBehind_1 : decode b_X_writeBehind 1 = .ok (.invokevirtual 32, 3) := by decide +kernel
theorem d_X_writeBehind_4 : decode b_X_writeBehind 4 = .ok (.ifCond .le 14, 3) := by decide +kernel
theorem d_X_writeBehind_7 : decode b_X_writeBehind 7 = .ok (.aload_n 0, 1) := by decide +kernel
theorem d_X_writeBehind_8 : decode b_X_writeBehind 8 = .ok (.bipush 32, 2) := by decide +kernel
theorem d_X_writeBehind_10 : decode b_X_writeBehind 10 = .ok (.invokevirtual 78, 3) := by decide +kernel
theorem d_X_writeBehind_13 : decode b_X_writeBehind 13 = .ok (.ifCond .ne 5, 3) := by decide +kernel
theorem d_X_writeBehind_16 : decode b_X_writeBehind 16 = .ok (.iconst 0, 1) := by decide +kernel
theorem d_X_writeBehind_17 : decode b_X_writeBehind 17 = .ok (.ireturn, 1) := by decide +kernel
theorem d_X_writeBehind_18 : decode b_X_writeBehind 18 = .ok (.aload_n 1, 1) := by decide +kernel
theorem d_X_writeBehind_19 : decode b_X_writeBehind 19 = .ok (.invokestatic 116, 3) := by decide +kernel
theorem d_X_writeBehind_22 : decode b_X_writeBehind 22 = .ok (.ifCond .eq 9, 3) := by decide +kernel
theorem d_X_writeBehind_25 : decode b_X_writeBehind 25 = .ok (.aload_n 0, 1) := by decide +kernel
theorem d_X_writeBehind_26 : decode b_X_writeBehind 26 = .ok (.aload_n 1, 1) := by decide +kernel
theorem d_X_writeBehind_27 : decode b_X_writeBehind 27 = .ok (.invokevirtual 120, 3) := by decide +kernel
theorem d_X_writeBehind_30 : decode b_X_writeBehind 30 = .ok (.ireturn, 1) := by decide +kernel
theorem d_X_writeBehind_31 : decode b_X_writeBehind 31 = .ok (.aload_n 1, 1) := by decide +kernel
theorem d_X_writeBehind_32 : decode b_X_writeBehind 32 = .ok (.invokestatic 123, 3) := by decide +kernel
theorem d_X_writeBehind_35 : decode b_X_writeBehind 35 = .ok (.ifCond .eq 35, 3) := by decide +kernel
theorem d_X_writeBehind_38 : decode b_X_writeBehind 38 = .ok (.aload_n 0, 1) := by decide +kernel
theorem d_X_writeBehind_39 : decode b_X_writeBehind 39 = .ok (.bipush 123, 2) := by decide +kernel
theorem d_X_writeBehind_41 : decode b_X_writeBehind 41 = .ok (.invokevirtual 78, 3) := by decide +kernel
theorem d_X_writeBehind_44 : decode b_X_writeBehind 44 = .ok (.ifCond .eq 24, 3) := by decide +kernel
theorem d_X_writeBehind_47 : decode b_X_writeBehind 47 = .ok (.aload_n 0, 1) := by decide +kernel
theorem d_X_writeBehind_48 : decode b_X_writeBehind 48 = .ok (.aload_n 1, 1) := by decide +kernel
theorem d_X_writeBehind_49 : decode b_X_writeBehind 49 = .ok (.invokevirtual 120, 3) := by decide +kernel
theorem d_X_writeBehind_52 : decode b_X_writeBehind 52 = .ok (.ifCond .eq 16, 3) := by decide +kernel
theorem d_X_writeBehind_55 : decode b_X_writeBehind 55 = .ok (.aload_n 0, 1) := by decide +kernel
theorem d_X_writeBehind_56 : decode b_X_writeBehind 56 = .ok (.bipush 125, 2) := by decide +kernel
theorem d_X_writeBehind_58 : decode b_X_writeBehind 58 = .ok (.invokevirtual 78, 3) := by decide +kernel
theorem d_X_writeBehind_61 : decode b_X_writeBehind 61 = .ok (.ifCond .eq 7, 3) := by decide +kernel
theorem d_X_writeBehind_64 : decode b_X_writeBehind 64 = .ok (.iconst 1, 1) := by decide +kernel
theorem d_X_writeBehind_65 : decode b_X_writeBehind 65 = .ok (.goto 4, 3) := by decide +kernel
theorem d_X_writeBehind_68 : decode b_X_writeBehind 68 = .ok (.iconst 0, 1) := by decide +kernel
theorem d_X_writeBehind_69 : decode b_X_writeBehind 69 = .ok (.ireturn, 1) := by decide +kernel
theorem d_X_writeBehind_70 : decode b_X_writeBehind 70 = .ok (.aload_n 0, 1) := by decide +kernel
theorem d_X_writeBehind_71 : decode b_X_writeBehind 71 = .ok (.aload_n 1, 1) := by decide +kernel
theorem d_X_writeBehind_72 : decode b_X_writeBehind 72 = .ok (.invokestatic 126, 3) := by decide +kernel
theorem d_X_writeBehind_75 : decode b_X_writeBehind 75 = .ok (.ireturn, 1) := by decide +kernel
theorem d_X_again_0 : decode b_X_again 0 = .ok (.aload_n 0, 1) := by decide +kernel
theorem d_X_again_1 : decode b_X_again 1 = .ok (.invokevirtual 51, 3) := by decide +kernel
theorem d_X_again_4 : decode b_X_again 4 = .ok (.istore_n 1, 1) := by decide +kernel
theorem d_X_again_5 : decode b_X_again 5 = .ok (.iload_n 1, 1) := by decide +kernel
theorem d_X_again_6 : decode b_X_again 6 = .ok (.bipush (-2), 2) := by decide +kernel
theorem d_X_again_8 : decode b_X_again 8 = .ok (.if_icmp .ne 6, 3) := by decide +kernel
theorem d_X_again_11 : decode b_X_again 11 = .ok (.bipush (-2), 2) := by decide +kernel
theorem d_X_again_13 : decode b_X_again 13 = .ok (.ireturn, 1) := by decide +kernel
theorem d_X_again_14 : decode b_X_again 14 = .ok (.aload_n 0, 1) := by decide +kernel
theorem d_X_again_15 : decode b_X_again 15 = .ok (.getfield 25, 3) := by decide +kernel
theorem d_X_again_18 : decode b_X_again 18 = .ok (.iconst 0, 1) := by decide +kernel
theorem d_X_again_19 : decode b_X_again 19 = .ok (.invokevirtual 40, 3) := by decide +kernel
theorem d_X_again_22 : decode b_X_again 22 = .ok (.pop, 1) := by decide +kernel
theorem d_X_again_23 : decode b_X_again 23 = .ok (.aload_n 0, 1) := by decide +kernel
theorem d_X_again_24 : decode b_X_again 24 = .ok (.iconst 0, 1) := by decide +kernel
theorem d_X_again_25 : decode b_X_again 25 = .ok (.putfield 28, 3) := by decide +kernel
theorem d_X_again_28 : decode b_X_again 28 = .ok (.iconst 0, 1) := by decide +kernel
theorem d_X_again_29 : decode b_X_again 29 = .ok (.istore_n 2, 1) := by decide +kernel
theorem d_X_again_30 : decode b_X_again 30 = .ok (.iload_n 2, 1) := by decide +kernel
theorem d_X_again_31 : decode b_X_again 31 = .ok (.iload_n 1, 1) := by decide +kernel
theorem d_X_again_32 : decode b_X_again 32 = .ok (.if_icmp .ge 31, 3) := by decide +kernel
theorem d_X_again_35 : decode b_X_again 35 = .ok (.aload_n 0, 1) := by decide +kernel
theorem d_X_again_36 : decode b_X_again 36 = .ok (.invokevirtual 48, 3) := by decide +kernel
theorem d_X_again_39 : decode b_X_again 39 = .ok (.pop, 1) := by decide +kernel
theorem d_X_again_40 : decode b_X_again 40 = .ok (.aload_n 0, 1) := by decide +kernel
theorem d_X_again_41 : decode b_X_again 41 = .ok (.getfield 25, 3) := by decide +kernel
theorem d_X_again_44 : decode b_X_again 44 = .ok (.aload_n 0, 1) := by decide +kernel
theorem d_X_again_45 : decode b_X_again 45 = .ok (.getfield 22, 3) := by decide +kernel
theorem d_X_again_48 : decode b_X_again 48 = .ok (.invokestatic 54, 3) := by decide +kernel
theorem d_X_again_51 : decode b_X_again 51 = .ok (.ifCond .ne 6, 3) := by decide +kernel
theorem d_X_again_54 : decode b_X_again 54 = .ok (.bipush (-3), 2) := by decide +kernel
theorem d_X_again_56 : decode b_X_again 56 = .ok (.ireturn, 1) := by decide +kernel
theorem d_X_again_57 : decode b_X_again 57 = .ok (.iinc 2 1, 3) := by decide +kernel
theorem d_X_again_60 : decode b_X_again 60 = .ok (.goto (-30), 3) := by decide +kernel
theorem d_X_again_63 : decode b_X_again 63 = .ok (.aload_n 0, 1) := by decide +kernel
theorem d_X_again_64 : decode b_X_again 64 = .ok (.getfield 16, 3) := by decide +kernel
theorem d_X_again_67 : decode b_X_again 67 = .ok (.aload_n 0, 1) := by decide +kernel
theorem d_X_again_68 : decode b_X_again 68 = .ok (.getfield 25, 3) := by decide +kernel
theorem d_X_again_71 : decode b_X_again 71 = .ok (.invokevirtual 44, 3) := by decide +kernel
theorem d_X_again_74 : decode b_X_again 74 = .ok (.ireturn, 1) := by decide +kernel
theorem d_M_at_0 : decode b_M_at 0 = .ok (.iload_n 1, 1) := by decide +kernel
theorem d_M_at_1 : decode b_M_at 1 = .ok (.aload_n 0, 1) := by decide +kernel
theorem d_M_at_2 : decode b_M_at 2 = .ok (.getfield 25, 3) := by decide +kernel
theorem d_M_at_5 : decode b_M_at 5 = .ok (.if_icmp .ge 12, 3) := by decide +kernel
theorem d_M_at_8 : decode b_M_at 8 = .ok (.aload_n 0, 1) := by decide +kernel
theorem d_M_at_9 : decode b_M_at 9 = .ok (.getfield 13, 3) := by decide +kernel
theorem d_M_at_12 : decode b_M_at 12 = .ok (.iload_n 1, 1) := by decide +kernel
theorem d_M_at_13 : decode b_M_at 13 = .ok (.iaload, 1) := by decide +kernel
theorem d_M_at_14 : decode b_M_at 14 = .ok (.goto 4, 3) := by decide +kernel
theorem d_M_at_17 : decode b_M_at 17 = .ok (.iconst (-1), 1) := by decide +kernel
theorem d_M_at_18 : decode b_M_at 18 = .ok (.ireturn, 1) := by decide +kernel
theorem d_M_isSpace_0 : decode b_M_isSpace 0 = .ok (.iload_n 0, 1) := by decide +kernel
theorem d_M_isSpace_1 : decode b_M_isSpace 1 = .ok (.bipush 32, 2) := by decide +kernel
theorem d_M_isSpace_3 : decode b_M_isSpace 3 = .ok (.if_icmp .eq 15, 3) := by decide +kernel
theorem d_M_isSpace_6 : decode b_M_isSpace 6 = .ok (.iload_n 0, 1) := by decide +kernel
theorem d_M_isSpace_7 : decode b_M_isSpace 7 = .ok (.bipush 8, 2) := by decide +kernel
theorem d_M_isSpace_9 : decode b_M_isSpace 9 = .ok (.if_icmp .le 13, 3) := by decide +kernel
theorem d_M_isSpace_12 : decode b_M_isSpace 12 = .ok (.iload_n 0, 1) := by decide +kernel
theorem d_M_isSpace_13 : decode b_M_isSpace 13 = .ok (.bipush 14, 2) := by decide +kernel
theorem d_M_isSpace_15 : decode b_M_isSpace 15 = .ok (.if_icmp .ge 7, 3) := by decide +kernel
theorem d_M_isSpace_18 : decode b_M_isSpace 18 = .ok (.iconst 1, 1) := by decide +kernel
theorem d_M_isSpace_19 : decode b_M_isSpace 19 = .ok (.goto 4, 3) := by decide +kernel
theorem d_M_isSpace_22 : decode b_M_isSpace 22 = .ok (.iconst 0, 1) := by decide +kernel
theorem d_M_isSpace_23 : decode b_M_isSpace 23 = .ok (.ireturn, 1) := by decide +kernel
theorem d_M_skip_0 : decode b_M_skip 0 = .ok (.iload_n 1, 1) := by decide +kernel
theorem d_M_skip_1 : decode b_M_skip 1 = .ok (.istore_n 2, 1) := by decide +kernel
theorem d_M_skip_2 : decode b_M_skip 2 = .ok (.iload_n 2, 1) := by decide +kernel
theorem d_M_skip_3 : decode b_M_skip 3 = .ok (.aload_n 0, 1) := by decide +kernel
theorem d_M_skip_4 : decode b_M_skip 4 = .ok (.getfield 25, 3) := by decide +kernel
