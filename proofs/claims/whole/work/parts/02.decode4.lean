theorem d_R_putNumber_11 : decode b_R_putNumber 11 = .ok (.bipush 16, 2) := by decide +kernel
theorem d_R_putNumber_13 : decode b_R_putNumber 13 = .ok (.iushr, 1) := by decide +kernel
theorem d_R_putNumber_14 : decode b_R_putNumber 14 = .ok (.invokevirtual 19, 3) := by decide +kernel
theorem d_R_putNumber_17 : decode b_R_putNumber 17 = .ok (.pop, 1) := by decide +kernel
theorem d_R_putNumber_18 : decode b_R_putNumber 18 = .ok (.aload_n 0, 1) := by decide +kernel
theorem d_R_putNumber_19 : decode b_R_putNumber 19 = .ok (.iload_n 1, 1) := by decide +kernel
theorem d_R_putNumber_20 : decode b_R_putNumber 20 = .ok (.bipush 8, 2) := by decide +kernel
theorem d_R_putNumber_22 : decode b_R_putNumber 22 = .ok (.iushr, 1) := by decide +kernel
theorem d_R_putNumber_23 : decode b_R_putNumber 23 = .ok (.invokevirtual 19, 3) := by decide +kernel
theorem d_R_putNumber_26 : decode b_R_putNumber 26 = .ok (.pop, 1) := by decide +kernel
theorem d_R_putNumber_27 : decode b_R_putNumber 27 = .ok (.aload_n 0, 1) := by decide +kernel
theorem d_R_putNumber_28 : decode b_R_putNumber 28 = .ok (.iload_n 1, 1) := by decide +kernel
theorem d_R_putNumber_29 : decode b_R_putNumber 29 = .ok (.invokevirtual 19, 3) := by decide +kernel
theorem d_R_putNumber_32 : decode b_R_putNumber 32 = .ok (.pop, 1) := by decide +kernel
theorem d_R_putNumber_33 : decode b_R_putNumber 33 = .ok (.return_, 1) := by decide +kernel
theorem d_X_feed_0 : decode b_X_feed 0 = .ok (.aload_n 0, 1) := by decide +kernel
theorem d_X_feed_1 : decode b_X_feed 1 = .ok (.getfield 10, 3) := by decide +kernel
theorem d_X_feed_4 : decode b_X_feed 4 = .ok (.invokevirtual 32, 3) := by decide +kernel
theorem d_X_feed_7 : decode b_X_feed 7 = .ok (.sipush 1004, 3) := by decide +kernel
theorem d_X_feed_10 : decode b_X_feed 10 = .ok (.if_icmp .le 5, 3) := by decide +kernel
theorem d_X_feed_13 : decode b_X_feed 13 = .ok (.iconst 0, 1) := by decide +kernel
theorem d_X_feed_14 : decode b_X_feed 14 = .ok (.ireturn, 1) := by decide +kernel
theorem d_X_feed_15 : decode b_X_feed 15 = .ok (.aload_n 0, 1) := by decide +kernel
theorem d_X_feed_16 : decode b_X_feed 16 = .ok (.getfield 10, 3) := by decide +kernel
theorem d_X_feed_19 : decode b_X_feed 19 = .ok (.iload_n 1, 1) := by decide +kernel
theorem d_X_feed_20 : decode b_X_feed 20 = .ok (.invokevirtual 36, 3) := by decide +kernel
theorem d_X_feed_23 : decode b_X_feed 23 = .ok (.aload_n 0, 1) := by decide +kernel
theorem d_X_feed_24 : decode b_X_feed 24 = .ok (.getfield 10, 3) := by decide +kernel
theorem d_X_feed_27 : decode b_X_feed 27 = .ok (.iload_n 2, 1) := by decide +kernel
theorem d_X_feed_28 : decode b_X_feed 28 = .ok (.invokevirtual 36, 3) := by decide +kernel
theorem d_X_feed_31 : decode b_X_feed 31 = .ok (.aload_n 0, 1) := by decide +kernel
theorem d_X_feed_32 : decode b_X_feed 32 = .ok (.getfield 10, 3) := by decide +kernel
theorem d_X_feed_35 : decode b_X_feed 35 = .ok (.iload_n 3, 1) := by decide +kernel
theorem d_X_feed_36 : decode b_X_feed 36 = .ok (.invokevirtual 36, 3) := by decide +kernel
theorem d_X_feed_39 : decode b_X_feed 39 = .ok (.aload_n 0, 1) := by decide +kernel
theorem d_X_feed_40 : decode b_X_feed 40 = .ok (.getfield 10, 3) := by decide +kernel
theorem d_X_feed_43 : decode b_X_feed 43 = .ok (.iload 4, 2) := by decide +kernel
theorem d_X_feed_45 : decode b_X_feed 45 = .ok (.invokevirtual 36, 3) := by decide +kernel
theorem d_X_feed_48 : decode b_X_feed 48 = .ok (.aload_n 0, 1) := by decide +kernel
theorem d_X_feed_49 : decode b_X_feed 49 = .ok (.getfield 10, 3) := by decide +kernel
theorem d_X_feed_52 : decode b_X_feed 52 = .ok (.iload 5, 2) := by decide +kernel
theorem d_X_feed_54 : decode b_X_feed 54 = .ok (.invokevirtual 36, 3) := by decide +kernel
theorem d_X_feed_57 : decode b_X_feed 57 = .ok (.iconst 1, 1) := by decide +kernel
theorem d_X_feed_58 : decode b_X_feed 58 = .ok (.ireturn, 1) := by decide +kernel
theorem d_M_feed_0 : decode b_M_feed 0 = .ok (.aload_n 0, 1) := by decide +kernel
theorem d_M_feed_1 : decode b_M_feed 1 = .ok (.getfield 96, 3) := by decide +kernel
theorem d_M_feed_4 : decode b_M_feed 4 = .ok (.bipush 20, 2) := by decide +kernel
theorem d_M_feed_6 : decode b_M_feed 6 = .ok (.iadd, 1) := by decide +kernel
theorem d_M_feed_7 : decode b_M_feed 7 = .ok (.sipush 1024, 3) := by decide +kernel
theorem d_M_feed_10 : decode b_M_feed 10 = .ok (.if_icmp .le 5, 3) := by decide +kernel
theorem d_M_feed_13 : decode b_M_feed 13 = .ok (.iconst 0, 1) := by decide +kernel
theorem d_M_feed_14 : decode b_M_feed 14 = .ok (.ireturn, 1) := by decide +kernel
theorem d_M_feed_15 : decode b_M_feed 15 = .ok (.iconst 0, 1) := by decide +kernel
theorem d_M_feed_16 : decode b_M_feed 16 = .ok (.istore 6, 2) := by decide +kernel
theorem d_M_feed_18 : decode b_M_feed 18 = .ok (.iload 6, 2) := by decide +kernel
theorem d_M_feed_20 : decode b_M_feed 20 = .ok (.bipush 20, 2) := by decide +kernel
theorem d_M_feed_22 : decode b_M_feed 22 = .ok (.if_icmp .ge 93, 3) := by decide +kernel
theorem d_M_feed_25 : decode b_M_feed 25 = .ok (.iload 6, 2) := by decide +kernel
theorem d_M_feed_27 : decode b_M_feed 27 = .ok (.iconst 4, 1) := by decide +kernel
theorem d_M_feed_28 : decode b_M_feed 28 = .ok (.if_icmp .ge 7, 3) := by decide +kernel
theorem d_M_feed_31 : decode b_M_feed 31 = .ok (.iload_n 1, 1) := by decide +kernel
theorem d_M_feed_32 : decode b_M_feed 32 = .ok (.goto 39, 3) := by decide +kernel
theorem d_M_feed_35 : decode b_M_feed 35 = .ok (.iload 6, 2) := by decide +kernel
theorem d_M_feed_37 : decode b_M_feed 37 = .ok (.bipush 8, 2) := by decide +kernel
theorem d_M_feed_39 : decode b_M_feed 39 = .ok (.if_icmp .ge 7, 3) := by decide +kernel
theorem d_M_feed_42 : decode b_M_feed 42 = .ok (.iload_n 2, 1) := by decide +kernel
theorem d_M_feed_43 : decode b_M_feed 43 = .ok (.goto 28, 3) := by decide +kernel
theorem d_M_feed_46 : decode b_M_feed 46 = .ok (.iload 6, 2) := by decide +kernel
theorem d_M_feed_48 : decode b_M_feed 48 = .ok (.bipush 12, 2) := by decide +kernel
theorem d_M_feed_50 : decode b_M_feed 50 = .ok (.if_icmp .ge 7, 3) := by decide +kernel
theorem d_M_feed_53 : decode b_M_feed 53 = .ok (.iload_n 3, 1) := by decide +kernel
theorem d_M_feed_54 : decode b_M_feed 54 = .ok (.goto 17, 3) := by decide +kernel
theorem d_M_feed_57 : decode b_M_feed 57 = .ok (.iload 6, 2) := by decide +kernel
theorem d_M_feed_59 : decode b_M_feed 59 = .ok (.bipush 16, 2) := by decide +kernel
theorem d_M_feed_61 : decode b_M_feed 61 = .ok (.if_icmp .ge 8, 3) := by decide +kernel
theorem d_M_feed_64 : decode b_M_feed 64 = .ok (.iload 4, 2) := by decide +kernel
theorem d_M_feed_66 : decode b_M_feed 66 = .ok (.goto 5, 3) := by decide +kernel
theorem d_M_feed_69 : decode b_M_feed 69 = .ok (.iload 5, 2) := by decide +kernel
theorem d_M_feed_71 : decode b_M_feed 71 = .ok (.istore 7, 2) := by decide +kernel
theorem d_M_feed_73 : decode b_M_feed 73 = .ok (.aload_n 0, 1) := by decide +kernel
theorem d_M_feed_74 : decode b_M_feed 74 = .ok (.getfield 7, 3) := by decide +kernel
theorem d_M_feed_77 : decode b_M_feed 77 = .ok (.aload_n 0, 1) := by decide +kernel
theorem d_M_feed_78 : decode b_M_feed 78 = .ok (.getfield 96, 3) := by decide +kernel
theorem d_M_feed_81 : decode b_M_feed 81 = .ok (.iload 7, 2) := by decide +kernel
theorem d_M_feed_83 : decode b_M_feed 83 = .ok (.bipush 24, 2) := by decide +kernel
theorem d_M_feed_85 : decode b_M_feed 85 = .ok (.bipush 8, 2) := by decide +kernel
theorem d_M_feed_87 : decode b_M_feed 87 = .ok (.iload 6, 2) := by decide +kernel
theorem d_M_feed_89 : decode b_M_feed 89 = .ok (.iconst 4, 1) := by decide +kernel
theorem d_M_feed_90 : decode b_M_feed 90 = .ok (.irem, 1) := by decide +kernel
theorem d_M_feed_91 : decode b_M_feed 91 = .ok (.imul, 1) := by decide +kernel
theorem d_M_feed_92 : decode b_M_feed 92 = .ok (.isub, 1) := by decide +kernel
theorem d_M_feed_93 : decode b_M_feed 93 = .ok (.ishr, 1) := by decide +kernel
theorem d_M_feed_94 : decode b_M_feed 94 = .ok (.sipush 255, 3) := by decide +kernel
theorem d_M_feed_97 : decode b_M_feed 97 = .ok (.iand, 1) := by decide +kernel
theorem d_M_feed_98 : decode b_M_feed 98 = .ok (.iastore, 1) := by decide +kernel
theorem d_M_feed_99 : decode b_M_feed 99 = .ok (.aload_n 0, 1) := by decide +kernel
theorem d_M_feed_100 : decode b_M_feed 100 = .ok (.dup, 1) := by decide +kernel
theorem d_M_feed_101 : decode b_M_feed 101 = .ok (.getfield 96, 3) := by decide +kernel
theorem d_M_feed_104 : decode b_M_feed 104 = .ok (.iconst 1, 1) := by decide +kernel
theorem d_M_feed_105 : decode b_M_feed 105 = .ok (.iadd, 1) := by decide +kernel
theorem d_M_feed_106 : decode b_M_feed 106 = .ok (.putfield 96, 3) := by decide +kernel
theorem d_M_feed_109 : decode b_M_feed 109 = .ok (.iinc 6 1, 3) := by decide +kernel
theorem d_M_feed_112 : decode b_M_feed 112 = .ok (.goto (-94), 3) := by decide +kernel
theorem d_M_feed_115 : decode b_M_feed 115 = .ok (.iconst 1, 1) := by decide +kernel
theorem d_M_feed_116 : decode b_M_feed 116 = .ok (.ireturn, 1) := by decide +kernel
theorem d_R_init_0 : decode b_R_init 0 = .ok (.aload_n 0, 1) := by decide +kernel
theorem d_R_init_1 : decode b_R_init 1 = .ok (.invokespecial 3, 3) := by decide +kernel
theorem d_R_init_4 : decode b_R_init 4 = .ok (.aload_n 0, 1) := by decide +kernel
theorem d_R_init_5 : decode b_R_init 5 = .ok (.sipush 1024, 3) := by decide +kernel
theorem d_R_init_8 : decode b_R_init 8 = .ok (.newarray .int, 2) := by decide +kernel
theorem d_R_init_10 : decode b_R_init 10 = .ok (.putfield 9, 3) := by decide +kernel
theorem d_R_init_13 : decode b_R_init 13 = .ok (.aload_n 0, 1) := by decide +kernel
theorem d_R_init_14 : decode b_R_init 14 = .ok (.iconst 0, 1) := by decide +kernel
theorem d_R_init_15 : decode b_R_init 15 = .ok (.putfield 15, 3) := by decide +kernel
theorem d_R_init_18 : decode b_R_init 18 = .ok (.return_, 1) := by decide +kernel
theorem d_X_init_0 : decode b_X_init 0 = .ok (.aload_n 0, 1) := by decide +kernel
theorem d_X_init_1 : decode b_X_init 1 = .ok (.invokespecial 1, 3) := by decide +kernel
theorem d_X_init_4 : decode b_X_init 4 = .ok (.aload_n 0, 1) := by decide +kernel
theorem d_X_init_5 : decode b_X_init 5 = .ok (.new 7, 3) := by decide +kernel
theorem d_X_init_8 : decode b_X_init 8 = .ok (.dup, 1) := by decide +kernel
theorem d_X_init_9 : decode b_X_init 9 = .ok (.invokespecial 9, 3) := by decide +kernel
theorem d_X_init_12 : decode b_X_init 12 = .ok (.putfield 10, 3) := by decide +kernel
theorem d_X_init_15 : decode b_X_init 15 = .ok (.aload_n 0, 1) := by decide +kernel
theorem d_X_init_16 : decode b_X_init 16 = .ok (.new 7, 3) := by decide +kernel
theorem d_X_init_19 : decode b_X_init 19 = .ok (.dup, 1) := by decide +kernel
theorem d_X_init_20 : decode b_X_init 20 = .ok (.invokespecial 9, 3) := by decide +kernel
theorem d_X_init_23 : decode b_X_init 23 = .ok (.putfield 16, 3) := by decide +kernel
theorem d_X_init_26 : decode b_X_init 26 = .ok (.aload_n 0, 1) := by decide +kernel
theorem d_X_init_27 : decode b_X_init 27 = .ok (.new 7, 3) := by decide +kernel
theorem d_X_init_30 : decode b_X_init 30 = .ok (.dup, 1) := by decide +kernel
theorem d_X_init_31 : decode b_X_init 31 = .ok (.invokespecial 9, 3) := by decide +kernel
theorem d_X_init_34 : decode b_X_init 34 = .ok (.putfield 19, 3) := by decide +kernel
theorem d_X_init_37 : decode b_X_init 37 = .ok (.aload_n 0, 1) := by decide +kernel
theorem d_X_init_38 : decode b_X_init 38 = .ok (.new 7, 3) := by decide +kernel
theorem d_X_init_41 : decode b_X_init 41 = .ok (.dup, 1) := by decide +kernel
theorem d_X_init_42 : decode b_X_init 42 = .ok (.invokespecial 9, 3) := by decide +kernel
theorem d_X_init_45 : decode b_X_init 45 = .ok (.putfield 22, 3) := by decide +kernel
theorem d_X_init_48 : decode b_X_init 48 = .ok (.aload_n 0, 1) := by decide +kernel
theorem d_X_init_49 : decode b_X_init 49 = .ok (.new 7, 3) := by decide +kernel
theorem d_X_init_52 : decode b_X_init 52 = .ok (.dup, 1) := by decide +kernel
theorem d_X_init_53 : decode b_X_init 53 = .ok (.invokespecial 9, 3) := by decide +kernel
theorem d_X_init_56 : decode b_X_init 56 = .ok (.putfield 25, 3) := by decide +kernel
theorem d_X_init_59 : decode b_X_init 59 = .ok (.aload_n 0, 1) := by decide +kernel
theorem d_X_init_60 : decode b_X_init 60 = .ok (.iconst 0, 1) := by decide +kernel
theorem d_X_init_61 : decode b_X_init 61 = .ok (.putfield 28, 3) := by decide +kernel
theorem d_X_init_64 : decode b_X_init 64 = .ok (.return_, 1) := by decide +kernel
theorem d_M_init_0 : decode b_M_init 0 = .ok (.aload_n 0, 1) := by decide +kernel
theorem d_M_init_1 : decode b_M_init 1 = .ok (.invokespecial 1, 3) := by decide +kernel
theorem d_M_init_4 : decode b_M_init 4 = .ok (.aload_n 0, 1) := by decide +kernel
theorem d_M_init_5 : decode b_M_init 5 = .ok (.sipush 1024, 3) := by decide +kernel
theorem d_M_init_8 : decode b_M_init 8 = .ok (.newarray .int, 2) := by decide +kernel
theorem d_M_init_10 : decode b_M_init 10 = .ok (.putfield 7, 3) := by decide +kernel
theorem d_M_init_13 : decode b_M_init 13 = .ok (.aload_n 0, 1) := by decide +kernel
theorem d_M_init_14 : decode b_M_init 14 = .ok (.sipush 1024, 3) := by decide +kernel
theorem d_M_init_17 : decode b_M_init 17 = .ok (.newarray .int, 2) := by decide +kernel
theorem d_M_init_19 : decode b_M_init 19 = .ok (.putfield 13, 3) := by decide +kernel
theorem d_M_init_22 : decode b_M_init 22 = .ok (.aload_n 0, 1) := by decide +kernel
theorem d_M_init_23 : decode b_M_init 23 = .ok (.sipush 1024, 3) := by decide +kernel
theorem d_M_init_26 : decode b_M_init 26 = .ok (.newarray .int, 2) := by decide +kernel
theorem d_M_init_28 : decode b_M_init 28 = .ok (.putfield 16, 3) := by decide +kernel
theorem d_M_init_31 : decode b_M_init 31 = .ok (.aload_n 0, 1) := by decide +kernel
theorem d_M_init_32 : decode b_M_init 32 = .ok (.sipush 1024, 3) := by decide +kernel
theorem d_M_init_35 : decode b_M_init 35 = .ok (.newarray .int, 2) := by decide +kernel
theorem d_M_init_37 : decode b_M_init 37 = .ok (.putfield 19, 3) := by decide +kernel
theorem d_M_init_40 : decode b_M_init 40 = .ok (.aload_n 0, 1) := by decide +kernel
theorem d_M_init_41 : decode b_M_init 41 = .ok (.sipush 4200, 3) := by decide +kernel
theorem d_M_init_44 : decode b_M_init 44 = .ok (.newarray .int, 2) := by decide +kernel
theorem d_M_init_46 : decode b_M_init 46 = .ok (.putfield 22, 3) := by decide +kernel
theorem d_M_init_49 : decode b_M_init 49 = .ok (.return_, 1) := by decide +kernel
