theorem d_M_isSpecial_38 : decode b_M_isSpecial 38 = .ok (.bipush 93, 2) := by decide +kernel
theorem d_M_isSpecial_40 : decode b_M_isSpecial 40 = .ok (.if_icmp .eq 15, 3) := by decide +kernel
theorem d_M_isSpecial_43 : decode b_M_isSpecial 43 = .ok (.iload_n 0, 1) := by decide +kernel
theorem d_M_isSpecial_44 : decode b_M_isSpecial 44 = .ok (.bipush 123, 2) := by decide +kernel
theorem d_M_isSpecial_46 : decode b_M_isSpecial 46 = .ok (.if_icmp .eq 9, 3) := by decide +kernel
theorem d_M_isSpecial_49 : decode b_M_isSpecial 49 = .ok (.iload_n 0, 1) := by decide +kernel
theorem d_M_isSpecial_50 : decode b_M_isSpecial 50 = .ok (.bipush 125, 2) := by decide +kernel
theorem d_M_isSpecial_52 : decode b_M_isSpecial 52 = .ok (.if_icmp .ne 7, 3) := by decide +kernel
theorem d_M_isSpecial_55 : decode b_M_isSpecial 55 = .ok (.iconst 1, 1) := by decide +kernel
theorem d_M_isSpecial_56 : decode b_M_isSpecial 56 = .ok (.goto 4, 3) := by decide +kernel
theorem d_M_isSpecial_59 : decode b_M_isSpecial 59 = .ok (.iconst 0, 1) := by decide +kernel
theorem d_M_isSpecial_60 : decode b_M_isSpecial 60 = .ok (.ireturn, 1) := by decide +kernel
theorem d_M_isPlain_0 : decode b_M_isPlain 0 = .ok (.aload_n 0, 1) := by decide +kernel
theorem d_M_isPlain_1 : decode b_M_isPlain 1 = .ok (.getfield 49, 3) := by decide +kernel
theorem d_M_isPlain_4 : decode b_M_isPlain 4 = .ok (.ifCond .le 18, 3) := by decide +kernel
theorem d_M_isPlain_7 : decode b_M_isPlain 7 = .ok (.aload_n 0, 1) := by decide +kernel
theorem d_M_isPlain_8 : decode b_M_isPlain 8 = .ok (.getfield 19, 3) := by decide +kernel
theorem d_M_isPlain_11 : decode b_M_isPlain 11 = .ok (.iconst 0, 1) := by decide +kernel
theorem d_M_isPlain_12 : decode b_M_isPlain 12 = .ok (.iaload, 1) := by decide +kernel
theorem d_M_isPlain_13 : decode b_M_isPlain 13 = .ok (.bipush 35, 2) := by decide +kernel
theorem d_M_isPlain_15 : decode b_M_isPlain 15 = .ok (.if_icmp .eq 7, 3) := by decide +kernel
theorem d_M_isPlain_18 : decode b_M_isPlain 18 = .ok (.iconst 1, 1) := by decide +kernel
theorem d_M_isPlain_19 : decode b_M_isPlain 19 = .ok (.goto 4, 3) := by decide +kernel
theorem d_M_isPlain_22 : decode b_M_isPlain 22 = .ok (.iconst 0, 1) := by decide +kernel
theorem d_M_isPlain_23 : decode b_M_isPlain 23 = .ok (.istore_n 1, 1) := by decide +kernel
theorem d_M_isPlain_24 : decode b_M_isPlain 24 = .ok (.iconst 0, 1) := by decide +kernel
theorem d_M_isPlain_25 : decode b_M_isPlain 25 = .ok (.istore_n 2, 1) := by decide +kernel
theorem d_M_isPlain_26 : decode b_M_isPlain 26 = .ok (.iload_n 2, 1) := by decide +kernel
theorem d_M_isPlain_27 : decode b_M_isPlain 27 = .ok (.aload_n 0, 1) := by decide +kernel
theorem d_M_isPlain_28 : decode b_M_isPlain 28 = .ok (.getfield 49, 3) := by decide +kernel
theorem d_M_isPlain_31 : decode b_M_isPlain 31 = .ok (.if_icmp .ge 31, 3) := by decide +kernel
theorem d_M_isPlain_34 : decode b_M_isPlain 34 = .ok (.iload_n 1, 1) := by decide +kernel
theorem d_M_isPlain_35 : decode b_M_isPlain 35 = .ok (.ifCond .eq 19, 3) := by decide +kernel
theorem d_M_isPlain_38 : decode b_M_isPlain 38 = .ok (.aload_n 0, 1) := by decide +kernel
theorem d_M_isPlain_39 : decode b_M_isPlain 39 = .ok (.getfield 19, 3) := by decide +kernel
theorem d_M_isPlain_42 : decode b_M_isPlain 42 = .ok (.iload_n 2, 1) := by decide +kernel
theorem d_M_isPlain_43 : decode b_M_isPlain 43 = .ok (.iaload, 1) := by decide +kernel
theorem d_M_isPlain_44 : decode b_M_isPlain 44 = .ok (.invokestatic 79, 3) := by decide +kernel
theorem d_M_isPlain_47 : decode b_M_isPlain 47 = .ok (.ifCond .ne 7, 3) := by decide +kernel
theorem d_M_isPlain_50 : decode b_M_isPlain 50 = .ok (.iconst 1, 1) := by decide +kernel
theorem d_M_isPlain_51 : decode b_M_isPlain 51 = .ok (.goto 4, 3) := by decide +kernel
theorem d_M_isPlain_54 : decode b_M_isPlain 54 = .ok (.iconst 0, 1) := by decide +kernel
theorem d_M_isPlain_55 : decode b_M_isPlain 55 = .ok (.istore_n 1, 1) := by decide +kernel
theorem d_M_isPlain_56 : decode b_M_isPlain 56 = .ok (.iinc 2 1, 3) := by decide +kernel
theorem d_M_isPlain_59 : decode b_M_isPlain 59 = .ok (.goto (-33), 3) := by decide +kernel
theorem d_M_isPlain_62 : decode b_M_isPlain 62 = .ok (.iload_n 1, 1) := by decide +kernel
theorem d_M_isPlain_63 : decode b_M_isPlain 63 = .ok (.ireturn, 1) := by decide +kernel
theorem d_M_isBraced_0 : decode b_M_isBraced 0 = .ok (.iconst 1, 1) := by decide +kernel
theorem d_M_isBraced_1 : decode b_M_isBraced 1 = .ok (.istore_n 1, 1) := by decide +kernel
theorem d_M_isBraced_2 : decode b_M_isBraced 2 = .ok (.iconst 0, 1) := by decide +kernel
theorem d_M_isBraced_3 : decode b_M_isBraced 3 = .ok (.istore_n 2, 1) := by decide +kernel
theorem d_M_isBraced_4 : decode b_M_isBraced 4 = .ok (.iconst 0, 1) := by decide +kernel
theorem d_M_isBraced_5 : decode b_M_isBraced 5 = .ok (.istore_n 3, 1) := by decide +kernel
theorem d_M_isBraced_6 : decode b_M_isBraced 6 = .ok (.iload_n 3, 1) := by decide +kernel
theorem d_M_isBraced_7 : decode b_M_isBraced 7 = .ok (.aload_n 0, 1) := by decide +kernel
theorem d_M_isBraced_8 : decode b_M_isBraced 8 = .ok (.getfield 49, 3) := by decide +kernel
theorem d_M_isBraced_11 : decode b_M_isBraced 11 = .ok (.if_icmp .ge 68, 3) := by decide +kernel
theorem d_M_isBraced_14 : decode b_M_isBraced 14 = .ok (.iload_n 2, 1) := by decide +kernel
theorem d_M_isBraced_15 : decode b_M_isBraced 15 = .ok (.aload_n 0, 1) := by decide +kernel
theorem d_M_isBraced_16 : decode b_M_isBraced 16 = .ok (.getfield 19, 3) := by decide +kernel
theorem d_M_isBraced_19 : decode b_M_isBraced 19 = .ok (.iload_n 3, 1) := by decide +kernel
theorem d_M_isBraced_20 : decode b_M_isBraced 20 = .ok (.iaload, 1) := by decide +kernel
theorem d_M_isBraced_21 : decode b_M_isBraced 21 = .ok (.bipush 123, 2) := by decide +kernel
theorem d_M_isBraced_23 : decode b_M_isBraced 23 = .ok (.if_icmp .ne 7, 3) := by decide +kernel
theorem d_M_isBraced_26 : decode b_M_isBraced 26 = .ok (.iconst 1, 1) := by decide +kernel
theorem d_M_isBraced_27 : decode b_M_isBraced 27 = .ok (.goto 19, 3) := by decide +kernel
theorem d_M_isBraced_30 : decode b_M_isBraced 30 = .ok (.aload_n 0, 1) := by decide +kernel
theorem d_M_isBraced_31 : decode b_M_isBraced 31 = .ok (.getfield 19, 3) := by decide +kernel
theorem d_M_isBraced_34 : decode b_M_isBraced 34 = .ok (.iload_n 3, 1) := by decide +kernel
theorem d_M_isBraced_35 : decode b_M_isBraced 35 = .ok (.iaload, 1) := by decide +kernel
theorem d_M_isBraced_36 : decode b_M_isBraced 36 = .ok (.bipush 125, 2) := by decide +kernel
theorem d_M_isBraced_38 : decode b_M_isBraced 38 = .ok (.if_icmp .ne 7, 3) := by decide +kernel
theorem d_M_isBraced_41 : decode b_M_isBraced 41 = .ok (.iconst (-1), 1) := by decide +kernel
theorem d_M_isBraced_42 : decode b_M_isBraced 42 = .ok (.goto 4, 3) := by decide +kernel
theorem d_M_isBraced_45 : decode b_M_isBraced 45 = .ok (.iconst 0, 1) := by decide +kernel
theorem d_M_isBraced_46 : decode b_M_isBraced 46 = .ok (.iadd, 1) := by decide +kernel
theorem d_M_isBraced_47 : decode b_M_isBraced 47 = .ok (.istore_n 2, 1) := by decide +kernel
theorem d_M_isBraced_48 : decode b_M_isBraced 48 = .ok (.iload_n 1, 1) := by decide +kernel
theorem d_M_isBraced_49 : decode b_M_isBraced 49 = .ok (.ifCond .eq 22, 3) := by decide +kernel
theorem d_M_isBraced_52 : decode b_M_isBraced 52 = .ok (.iload_n 2, 1) := by decide +kernel
theorem d_M_isBraced_53 : decode b_M_isBraced 53 = .ok (.ifCond .lt 18, 3) := by decide +kernel
theorem d_M_isBraced_56 : decode b_M_isBraced 56 = .ok (.aload_n 0, 1) := by decide +kernel
theorem d_M_isBraced_57 : decode b_M_isBraced 57 = .ok (.getfield 19, 3) := by decide +kernel
theorem d_M_isBraced_60 : decode b_M_isBraced 60 = .ok (.iload_n 3, 1) := by decide +kernel
theorem d_M_isBraced_61 : decode b_M_isBraced 61 = .ok (.iaload, 1) := by decide +kernel
theorem d_M_isBraced_62 : decode b_M_isBraced 62 = .ok (.bipush 92, 2) := by decide +kernel
theorem d_M_isBraced_64 : decode b_M_isBraced 64 = .ok (.if_icmp .eq 7, 3) := by decide +kernel
theorem d_M_isBraced_67 : decode b_M_isBraced 67 = .ok (.iconst 1, 1) := by decide +kernel
theorem d_M_isBraced_68 : decode b_M_isBraced 68 = .ok (.goto 4, 3) := by decide +kernel
theorem d_M_isBraced_71 : decode b_M_isBraced 71 = .ok (.iconst 0, 1) := by decide +kernel
theorem d_M_isBraced_72 : decode b_M_isBraced 72 = .ok (.istore_n 1, 1) := by decide +kernel
theorem d_M_isBraced_73 : decode b_M_isBraced 73 = .ok (.iinc 3 1, 3) := by decide +kernel
theorem d_M_isBraced_76 : decode b_M_isBraced 76 = .ok (.goto (-70), 3) := by decide +kernel
theorem d_M_isBraced_79 : decode b_M_isBraced 79 = .ok (.iload_n 1, 1) := by decide +kernel
theorem d_M_isBraced_80 : decode b_M_isBraced 80 = .ok (.ifCond .eq 11, 3) := by decide +kernel
theorem d_M_isBraced_83 : decode b_M_isBraced 83 = .ok (.iload_n 2, 1) := by decide +kernel
theorem d_M_isBraced_84 : decode b_M_isBraced 84 = .ok (.ifCond .ne 7, 3) := by decide +kernel
theorem d_M_isBraced_87 : decode b_M_isBraced 87 = .ok (.iconst 1, 1) := by decide +kernel
theorem d_M_isBraced_88 : decode b_M_isBraced 88 = .ok (.goto 4, 3) := by decide +kernel
theorem d_M_isBraced_91 : decode b_M_isBraced 91 = .ok (.iconst 0, 1) := by decide +kernel
theorem d_M_isBraced_92 : decode b_M_isBraced 92 = .ok (.ireturn, 1) := by decide +kernel
theorem d_M_escape_0 : decode b_M_escape 0 = .ok (.iload_n 1, 1) := by decide +kernel
theorem d_M_escape_1 : decode b_M_escape 1 = .ok (.invokestatic 79, 3) := by decide +kernel
theorem d_M_escape_4 : decode b_M_escape 4 = .ok (.ifCond .ne 13, 3) := by decide +kernel
theorem d_M_escape_7 : decode b_M_escape 7 = .ok (.iload_n 2, 1) := by decide +kernel
theorem d_M_escape_8 : decode b_M_escape 8 = .ok (.ifCond .eq 15, 3) := by decide +kernel
theorem d_M_escape_11 : decode b_M_escape 11 = .ok (.iload_n 1, 1) := by decide +kernel
theorem d_M_escape_12 : decode b_M_escape 12 = .ok (.bipush 35, 2) := by decide +kernel
theorem d_M_escape_14 : decode b_M_escape 14 = .ok (.if_icmp .ne 9, 3) := by decide +kernel
theorem d_M_escape_17 : decode b_M_escape 17 = .ok (.aload_n 0, 1) := by decide +kernel
theorem d_M_escape_18 : decode b_M_escape 18 = .ok (.bipush 92, 2) := by decide +kernel
theorem d_M_escape_20 : decode b_M_escape 20 = .ok (.invokevirtual 82, 3) := by decide +kernel
theorem d_M_escape_23 : decode b_M_escape 23 = .ok (.aload_n 0, 1) := by decide +kernel
theorem d_M_escape_24 : decode b_M_escape 24 = .ok (.iload_n 1, 1) := by decide +kernel
theorem d_M_escape_25 : decode b_M_escape 25 = .ok (.bipush 9, 2) := by decide +kernel
theorem d_M_escape_27 : decode b_M_escape 27 = .ok (.if_icmp .ne 8, 3) := by decide +kernel
theorem d_M_escape_30 : decode b_M_escape 30 = .ok (.bipush 116, 2) := by decide +kernel
theorem d_M_escape_32 : decode b_M_escape 32 = .ok (.goto 48, 3) := by decide +kernel
theorem d_M_escape_35 : decode b_M_escape 35 = .ok (.iload_n 1, 1) := by decide +kernel
theorem d_M_escape_36 : decode b_M_escape 36 = .ok (.bipush 10, 2) := by decide +kernel
theorem d_M_escape_38 : decode b_M_escape 38 = .ok (.if_icmp .ne 8, 3) := by decide +kernel
theorem d_M_escape_41 : decode b_M_escape 41 = .ok (.bipush 110, 2) := by decide +kernel
theorem d_M_escape_43 : decode b_M_escape 43 = .ok (.goto 37, 3) := by decide +kernel
theorem d_M_escape_46 : decode b_M_escape 46 = .ok (.iload_n 1, 1) := by decide +kernel
theorem d_M_escape_47 : decode b_M_escape 47 = .ok (.bipush 11, 2) := by decide +kernel
theorem d_M_escape_49 : decode b_M_escape 49 = .ok (.if_icmp .ne 8, 3) := by decide +kernel
theorem d_M_escape_52 : decode b_M_escape 52 = .ok (.bipush 118, 2) := by decide +kernel
theorem d_M_escape_54 : decode b_M_escape 54 = .ok (.goto 26, 3) := by decide +kernel
theorem d_M_escape_57 : decode b_M_escape 57 = .ok (.iload_n 1, 1) := by decide +kernel
theorem d_M_escape_58 : decode b_M_escape 58 = .ok (.bipush 12, 2) := by decide +kernel
theorem d_M_escape_60 : decode b_M_escape 60 = .ok (.if_icmp .ne 8, 3) := by decide +kernel
theorem d_M_escape_63 : decode b_M_escape 63 = .ok (.bipush 102, 2) := by decide +kernel
theorem d_M_escape_65 : decode b_M_escape 65 = .ok (.goto 15, 3) := by decide +kernel
theorem d_M_escape_68 : decode b_M_escape 68 = .ok (.iload_n 1, 1) := by decide +kernel
theorem d_M_escape_69 : decode b_M_escape 69 = .ok (.bipush 13, 2) := by decide +kernel
theorem d_M_escape_71 : decode b_M_escape 71 = .ok (.if_icmp .ne 8, 3) := by decide +kernel
theorem d_M_escape_74 : decode b_M_escape 74 = .ok (.bipush 114, 2) := by decide +kernel
theorem d_M_escape_76 : decode b_M_escape 76 = .ok (.goto 4, 3) := by decide +kernel
theorem d_M_escape_79 : decode b_M_escape 79 = .ok (.iload_n 1, 1) := by decide +kernel
theorem d_M_escape_80 : decode b_M_escape 80 = .ok (.invokevirtual 82, 3) := by decide +kernel
theorem d_M_escape_83 : decode b_M_escape 83 = .ok (.return_, 1) := by decide +kernel
theorem d_M_write_0 : decode b_M_write 0 = .ok (.aload_n 0, 1) := by decide +kernel
theorem d_M_write_1 : decode b_M_write 1 = .ok (.getfield 76, 3) := by decide +kernel
theorem d_M_write_4 : decode b_M_write 4 = .ok (.ifCond .le 9, 3) := by decide +kernel
theorem d_M_write_7 : decode b_M_write 7 = .ok (.aload_n 0, 1) := by decide +kernel
theorem d_M_write_8 : decode b_M_write 8 = .ok (.bipush 32, 2) := by decide +kernel
theorem d_M_write_10 : decode b_M_write 10 = .ok (.invokevirtual 82, 3) := by decide +kernel
theorem d_M_write_13 : decode b_M_write 13 = .ok (.aload_n 0, 1) := by decide +kernel
theorem d_M_write_14 : decode b_M_write 14 = .ok (.invokevirtual 85, 3) := by decide +kernel
theorem d_M_write_17 : decode b_M_write 17 = .ok (.ifCond .ne 14, 3) := by decide +kernel
theorem d_M_write_20 : decode b_M_write 20 = .ok (.aload_n 0, 1) := by decide +kernel
theorem d_M_write_21 : decode b_M_write 21 = .ok (.invokevirtual 89, 3) := by decide +kernel
theorem d_M_write_24 : decode b_M_write 24 = .ok (.ifCond .eq 7, 3) := by decide +kernel
theorem d_M_write_27 : decode b_M_write 27 = .ok (.iconst 1, 1) := by decide +kernel
theorem d_M_write_28 : decode b_M_write 28 = .ok (.goto 4, 3) := by decide +kernel
theorem d_M_write_31 : decode b_M_write 31 = .ok (.iconst 0, 1) := by decide +kernel
theorem d_M_write_32 : decode b_M_write 32 = .ok (.istore_n 1, 1) := by decide +kernel
theorem d_M_write_33 : decode b_M_write 33 = .ok (.aload_n 0, 1) := by decide +kernel
theorem d_M_write_34 : decode b_M_write 34 = .ok (.invokevirtual 85, 3) := by decide +kernel
theorem d_M_write_37 : decode b_M_write 37 = .ok (.ifCond .ne 7, 3) := by decide +kernel
theorem d_M_write_40 : decode b_M_write 40 = .ok (.iload_n 1, 1) := by decide +kernel
theorem d_M_write_41 : decode b_M_write 41 = .ok (.ifCond .eq 7, 3) := by decide +kernel
theorem d_M_write_44 : decode b_M_write 44 = .ok (.iconst 1, 1) := by decide +kernel
theorem d_M_write_45 : decode b_M_write 45 = .ok (.goto 4, 3) := by decide +kernel
theorem d_M_write_48 : decode b_M_write 48 = .ok (.iconst 0, 1) := by decide +kernel
theorem d_M_write_49 : decode b_M_write 49 = .ok (.istore_n 2, 1) := by decide +kernel
theorem d_M_write_50 : decode b_M_write 50 = .ok (.iload_n 1, 1) := by decide +kernel
theorem d_M_write_51 : decode b_M_write 51 = .ok (.ifCond .eq 9, 3) := by decide +kernel
theorem d_M_write_54 : decode b_M_write 54 = .ok (.aload_n 0, 1) := by decide +kernel
theorem d_M_write_55 : decode b_M_write 55 = .ok (.bipush 123, 2) := by decide +kernel
theorem d_M_write_57 : decode b_M_write 57 = .ok (.invokevirtual 82, 3) := by decide +kernel
theorem d_M_write_60 : decode b_M_write 60 = .ok (.iconst 0, 1) := by decide +kernel
theorem d_M_write_61 : decode b_M_write 61 = .ok (.istore_n 3, 1) := by decide +kernel
theorem d_M_write_62 : decode b_M_write 62 = .ok (.iload_n 3, 1) := by decide +kernel
theorem d_M_write_63 : decode b_M_write 63 = .ok (.aload_n 0, 1) := by decide +kernel
theorem d_M_write_64 : decode b_M_write 64 = .ok (.getfield 49, 3) := by decide +kernel
theorem d_M_write_67 : decode b_M_write 67 = .ok (.if_icmp .ge 45, 3) := by decide +kernel
theorem d_M_write_70 : decode b_M_write 70 = .ok (.iload_n 2, 1) := by decide +kernel
theorem d_M_write_71 : decode b_M_write 71 = .ok (.ifCond .eq 16, 3) := by decide +kernel
theorem d_M_write_74 : decode b_M_write 74 = .ok (.aload_n 0, 1) := by decide +kernel
theorem d_M_write_75 : decode b_M_write 75 = .ok (.aload_n 0, 1) := by decide +kernel
theorem d_M_write_76 : decode b_M_write 76 = .ok (.getfield 19, 3) := by decide +kernel
theorem d_M_write_79 : decode b_M_write 79 = .ok (.iload_n 3, 1) := by decide +kernel
theorem d_M_write_80 : decode b_M_write 80 = .ok (.iaload, 1) := by decide +kernel
theorem d_M_write_81 : decode b_M_write 81 = .ok (.invokevirtual 82, 3) := by decide +kernel
theorem d_M_write_84 : decode b_M_write 84 = .ok (.goto 22, 3) := by decide +kernel
theorem d_M_write_87 : decode b_M_write 87 = .ok (.aload_n 0, 1) := by decide +kernel
theorem d_M_write_88 : decode b_M_write 88 = .ok (.aload_n 0, 1) := by decide +kernel
theorem d_M_write_89 : decode b_M_write 89 = .ok (.getfield 19, 3) := by decide +kernel
theorem d_M_write_92 : decode b_M_write 92 = .ok (.iload_n 3, 1) := by decide +kernel
theorem d_M_write_93 : decode b_M_write 93 = .ok (.iaload, 1) := by decide +kernel
theorem d_M_write_94 : decode b_M_write 94 = .ok (.iload_n 3, 1) := by decide +kernel
theorem d_M_write_95 : decode b_M_write 95 = .ok (.ifCond .ne 7, 3) := by decide +kernel
theorem d_M_write_98 : decode b_M_write 98 = .ok (.iconst 1, 1) := by decide +kernel
theorem d_M_write_99 : decode b_M_write 99 = .ok (.goto 4, 3) := by decide +kernel
theorem d_M_write_102 : decode b_M_write 102 = .ok (.iconst 0, 1) := by decide +kernel
theorem d_M_write_103 : decode b_M_write 103 = .ok (.invokevirtual 92, 3) := by decide +kernel
theorem d_M_write_106 : decode b_M_write 106 = .ok (.iinc 3 1, 3) := by decide +kernel
theorem d_M_write_109 : decode b_M_write 109 = .ok (.goto (-47), 3) := by decide +kernel
theorem d_M_write_112 : decode b_M_write 112 = .ok (.iload_n 1, 1) := by decide +kernel
theorem d_M_write_113 : decode b_M_write 113 = .ok (.ifCond .eq 9, 3) := by decide +kernel
theorem d_M_write_116 : decode b_M_write 116 = .ok (.aload_n 0, 1) := by decide +kernel
theorem d_M_write_117 : decode b_M_write 117 = .ok (.bipush 125, 2) := by decide +kernel
theorem d_M_write_119 : decode b_M_write 119 = .ok (.invokevirtual 82, 3) := by decide +kernel
theorem d_M_write_122 : decode b_M_write 122 = .ok (.return_, 1) := by decide +kernel
theorem d_M_settle_0 : decode b_M_settle 0 = .ok (.aload_n 0, 1) := by decide +kernel
theorem d_M_settle_1 : decode b_M_settle 1 = .ok (.getfield 76, 3) := by decide +kernel
theorem d_M_settle_4 : decode b_M_settle 4 = .ok (.sipush 1024, 3) := by decide +kernel
theorem d_M_settle_7 : decode b_M_settle 7 = .ok (.if_icmp .le 6, 3) := by decide +kernel
theorem d_M_settle_10 : decode b_M_settle 10 = .ok (.bipush (-3), 2) := by decide +kernel
theorem d_M_settle_12 : decode b_M_settle 12 = .ok (.ireturn, 1) := by decide +kernel
theorem d_M_settle_13 : decode b_M_settle 13 = .ok (.iconst 0, 1) := by decide +kernel
theorem d_M_settle_14 : decode b_M_settle 14 = .ok (.istore_n 1, 1) := by decide +kernel
theorem d_M_settle_15 : decode b_M_settle 15 = .ok (.iload_n 1, 1) := by decide +kernel
theorem d_M_settle_16 : decode b_M_settle 16 = .ok (.aload_n 0, 1) := by decide +kernel
theorem d_M_settle_17 : decode b_M_settle 17 = .ok (.getfield 76, 3) := by decide +kernel
theorem d_M_settle_20 : decode b_M_settle 20 = .ok (.if_icmp .ge 21, 3) := by decide +kernel
theorem d_M_settle_23 : decode b_M_settle 23 = .ok (.aload_n 0, 1) := by decide +kernel
theorem d_M_settle_24 : decode b_M_settle 24 = .ok (.getfield 13, 3) := by decide +kernel
theorem d_M_settle_27 : decode b_M_settle 27 = .ok (.iload_n 1, 1) := by decide +kernel
theorem d_M_settle_28 : decode b_M_settle 28 = .ok (.aload_n 0, 1) := by decide +kernel
theorem d_M_settle_29 : decode b_M_settle 29 = .ok (.getfield 22, 3) := by decide +kernel
theorem d_M_settle_32 : decode b_M_settle 32 = .ok (.iload_n 1, 1) := by decide +kernel
theorem d_M_settle_33 : decode b_M_settle 33 = .ok (.iaload, 1) := by decide +kernel
theorem d_M_settle_34 : decode b_M_settle 34 = .ok (.iastore, 1) := by decide +kernel
theorem d_M_settle_35 : decode b_M_settle 35 = .ok (.iinc 1 1, 3) := by decide +kernel
theorem d_M_settle_38 : decode b_M_settle 38 = .ok (.goto (-23), 3) := by decide +kernel
theorem d_M_settle_41 : decode b_M_settle 41 = .ok (.aload_n 0, 1) := by decide +kernel
theorem d_M_settle_42 : decode b_M_settle 42 = .ok (.aload_n 0, 1) := by decide +kernel
theorem d_M_settle_43 : decode b_M_settle 43 = .ok (.getfield 76, 3) := by decide +kernel
theorem d_M_settle_46 : decode b_M_settle 46 = .ok (.putfield 25, 3) := by decide +kernel
theorem d_M_settle_49 : decode b_M_settle 49 = .ok (.aload_n 0, 1) := by decide +kernel
theorem d_M_settle_50 : decode b_M_settle 50 = .ok (.getfield 76, 3) := by decide +kernel
theorem d_M_settle_53 : decode b_M_settle 53 = .ok (.ireturn, 1) := by decide +kernel
theorem d_M_again_0 : decode b_M_again 0 = .ok (.aload_n 0, 1) := by decide +kernel
theorem d_M_again_1 : decode b_M_again 1 = .ok (.sipush 1024, 3) := by decide +kernel
theorem d_M_again_4 : decode b_M_again 4 = .ok (.invokevirtual 102, 3) := by decide +kernel
theorem d_M_again_7 : decode b_M_again 7 = .ok (.istore_n 1, 1) := by decide +kernel
theorem d_M_again_8 : decode b_M_again 8 = .ok (.iload_n 1, 1) := by decide +kernel
theorem d_M_again_9 : decode b_M_again 9 = .ok (.bipush (-2), 2) := by decide +kernel
theorem d_M_again_11 : decode b_M_again 11 = .ok (.if_icmp .ne 6, 3) := by decide +kernel
theorem d_M_again_14 : decode b_M_again 14 = .ok (.bipush (-2), 2) := by decide +kernel
theorem d_M_again_16 : decode b_M_again 16 = .ok (.ireturn, 1) := by decide +kernel
theorem d_M_again_17 : decode b_M_again 17 = .ok (.aload_n 0, 1) := by decide +kernel
theorem d_M_again_18 : decode b_M_again 18 = .ok (.iconst 0, 1) := by decide +kernel
theorem d_M_again_19 : decode b_M_again 19 = .ok (.putfield 76, 3) := by decide +kernel
theorem d_M_again_22 : decode b_M_again 22 = .ok (.iconst 0, 1) := by decide +kernel
theorem d_M_again_23 : decode b_M_again 23 = .ok (.istore_n 2, 1) := by decide +kernel
theorem d_M_again_24 : decode b_M_again 24 = .ok (.iload_n 2, 1) := by decide +kernel
theorem d_M_again_25 : decode b_M_again 25 = .ok (.iload_n 1, 1) := by decide +kernel
theorem d_M_again_26 : decode b_M_again 26 = .ok (.if_icmp .ge 29, 3) := by decide +kernel
theorem d_M_again_29 : decode b_M_again 29 = .ok (.aload_n 0, 1) := by decide +kernel
theorem d_M_again_30 : decode b_M_again 30 = .ok (.getfield 76, 3) := by decide +kernel
theorem d_M_again_33 : decode b_M_again 33 = .ok (.sipush 1024, 3) := by decide +kernel
theorem d_M_again_36 : decode b_M_again 36 = .ok (.if_icmp .gt 19, 3) := by decide +kernel
theorem d_M_again_39 : decode b_M_again 39 = .ok (.aload_n 0, 1) := by decide +kernel
theorem d_M_again_40 : decode b_M_again 40 = .ok (.iload_n 2, 1) := by decide +kernel
theorem d_M_again_41 : decode b_M_again 41 = .ok (.invokevirtual 102, 3) := by decide +kernel
theorem d_M_again_44 : decode b_M_again 44 = .ok (.istore_n 3, 1) := by decide +kernel
theorem d_M_again_45 : decode b_M_again 45 = .ok (.aload_n 0, 1) := by decide +kernel
theorem d_M_again_46 : decode b_M_again 46 = .ok (.invokevirtual 105, 3) := by decide +kernel
theorem d_M_again_49 : decode b_M_again 49 = .ok (.iinc 2 1, 3) := by decide +kernel
theorem d_M_again_52 : decode b_M_again 52 = .ok (.goto (-28), 3) := by decide +kernel
theorem d_M_again_55 : decode b_M_again 55 = .ok (.aload_n 0, 1) := by decide +kernel
theorem d_M_again_56 : decode b_M_again 56 = .ok (.invokevirtual 108, 3) := by decide +kernel
theorem d_M_again_59 : decode b_M_again 59 = .ok (.ireturn, 1) := by decide +kernel
theorem d_X_append_0 : decode b_X_append 0 = .ok (.aload_n 0, 1) := by decide +kernel
theorem d_X_append_1 : decode b_X_append 1 = .ok (.getfield 16, 3) := by decide +kernel
theorem d_X_append_4 : decode b_X_append 4 = .ok (.invokevirtual 32, 3) := by decide +kernel
theorem d_X_append_7 : decode b_X_append 7 = .ok (.istore_n 1, 1) := by decide +kernel
theorem d_X_append_8 : decode b_X_append 8 = .ok (.aload_n 0, 1) := by decide +kernel
theorem d_X_append_9 : decode b_X_append 9 = .ok (.getfield 16, 3) := by decide +kernel
theorem d_X_append_12 : decode b_X_append 12 = .ok (.aload_n 0, 1) := by decide +kernel
theorem d_X_append_13 : decode b_X_append 13 = .ok (.getfield 19, 3) := by decide +kernel
theorem d_X_append_16 : decode b_X_append 16 = .ok (.invokestatic 54, 3) := by decide +kernel
theorem d_X_append_19 : decode b_X_append 19 = .ok (.ifCond .eq 11, 3) := by decide +kernel
theorem d_X_append_22 : decode b_X_append 22 = .ok (.aload_n 0, 1) := by decide +kernel
theorem d_X_append_23 : decode b_X_append 23 = .ok (.getfield 16, 3) := by decide +kernel
theorem d_X_append_26 : decode b_X_append 26 = .ok (.invokevirtual 32, 3) := by decide +kernel
theorem d_X_append_29 : decode b_X_append 29 = .ok (.ireturn, 1) := by decide +kernel
theorem d_X_append_30 : decode b_X_append 30 = .ok (.aload_n 0, 1) := by decide +kernel
theorem d_X_append_31 : decode b_X_append 31 = .ok (.getfield 16, 3) := by decide +kernel
theorem d_X_append_34 : decode b_X_append 34 = .ok (.iload_n 1, 1) := by decide +kernel
theorem d_X_append_35 : decode b_X_append 35 = .ok (.invokevirtual 40, 3) := by decide +kernel
theorem d_X_append_38 : decode b_X_append 38 = .ok (.pop, 1) := by decide +kernel
theorem d_X_append_39 : decode b_X_append 39 = .ok (.bipush (-3), 2) := by decide +kernel
theorem d_X_append_41 : decode b_X_append 41 = .ok (.ireturn, 1) := by decide +kernel
theorem d_M_append_0 : decode b_M_append 0 = .ok (.aload_n 0, 1) := by decide +kernel
theorem d_M_append_1 : decode b_M_append 1 = .ok (.iconst 0, 1) := by decide +kernel
theorem d_M_append_2 : decode b_M_append 2 = .ok (.putfield 76, 3) := by decide +kernel
theorem d_M_append_5 : decode b_M_append 5 = .ok (.iconst 0, 1) := by decide +kernel
theorem d_M_append_6 : decode b_M_append 6 = .ok (.istore_n 1, 1) := by decide +kernel
theorem d_M_append_7 : decode b_M_append 7 = .ok (.iload_n 1, 1) := by decide +kernel
theorem d_M_append_8 : decode b_M_append 8 = .ok (.aload_n 0, 1) := by decide +kernel
theorem d_M_append_9 : decode b_M_append 9 = .ok (.getfield 25, 3) := by decide +kernel
theorem d_M_append_12 : decode b_M_append 12 = .ok (.if_icmp .ge 19, 3) := by decide +kernel
theorem d_M_append_15 : decode b_M_append 15 = .ok (.aload_n 0, 1) := by decide +kernel
theorem d_M_append_16 : decode b_M_append 16 = .ok (.aload_n 0, 1) := by decide +kernel
theorem d_M_append_17 : decode b_M_append 17 = .ok (.getfield 13, 3) := by decide +kernel
theorem d_M_append_20 : decode b_M_append 20 = .ok (.iload_n 1, 1) := by decide +kernel
theorem d_M_append_21 : decode b_M_append 21 = .ok (.iaload, 1) := by decide +kernel
theorem d_M_append_22 : decode b_M_append 22 = .ok (.invokevirtual 82, 3) := by decide +kernel
theorem d_M_append_25 : decode b_M_append 25 = .ok (.iinc 1 1, 3) := by decide +kernel
theorem d_M_append_28 : decode b_M_append 28 = .ok (.goto (-21), 3) := by decide +kernel
theorem d_M_append_31 : decode b_M_append 31 = .ok (.iconst 0, 1) := by decide +kernel
theorem d_M_append_32 : decode b_M_append 32 = .ok (.istore_n 1, 1) := by decide +kernel
theorem d_M_append_33 : decode b_M_append 33 = .ok (.iload_n 1, 1) := by decide +kernel
theorem d_M_append_34 : decode b_M_append 34 = .ok (.aload_n 0, 1) := by decide +kernel
theorem d_M_append_35 : decode b_M_append 35 = .ok (.getfield 99, 3) := by decide +kernel
theorem d_M_append_38 : decode b_M_append 38 = .ok (.if_icmp .ge 21, 3) := by decide +kernel
theorem d_M_append_41 : decode b_M_append 41 = .ok (.aload_n 0, 1) := by decide +kernel
theorem d_M_append_42 : decode b_M_append 42 = .ok (.getfield 19, 3) := by decide +kernel
theorem d_M_append_45 : decode b_M_append 45 = .ok (.iload_n 1, 1) := by decide +kernel
theorem d_M_append_46 : decode b_M_append 46 = .ok (.aload_n 0, 1) := by decide +kernel
theorem d_M_append_47 : decode b_M_append 47 = .ok (.getfield 16, 3) := by decide +kernel
theorem d_M_append_50 : decode b_M_append 50 = .ok (.iload_n 1, 1) := by decide +kernel
theorem d_M_append_51 : decode b_M_append 51 = .ok (.iaload, 1) := by decide +kernel
theorem d_M_append_52 : decode b_M_append 52 = .ok (.iastore, 1) := by decide +kernel
theorem d_M_append_53 : decode b_M_append 53 = .ok (.iinc 1 1, 3) := by decide +kernel
theorem d_M_append_56 : decode b_M_append 56 = .ok (.goto (-23), 3) := by decide +kernel
theorem d_M_append_59 : decode b_M_append 59 = .ok (.aload_n 0, 1) := by decide +kernel
theorem d_M_append_60 : decode b_M_append 60 = .ok (.aload_n 0, 1) := by decide +kernel
theorem d_M_append_61 : decode b_M_append 61 = .ok (.getfield 99, 3) := by decide +kernel
theorem d_M_append_64 : decode b_M_append 64 = .ok (.putfield 49, 3) := by decide +kernel
theorem d_M_append_67 : decode b_M_append 67 = .ok (.aload_n 0, 1) := by decide +kernel
theorem d_M_append_68 : decode b_M_append 68 = .ok (.invokevirtual 105, 3) := by decide +kernel
theorem d_M_append_71 : decode b_M_append 71 = .ok (.aload_n 0, 1) := by decide +kernel
theorem d_M_append_72 : decode b_M_append 72 = .ok (.invokevirtual 108, 3) := by decide +kernel
theorem d_M_append_75 : decode b_M_append 75 = .ok (.ireturn, 1) := by decide +kernel
theorem d_X_element_0 : decode b_X_element 0 = .ok (.aload_n 0, 1) := by decide +kernel
theorem d_X_element_1 : decode b_X_element 1 = .ok (.invokevirtual 51, 3) := by decide +kernel
theorem d_X_element_4 : decode b_X_element 4 = .ok (.istore_n 2, 1) := by decide +kernel
theorem d_X_element_5 : decode b_X_element 5 = .ok (.iload_n 2, 1) := by decide +kernel
theorem d_X_element_6 : decode b_X_element 6 = .ok (.bipush (-2), 2) := by decide +kernel
theorem d_X_element_8 : decode b_X_element 8 = .ok (.if_icmp .ne 6, 3) := by decide +kernel
theorem d_X_element_11 : decode b_X_element 11 = .ok (.bipush (-2), 2) := by decide +kernel
theorem d_X_element_13 : decode b_X_element 13 = .ok (.ireturn, 1) := by decide +kernel
theorem d_X_element_14 : decode b_X_element 14 = .ok (.iload_n 1, 1) := by decide +kernel
theorem d_X_element_15 : decode b_X_element 15 = .ok (.ifCond .lt 8, 3) := by decide +kernel
theorem d_X_element_18 : decode b_X_element 18 = .ok (.iload_n 1, 1) := by decide +kernel
theorem d_X_element_19 : decode b_X_element 19 = .ok (.iload_n 2, 1) := by decide +kernel
theorem d_X_element_20 : decode b_X_element 20 = .ok (.if_icmp .lt 5, 3) := by decide +kernel
theorem d_X_element_23 : decode b_X_element 23 = .ok (.iconst (-1), 1) := by decide +kernel
theorem d_X_element_24 : decode b_X_element 24 = .ok (.ireturn, 1) := by decide +kernel
theorem d_X_element_25 : decode b_X_element 25 = .ok (.aload_n 0, 1) := by decide +kernel
theorem d_X_element_26 : decode b_X_element 26 = .ok (.iconst 0, 1) := by decide +kernel
theorem d_X_element_27 : decode b_X_element 27 = .ok (.putfield 28, 3) := by decide +kernel
theorem d_X_element_30 : decode b_X_element 30 = .ok (.iconst 0, 1) := by decide +kernel
theorem d_X_element_31 : decode b_X_element 31 = .ok (.istore_n 3, 1) := by decide +kernel
theorem d_X_element_32 : decode b_X_element 32 = .ok (.iload_n 3, 1) := by decide +kernel
theorem d_X_element_33 : decode b_X_element 33 = .ok (.iload_n 1, 1) := by decide +kernel
theorem d_X_element_34 : decode b_X_element 34 = .ok (.if_icmp .gt 14, 3) := by decide +kernel
theorem d_X_element_37 : decode b_X_element 37 = .ok (.aload_n 0, 1) := by decide +kernel
theorem d_X_element_38 : decode b_X_element 38 = .ok (.invokevirtual 48, 3) := by decide +kernel
theorem d_X_element_41 : decode b_X_element 41 = .ok (.pop, 1) := by decide +kernel
theorem d_X_element_42 : decode b_X_element 42 = .ok (.iinc 3 1, 3) := by decide +kernel
theorem d_X_element_45 : decode b_X_element 45 = .ok (.goto (-13), 3) := by decide +kernel
theorem d_X_element_48 : decode b_X_element 48 = .ok (.aload_n 0, 1) := by decide +kernel
theorem d_X_element_49 : decode b_X_element 49 = .ok (.getfield 19, 3) := by decide +kernel
theorem d_X_element_52 : decode b_X_element 52 = .ok (.aload_n 0, 1) := by decide +kernel
theorem d_X_element_53 : decode b_X_element 53 = .ok (.getfield 22, 3) := by decide +kernel
theorem d_X_element_56 : decode b_X_element 56 = .ok (.invokevirtual 44, 3) := by decide +kernel
theorem d_X_element_59 : decode b_X_element 59 = .ok (.ireturn, 1) := by decide +kernel
theorem d_M_element_0 : decode b_M_element 0 = .ok (.aload_n 0, 1) := by decide +kernel
theorem d_M_element_1 : decode b_M_element 1 = .ok (.sipush 1024, 3) := by decide +kernel
theorem d_M_element_4 : decode b_M_element 4 = .ok (.invokevirtual 102, 3) := by decide +kernel
theorem d_M_element_7 : decode b_M_element 7 = .ok (.istore_n 2, 1) := by decide +kernel
theorem d_M_element_8 : decode b_M_element 8 = .ok (.iload_n 2, 1) := by decide +kernel
theorem d_M_element_9 : decode b_M_element 9 = .ok (.bipush (-2), 2) := by decide +kernel
theorem d_M_element_11 : decode b_M_element 11 = .ok (.if_icmp .ne 6, 3) := by decide +kernel
theorem d_M_element_14 : decode b_M_element 14 = .ok (.bipush (-2), 2) := by decide +kernel
theorem d_M_element_16 : decode b_M_element 16 = .ok (.ireturn, 1) := by decide +kernel
theorem d_M_element_17 : decode b_M_element 17 = .ok (.iload_n 1, 1) := by decide +kernel
theorem d_M_element_18 : decode b_M_element 18 = .ok (.ifCond .lt 8, 3) := by decide +kernel
theorem d_M_element_21 : decode b_M_element 21 = .ok (.iload_n 1, 1) := by decide +kernel
theorem d_M_element_22 : decode b_M_element 22 = .ok (.iload_n 2, 1) := by decide +kernel
theorem d_M_element_23 : decode b_M_element 23 = .ok (.if_icmp .lt 5, 3) := by decide +kernel
theorem d_M_element_26 : decode b_M_element 26 = .ok (.iconst (-1), 1) := by decide +kernel
theorem d_M_element_27 : decode b_M_element 27 = .ok (.ireturn, 1) := by decide +kernel
theorem d_M_element_28 : decode b_M_element 28 = .ok (.aload_n 0, 1) := by decide +kernel
theorem d_M_element_29 : decode b_M_element 29 = .ok (.iload_n 1, 1) := by decide +kernel
theorem d_M_element_30 : decode b_M_element 30 = .ok (.invokevirtual 102, 3) := by decide +kernel
theorem d_M_element_33 : decode b_M_element 33 = .ok (.istore_n 2, 1) := by decide +kernel
theorem d_M_element_34 : decode b_M_element 34 = .ok (.iconst 0, 1) := by decide +kernel
theorem d_M_element_35 : decode b_M_element 35 = .ok (.istore_n 3, 1) := by decide +kernel
theorem d_M_element_36 : decode b_M_element 36 = .ok (.iload_n 3, 1) := by decide +kernel
theorem d_M_element_37 : decode b_M_element 37 = .ok (.aload_n 0, 1) := by decide +kernel
theorem d_M_element_38 : decode b_M_element 38 = .ok (.getfield 49, 3) := by decide +kernel
theorem d_M_element_41 : decode b_M_element 41 = .ok (.if_icmp .ge 21, 3) := by decide +kernel
theorem d_M_element_44 : decode b_M_element 44 = .ok (.aload_n 0, 1) := by decide +kernel
theorem d_M_element_45 : decode b_M_element 45 = .ok (.getfield 16, 3) := by decide +kernel
theorem d_M_element_48 : decode b_M_element 48 = .ok (.iload_n 3, 1) := by decide +kernel
theorem d_M_element_49 : decode b_M_element 49 = .ok (.aload_n 0, 1) := by decide +kernel
theorem d_M_element_50 : decode b_M_element 50 = .ok (.getfield 19, 3) := by decide +kernel
theorem d_M_element_53 : decode b_M_element 53 = .ok (.iload_n 3, 1) := by decide +kernel
theorem d_M_element_54 : decode b_M_element 54 = .ok (.iaload, 1) := by decide +kernel
theorem d_M_element_55 : decode b_M_element 55 = .ok (.iastore, 1) := by decide +kernel
theorem d_M_element_56 : decode b_M_element 56 = .ok (.iinc 3 1, 3) := by decide +kernel
theorem d_M_element_59 : decode b_M_element 59 = .ok (.goto (-23), 3) := by decide +kernel
theorem d_M_element_62 : decode b_M_element 62 = .ok (.aload_n 0, 1) := by decide +kernel
theorem d_M_element_63 : decode b_M_element 63 = .ok (.aload_n 0, 1) := by decide +kernel
theorem d_M_element_64 : decode b_M_element 64 = .ok (.getfield 49, 3) := by decide +kernel
theorem d_M_element_67 : decode b_M_element 67 = .ok (.putfield 99, 3) := by decide +kernel
theorem d_M_element_70 : decode b_M_element 70 = .ok (.aload_n 0, 1) := by decide +kernel
theorem d_M_element_71 : decode b_M_element 71 = .ok (.getfield 99, 3) := by decide +kernel
theorem d_M_element_74 : decode b_M_element 74 = .ok (.ireturn, 1) := by decide +kernel
theorem d_M_count_0 : decode b_M_count 0 = .ok (.aload_n 0, 1) := by decide +kernel
theorem d_M_count_1 : decode b_M_count 1 = .ok (.sipush 1024, 3) := by decide +kernel
theorem d_M_count_4 : decode b_M_count 4 = .ok (.invokevirtual 102, 3) := by decide +kernel
theorem d_M_count_7 : decode b_M_count 7 = .ok (.ireturn, 1) := by decide +kernel
theorem d_X_item_0 : decode b_X_item 0 = .ok (.aload_n 0, 1) := by decide +kernel
theorem d_X_item_1 : decode b_X_item 1 = .ok (.getfield 19, 3) := by decide +kernel
theorem d_X_item_4 : decode b_X_item 4 = .ok (.aload_n 0, 1) := by decide +kernel
theorem d_X_item_5 : decode b_X_item 5 = .ok (.getfield 10, 3) := by decide +kernel
theorem d_X_item_8 : decode b_X_item 8 = .ok (.invokevirtual 44, 3) := by decide +kernel
theorem d_X_item_11 : decode b_X_item 11 = .ok (.ireturn, 1) := by decide +kernel
theorem d_M_item_0 : decode b_M_item 0 = .ok (.iconst 0, 1) := by decide +kernel
theorem d_M_item_1 : decode b_M_item 1 = .ok (.istore_n 1, 1) := by decide +kernel
theorem d_M_item_2 : decode b_M_item 2 = .ok (.iload_n 1, 1) := by decide +kernel
theorem d_M_item_3 : decode b_M_item 3 = .ok (.aload_n 0, 1) := by decide +kernel
theorem d_M_item_4 : decode b_M_item 4 = .ok (.getfield 96, 3) := by decide +kernel
theorem d_M_item_7 : decode b_M_item 7 = .ok (.if_icmp .ge 21, 3) := by decide +kernel
theorem d_M_item_10 : decode b_M_item 10 = .ok (.aload_n 0, 1) := by decide +kernel
theorem d_M_item_11 : decode b_M_item 11 = .ok (.getfield 16, 3) := by decide +kernel
theorem d_M_item_14 : decode b_M_item 14 = .ok (.iload_n 1, 1) := by decide +kernel
theorem d_M_item_15 : decode b_M_item 15 = .ok (.aload_n 0, 1) := by decide +kernel
theorem d_M_item_16 : decode b_M_item 16 = .ok (.getfield 7, 3) := by decide +kernel
theorem d_M_item_19 : decode b_M_item 19 = .ok (.iload_n 1, 1) := by decide +kernel
theorem d_M_item_20 : decode b_M_item 20 = .ok (.iaload, 1) := by decide +kernel
theorem d_M_item_21 : decode b_M_item 21 = .ok (.iastore, 1) := by decide +kernel
theorem d_M_item_22 : decode b_M_item 22 = .ok (.iinc 1 1, 3) := by decide +kernel
theorem d_M_item_25 : decode b_M_item 25 = .ok (.goto (-23), 3) := by decide +kernel
theorem d_M_item_28 : decode b_M_item 28 = .ok (.aload_n 0, 1) := by decide +kernel
theorem d_M_item_29 : decode b_M_item 29 = .ok (.aload_n 0, 1) := by decide +kernel
theorem d_M_item_30 : decode b_M_item 30 = .ok (.getfield 96, 3) := by decide +kernel
theorem d_M_item_33 : decode b_M_item 33 = .ok (.putfield 99, 3) := by decide +kernel
theorem d_M_item_36 : decode b_M_item 36 = .ok (.aload_n 0, 1) := by decide +kernel
theorem d_M_item_37 : decode b_M_item 37 = .ok (.iconst 0, 1) := by decide +kernel
theorem d_M_item_38 : decode b_M_item 38 = .ok (.putfield 96, 3) := by decide +kernel
theorem d_M_item_41 : decode b_M_item 41 = .ok (.aload_n 0, 1) := by decide +kernel
theorem d_M_item_42 : decode b_M_item 42 = .ok (.getfield 99, 3) := by decide +kernel
theorem d_M_item_45 : decode b_M_item 45 = .ok (.ireturn, 1) := by decide +kernel
theorem d_X_list_0 : decode b_X_list 0 = .ok (.aload_n 0, 1) := by decide +kernel
theorem d_X_list_1 : decode b_X_list 1 = .ok (.getfield 16, 3) := by decide +kernel
theorem d_X_list_4 : decode b_X_list 4 = .ok (.aload_n 0, 1) := by decide +kernel
theorem d_X_list_5 : decode b_X_list 5 = .ok (.getfield 10, 3) := by decide +kernel
theorem d_X_list_8 : decode b_X_list 8 = .ok (.invokevirtual 44, 3) := by decide +kernel
theorem d_X_list_11 : decode b_X_list 11 = .ok (.ireturn, 1) := by decide +kernel
theorem d_M_list_0 : decode b_M_list 0 = .ok (.iconst 0, 1) := by decide +kernel
theorem d_M_list_1 : decode b_M_list 1 = .ok (.istore_n 1, 1) := by decide +kernel
theorem d_M_list_2 : decode b_M_list 2 = .ok (.iload_n 1, 1) := by decide +kernel
theorem d_M_list_3 : decode b_M_list 3 = .ok (.aload_n 0, 1) := by decide +kernel
theorem d_M_list_4 : decode b_M_list 4 = .ok (.getfield 96, 3) := by decide +kernel
theorem d_M_list_7 : decode b_M_list 7 = .ok (.if_icmp .ge 21, 3) := by decide +kernel
theorem d_M_list_10 : decode b_M_list 10 = .ok (.aload_n 0, 1) := by decide +kernel
theorem d_M_list_11 : decode b_M_list 11 = .ok (.getfield 13, 3) := by decide +kernel
theorem d_M_list_14 : decode b_M_list 14 = .ok (.iload_n 1, 1) := by decide +kernel
theorem d_M_list_15 : decode b_M_list 15 = .ok (.aload_n 0, 1) := by decide +kernel
theorem d_M_list_16 : decode b_M_list 16 = .ok (.getfield 7, 3) := by decide +kernel
theorem d_M_list_19 : decode b_M_list 19 = .ok (.iload_n 1, 1) := by decide +kernel
theorem d_M_list_20 : decode b_M_list 20 = .ok (.iaload, 1) := by decide +kernel
theorem d_M_list_21 : decode b_M_list 21 = .ok (.iastore, 1) := by decide +kernel
theorem d_M_list_22 : decode b_M_list 22 = .ok (.iinc 1 1, 3) := by decide +kernel
theorem d_M_list_25 : decode b_M_list 25 = .ok (.goto (-23), 3) := by decide +kernel
theorem d_M_list_28 : decode b_M_list 28 = .ok (.aload_n 0, 1) := by decide +kernel
theorem d_M_list_29 : decode b_M_list 29 = .ok (.aload_n 0, 1) := by decide +kernel
theorem d_M_list_30 : decode b_M_list 30 = .ok (.getfield 96, 3) := by decide +kernel
theorem d_M_list_33 : decode b_M_list 33 = .ok (.putfield 25, 3) := by decide +kernel
theorem d_M_list_36 : decode b_M_list 36 = .ok (.aload_n 0, 1) := by decide +kernel
theorem d_M_list_37 : decode b_M_list 37 = .ok (.iconst 0, 1) := by decide +kernel
theorem d_M_list_38 : decode b_M_list 38 = .ok (.putfield 96, 3) := by decide +kernel
theorem d_M_list_41 : decode b_M_list 41 = .ok (.aload_n 0, 1) := by decide +kernel
theorem d_M_list_42 : decode b_M_list 42 = .ok (.getfield 25, 3) := by decide +kernel
theorem d_M_list_45 : decode b_M_list 45 = .ok (.ireturn, 1) := by decide +kernel
theorem d_X_end_0 : decode b_X_end 0 = .ok (.aload_n 0, 1) := by decide +kernel
theorem d_X_end_1 : decode b_X_end 1 = .ok (.getfield 10, 3) := by decide +kernel
theorem d_X_end_4 : decode b_X_end 4 = .ok (.iload_n 1, 1) := by decide +kernel
theorem d_X_end_5 : decode b_X_end 5 = .ok (.invokevirtual 40, 3) := by decide +kernel
theorem d_X_end_8 : decode b_X_end 8 = .ok (.ireturn, 1) := by decide +kernel
theorem d_M_end_0 : decode b_M_end 0 = .ok (.iload_n 1, 1) := by decide +kernel
theorem d_M_end_1 : decode b_M_end 1 = .ok (.ifCond .lt 11, 3) := by decide +kernel
theorem d_M_end_4 : decode b_M_end 4 = .ok (.iload_n 1, 1) := by decide +kernel
theorem d_M_end_5 : decode b_M_end 5 = .ok (.aload_n 0, 1) := by decide +kernel
theorem d_M_end_6 : decode b_M_end 6 = .ok (.getfield 96, 3) := by decide +kernel
theorem d_M_end_9 : decode b_M_end 9 = .ok (.if_icmp .le 5, 3) := by decide +kernel
theorem d_M_end_12 : decode b_M_end 12 = .ok (.iconst 0, 1) := by decide +kernel
theorem d_M_end_13 : decode b_M_end 13 = .ok (.ireturn, 1) := by decide +kernel
theorem d_M_end_14 : decode b_M_end 14 = .ok (.aload_n 0, 1) := by decide +kernel
theorem d_M_end_15 : decode b_M_end 15 = .ok (.iload_n 1, 1) := by decide +kernel
theorem d_M_end_16 : decode b_M_end 16 = .ok (.putfield 96, 3) := by decide +kernel
theorem d_M_end_19 : decode b_M_end 19 = .ok (.iconst 1, 1) := by decide +kernel
theorem d_M_end_20 : decode b_M_end 20 = .ok (.ireturn, 1) := by decide +kernel
theorem d_R_putNumber_0 : decode b_R_putNumber 0 = .ok (.aload_n 0, 1) := by decide +kernel
theorem d_R_putNumber_1 : decode b_R_putNumber 1 = .ok (.iload_n 1, 1) := by decide +kernel
theorem d_R_putNumber_2 : decode b_R_putNumber 2 = .ok (.bipush 24, 2) := by decide +kernel
theorem d_R_putNumber_4 : decode b_R_putNumber 4 = .ok (.iushr, 1) := by decide +kernel
theorem d_R_putNumber_5 : decode b_R_putNumber 5 = .ok (.invokevirtual 19, 3) := by decide +kernel
theorem d_R_putNumber_8 : decode b_R_putNumber 8 = .ok (.pop, 1) := by decide +kernel
theorem d_R_putNumber_9 : decode b_R_putNumber 9 = .ok (.aload_n 0, 1) := by decide +kernel
theorem d_R_putNumber_10 : decode b_R_putNumber 10 = .ok (.iload_n 1, 1) := by decide +kernel
